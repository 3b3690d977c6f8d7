section
-- ===== PART A: goes FIRST, ahead of the names: the tables' words, and 'selects' of the private methods out of them =====
/-- a private method of a class that the tables say can be made, by its rows of tables_1 -/
def lw_okq (q : MethodName × Nat) : Prop := (q.1.cls ≠ "java/lang/invoke/MethodHandle" ∧ q.1.cls ≠ "java/lang/invoke/VarHandle") ∧ Cond.instantiable q.1.cls q.2 ∈ tables_1 ∧ Cond.privateMethod q.1 ∈ tables_1 ∧ Cond.instanceMethod q.1 ∈ tables_1
theorem lw_p0 : lw_okq (⟨"DebtRows", "find", "(I)LDebtRows$Debt;"⟩, 5) := ⟨⟨by decide +kernel, by decide +kernel⟩, List.mem_of_getElem? (i := 14) (by decide +kernel), List.mem_of_getElem? (i := 66) (by decide +kernel), List.mem_of_getElem? (i := 67) (by decide +kernel)⟩
theorem lw_p1 : lw_okq (⟨"DebtRows", "overAllDebts", "(I)J"⟩, 5) := ⟨⟨by decide +kernel, by decide +kernel⟩, List.mem_of_getElem? (i := 14) (by decide +kernel), List.mem_of_getElem? (i := 85) (by decide +kernel), List.mem_of_getElem? (i := 86) (by decide +kernel)⟩
theorem lw_p2 : lw_okq (⟨"java/lang/Throwable", "fillInStackTrace", "(I)Ljava/lang/Throwable;"⟩, 6) := ⟨⟨by decide +kernel, by decide +kernel⟩, List.mem_of_getElem? (i := 143) (by decide +kernel), List.mem_of_getElem? (i := 141) (by decide +kernel), List.mem_of_getElem? (i := 142) (by decide +kernel)⟩
theorem lw_p3 : lw_okq (⟨"DebtRows", "findOrRefuse", "(I)LDebtRows$Debt;"⟩, 5) := ⟨⟨by decide +kernel, by decide +kernel⟩, List.mem_of_getElem? (i := 14) (by decide +kernel), List.mem_of_getElem? (i := 296) (by decide +kernel), List.mem_of_getElem? (i := 297) (by decide +kernel)⟩
theorem lw_p4 : lw_okq (⟨"DebtRowsModel", "fails", "(I)I"⟩, 23) := ⟨⟨by decide +kernel, by decide +kernel⟩, List.mem_of_getElem? (i := 466) (by decide +kernel), List.mem_of_getElem? (i := 550) (by decide +kernel), List.mem_of_getElem? (i := 551) (by decide +kernel)⟩
theorem lw_p5 : lw_okq (⟨"DebtRowsModel", "isDebt", "(I)Z"⟩, 23) := ⟨⟨by decide +kernel, by decide +kernel⟩, List.mem_of_getElem? (i := 466) (by decide +kernel), List.mem_of_getElem? (i := 570) (by decide +kernel), List.mem_of_getElem? (i := 571) (by decide +kernel)⟩
theorem lw_p6 : lw_okq (⟨"DebtRowsModel", "debtorOf", "(II)I"⟩, 23) := ⟨⟨by decide +kernel, by decide +kernel⟩, List.mem_of_getElem? (i := 466) (by decide +kernel), List.mem_of_getElem? (i := 574) (by decide +kernel), List.mem_of_getElem? (i := 575) (by decide +kernel)⟩
theorem lw_p7 : lw_okq (⟨"DebtRowsModel", "payOf", "(IIJ)J"⟩, 23) := ⟨⟨by decide +kernel, by decide +kernel⟩, List.mem_of_getElem? (i := 466) (by decide +kernel), List.mem_of_getElem? (i := 586) (by decide +kernel), List.mem_of_getElem? (i := 587) (by decide +kernel)⟩
theorem lw_p8 : lw_okq (⟨"DebtRowsModel", "fix", "(I)V"⟩, 23) := ⟨⟨by decide +kernel, by decide +kernel⟩, List.mem_of_getElem? (i := 466) (by decide +kernel), List.mem_of_getElem? (i := 590) (by decide +kernel), List.mem_of_getElem? (i := 591) (by decide +kernel)⟩
theorem lw_p9 : lw_okq (⟨"DebtRowsModel", "running", "(I)J"⟩, 23) := ⟨⟨by decide +kernel, by decide +kernel⟩, List.mem_of_getElem? (i := 466) (by decide +kernel), List.mem_of_getElem? (i := 594) (by decide +kernel), List.mem_of_getElem? (i := 595) (by decide +kernel)⟩
theorem lw_p10 : lw_okq (⟨"DebtRowsModel", "daysOf", "(III)J"⟩, 23) := ⟨⟨by decide +kernel, by decide +kernel⟩, List.mem_of_getElem? (i := 466) (by decide +kernel), List.mem_of_getElem? (i := 598) (by decide +kernel), List.mem_of_getElem? (i := 599) (by decide +kernel)⟩
theorem lw_p11 : lw_okq (⟨"DebtRowsModel", "lose", "(II)J"⟩, 23) := ⟨⟨by decide +kernel, by decide +kernel⟩, List.mem_of_getElem? (i := 466) (by decide +kernel), List.mem_of_getElem? (i := 604) (by decide +kernel), List.mem_of_getElem? (i := 605) (by decide +kernel)⟩
theorem lw_p12 : lw_okq (⟨"DebtRowsModel", "again", "(II)V"⟩, 23) := ⟨⟨by decide +kernel, by decide +kernel⟩, List.mem_of_getElem? (i := 466) (by decide +kernel), List.mem_of_getElem? (i := 623) (by decide +kernel), List.mem_of_getElem? (i := 624) (by decide +kernel)⟩
theorem lw_p13 : lw_okq (⟨"DebtRowsModel", "missedOn", "(I)I"⟩, 23) := ⟨⟨by decide +kernel, by decide +kernel⟩, List.mem_of_getElem? (i := 466) (by decide +kernel), List.mem_of_getElem? (i := 632) (by decide +kernel), List.mem_of_getElem? (i := 633) (by decide +kernel)⟩
def lw_privs_1 : List (MethodName × Nat) := [(⟨"DebtRows", "find", "(I)LDebtRows$Debt;"⟩, 5), (⟨"DebtRows", "overAllDebts", "(I)J"⟩, 5), (⟨"java/lang/Throwable", "fillInStackTrace", "(I)Ljava/lang/Throwable;"⟩, 6), (⟨"DebtRows", "findOrRefuse", "(I)LDebtRows$Debt;"⟩, 5), (⟨"DebtRowsModel", "fails", "(I)I"⟩, 23), (⟨"DebtRowsModel", "isDebt", "(I)Z"⟩, 23), (⟨"DebtRowsModel", "debtorOf", "(II)I"⟩, 23), (⟨"DebtRowsModel", "payOf", "(IIJ)J"⟩, 23), (⟨"DebtRowsModel", "fix", "(I)V"⟩, 23), (⟨"DebtRowsModel", "running", "(I)J"⟩, 23), (⟨"DebtRowsModel", "daysOf", "(III)J"⟩, 23), (⟨"DebtRowsModel", "lose", "(II)J"⟩, 23), (⟨"DebtRowsModel", "again", "(II)V"⟩, 23), (⟨"DebtRowsModel", "missedOn", "(I)I"⟩, 23)]
theorem lw_r1 : ∀ q ∈ lw_privs_1, lw_okq q := List.forall_mem_cons.mpr ⟨lw_p0, List.forall_mem_cons.mpr ⟨lw_p1, List.forall_mem_cons.mpr ⟨lw_p2, List.forall_mem_cons.mpr ⟨lw_p3, List.forall_mem_cons.mpr ⟨lw_p4, List.forall_mem_cons.mpr ⟨lw_p5, List.forall_mem_cons.mpr ⟨lw_p6, List.forall_mem_cons.mpr ⟨lw_p7, List.forall_mem_cons.mpr ⟨lw_p8, List.forall_mem_cons.mpr ⟨lw_p9, List.forall_mem_cons.mpr ⟨lw_p10, List.forall_mem_cons.mpr ⟨lw_p11, List.forall_mem_cons.mpr ⟨lw_p12, List.forall_mem_cons.mpr ⟨lw_p13, fun _ h => absurd h List.not_mem_nil⟩⟩⟩⟩⟩⟩⟩⟩⟩⟩⟩⟩⟩⟩
def lw_privs : List (MethodName × Nat) := lw_privs_1
def lw_tbl : List Cond := k2_sels lw_privs ++ tables_1
theorem lw_privs_ok : ∀ q ∈ lw_privs, lw_okq q := lw_r1
/-! ===== BEGIN words of one list among another's, by their places ===== -/
theorem goodIn_r {big : List Cond} (ws : List Cond) (ps : List Nat) (hp : ws = ps.filterMap (fun i => big[i]?)) (h : ws.all goodWord = true) : GoodIn big ws := by
  intro w hw
  have h1 := List.all_eq_true.mp h w hw
  rw [hp] at hw
  obtain ⟨i, -, hi⟩ := List.mem_filterMap.mp hw
  have hm : w ∈ big := by first | exact List.mem_of_getElem? hi | exact List.getElem?_mem hi
  exact ⟨hm, good_of_word h1⟩
theorem goodIn_app {big a b : List Cond} (ha : GoodIn big a) (hb : GoodIn big b) : GoodIn big (a ++ b) := fun w h => (List.mem_append.mp h).elim (ha w) (hb w)
theorem goodIn_ca {big a b : List Cond} {c : Cond} (ha : GoodIn big (c :: a)) (hb : GoodIn big b) : GoodIn big (c :: (a ++ b)) := fun w h => (List.mem_cons.mp h).elim (fun e => ha w (List.mem_cons.mpr (Or.inl e))) (fun h => (List.mem_append.mp h).elim (fun h => ha w (List.mem_cons.mpr (Or.inr h))) (hb w))
theorem goodIn_sub {big ws : List Cond} (hm : ∀ w ∈ ws, w ∈ big) (h : ws.all goodWord = true) : GoodIn big ws := fun w hw => ⟨hm w hw, good_of_word (List.all_eq_true.mp h w hw)⟩
/-! ===== END ===== -/

/-! ===== BEGIN exceptions that leave a method, and their catching by the caller (launches without stack traces) ===== -/
section VXA
/-! The laws vx_back, vx_callV, vx_callS, vx_callSW, vx_throw0, vx_throwS follow proofs of the library, with one case more: JvmDerived/Free/Laws.lean (Back.of_free), Shelf42/LK1.lean (callV, callS), Shelf/KitTraced.lean (throwNew0V, throwNewS). -/
/-- where a method has thrown q: the class by its name, the cell, what was written, the world -/
def vx_T (XC : String → State → State → Prop) (st : State) (q : Addr) (t : State) (mc ms : Nat) (free : Addr → Prop) : Prop :=
  ∃ (E : String) (ce : Cell) (L : List Loc), XC E st t ∧ t.heap[q]? = some ce ∧ ce.vm = .none ∧ st.vm.findClass E = some ce.cls ∧ st.WarmedH t.vm ∧ st.sameButNew ({ t with vm := st.vm } : State) L mc ms ∧ ∀ z ∈ L, free z.base
def vx_Q (Qc : Array Value → State → Outcome → State → Prop) (XC : String → State → State → Prop) (mc ms : Nat) (free : Addr → Prop) : Array Value → State → Outcome → State → Prop := fun a st o t =>
  (Qc a st o t ∧ ∃ L, FrameEnd st o t L mc ms ∧ ∀ q ∈ L, free q.base) ∨ ∃ q, o = .threw q ∧ vx_T XC st q t mc ms free
/-- a callee that returns or throws -/
def vx_Met (l : Launch) (y : MethodName) (ws : List Cond) (rm : Room) (Pc : Array Value → State → Prop) (Qc : Array Value → State → Outcome → State → Prop) (XC : String → State → State → Prop) (mc ms : Nat) (free : Addr → Prop) : Prop :=
  MetFree l y (headSpec ws rm) Pc (fun _ _ _ _ _ => True) (vx_Q Qc XC mc ms free)
def vx_Post (XC : String → State → State → Prop) (mc ms : Nat) (free : Addr → Prop) : Pt → Array Value → Addr → Pt → Prop := fun A a q B =>
  ∃ (g : JFrame) (mk : MethodId) (t : State) (L : List Loc) (E : String) (ce : Cell), B.U.heap = t.heap ∧ B.U.vm = t.vm ∧ XC E (A.U.calling g mk a) t ∧ t.heap[q]? = some ce ∧ ce.vm = .none ∧ A.U.vm.findClass E = some ce.cls ∧ B.locs = A.locs ++ L ∧ (∀ z ∈ L, free z.base) ∧ B.cells = A.cells + mc ∧ B.slots = A.slots + ms
def vx_Back (l : Launch) (R : Room) (p : Program) (e : Env) (below : List Frame) (s : State) (sargs : Array Value) (y : MethodName) (len W9 : Nat)
    (Pre : Pt → Array Value → Prop) (Post : Pt → Array Value → Option Value → Pt → Prop) (PostX : Pt → Array Value → Addr → Pt → Prop) : Prop :=
  ∀ (m : MethodId) (meth : Method) (c : Code) (A : Pt) (g : JFrame) (ig : Instr) (mk : MethodId) (a : Array Value),
    Stand p l e R s m sargs below meth c A.U A.locs A.cells A.slots → g.method = m → g.locals.size = c.maxLocals → decode c.code g.pc = .ok (ig, len) →
    2 * g.monitorRoom + (g.stack.map fun v => v.category).sum ≤ W9 → A.U.methodNamed? y = some mk → Pre A a →
    (∃ (v : Option Value) (B : Pt), Stand p l e R s m sargs below meth c B.U B.locs B.cells B.slots ∧ Post A a v B ∧
      Steps p.tables e below (doInvoke e (A.U.setTop g) [] mk a).1 (B.U.setTop { g with pc := g.pc + len, stack := v.toList ++ g.stack })) ∨
    (∃ (q : Addr) (B : Pt), Stand p l e R s m sargs below meth c B.U B.locs B.cells B.slots ∧ PostX A a q B ∧
      Steps p.tables e below (doInvoke e (A.U.setTop g) [] mk a).1 ((B.U.setTop g).pushFrame (.throwing q)))
section Payer
variable {l : Launch} {R : Room} {p : Program} {e : Env} {below : List Frame} {s : State} {sargs : Array Value} {y : MethodName} {len W9 : Nat}
theorem vx_back {ws : List Cond} {rm : Room} {Pc : Array Value → State → Prop} {Qc : Array Value → State → Outcome → State → Prop} {XC : String → State → State → Prop} {mc ms : Nat} {free : Addr → Prop} {bytes : ByteArray} {maxL : Nat} {ret : Option FieldType}
    (hM : vx_Met l y ws rm Pc Qc XC mc ms free) (hblind : FrameBlind Pc) (hrc : rm.cells = mc) (hrs : rm.slots = ms)
    (hframes : rm.frames + 1 ≤ R.frames) (hlocals : W9 + (maxL + 11) + rm.locals ≤ R.locals)
    (hws : ∀ w ∈ ws, ∀ a' U, s.WarmedH U.vm → w.before a' U = true) (hcode : Cond.code y bytes maxL ret ∈ ws) (hinit : ∀ a' U, s.WarmedH U.vm → (Cond.initialized y.cls).before a' U = true) :
    vx_Back l R p e below s sargs y len W9 (PreOf R mc ms Pc) (PostOf Qc mc ms free) (vx_Post XC mc ms free) := by
  intro m meth c A g ig mk a X hg hsize hdg hW hn hp
  have h1 : (headSpec ws rm).pre.before a A.U = true := atoms_intro fun w hw => hws w hw _ _ X.warmed
  have h2 : (Cond.code y bytes maxL ret).before a A.U = true := hws _ hcode _ _ X.warmed
  have h3 : (Cond.initialized y.cls).before a A.U = true := hinit _ _ X.warmed
  have h4 : A.cells + (headSpec ws rm).room.cells ≤ R.cells := by rw [show (headSpec ws rm).room.cells = mc from hrc]; exact hp.1
  have h5 : A.slots + (headSpec ws rm).room.slots ≤ R.slots := by rw [show (headSpec ws rm).room.slots = ms from hrs]; exact hp.2.1
  have hPc : Pc a (A.U.calling g mk a) := hblind _ _ _ _ hp.2.2
  obtain ⟨U, Ls, c0, s0⟩ := A
  dsimp only [Pt.U, Pt.locs, Pt.cells, Pt.slots] at h1 h2 h3 h4 h5 X hn hPc ⊢
  obtain ⟨methY, cY, hmY, hcY, -, hlY, -, -, -, -⟩ := Cond.code_spec hn h2
  obtain ⟨kY, hkY, -⟩ := className_of_methodNamed hn
  have hinitY : kY.init = .initialized := Cond.initialized_spec (findClass_of_methodNamed hn) hkY h3
  have h : At U g.method c below := by rw [hg]; exact X.here
  have hlocals9 : W9 + (maxL + 11) + (headSpec ws rm).room.locals ≤ R.locals := hlocals
  have happ : (headSpec ws rm).appliesLoose y e.platform (U.calling g mk a) = true :=
    Spec.appliesLoose_calling (g := g) h hdg hn hkY hinitY
      (X.room_calling (g := g) (R' := (headSpec ws rm).room) hsize hmY hcY hframes (by rw [hlY]; omega) h4 h5) h1
  obtain ⟨mid, hmid⟩ := h.above
  have hfr : (U.setTop g).frames = (.java g :: mid) ++ below := by rw [State.frames_setTop' g h.top, hmid]; rfl
  obtain ⟨o, s₂, hsteps, -, hend, hq⟩ := Steps.callFree hM p X.admits X.cas X.clock (acts := []) hfr happ hPc trivial
  have hq' : vx_Q Qc XC mc ms free a (U.calling g mk a) o s₂ := hq
  rw [State.frames_setTop' g h.top] at hend
  obtain ⟨g₀, hg0⟩ := Option.isSome_iff_exists.mp h.top
  obtain ⟨r, hr⟩ := State.topJava?_eq_some.mp hg0
  have hr' : (({ U with heap := s₂.heap, slotsUsed := s₂.slotsUsed } : State).setVm s₂.vm).frames = .java g₀ :: r := hr
  rcases hq' with ⟨hqc, L, hfe, hL⟩ | ⟨q, rfl, E, ce, L, hx, hce, hcv, hcl, hW₂, hsm, hL⟩
  · obtain ⟨⟨v, rfl⟩, hW₂, e2, q2, q3, q4, q5, q6⟩ := id hfe
    have e3 : s₂ = ({ (U.calling g mk a).setFrames s₂.frames with heap := s₂.heap, slotsUsed := s₂.slotsUsed } : State).setVm s₂.vm := by
      have : s₂ = ({ s₂ with vm := (U.calling g mk a).vm } : State).setVm s₂.vm := rfl
      rw [e2] at this
      exact this
    obtain ⟨c₂, i₂, len₂, hc₂, hd₂, hf₂⟩ := hend
    have hW' : U.WarmedH s₂.vm := hW₂
    have hcc : c₂ = c := by
      have h1 : s₂.code? g.method = U.code? g.method := by
        rw [State.code?_eq, State.code?_eq, hW'.alike.method?]
      exact Option.some.inj (hc₂.symm.trans (h1.trans h.code))
    subst hcc
    have hlen : len₂ = len := by rw [hdg] at hd₂; cases hd₂; rfl
    subst hlen
    have hs₂ : s₂ = (({ U with heap := s₂.heap, slotsUsed := s₂.slotsUsed } : State).setVm s₂.vm).setTop { g with pc := g.pc + len₂, stack := v.toList ++ g.stack } := by
      refine e3.trans ?_
      rw [hf₂, State.calling_eq h.top, State.setFrames_setFrames, State.setTop_of_frames _ hr', hr]
      rfl
    have hsame : U.sameButNew ({ U with heap := s₂.heap, slotsUsed := s₂.slotsUsed } : State) L mc ms := by
      refine ⟨?_, q2, q3, q4, q5, q6⟩
      obtain ⟨t, ht, -⟩ := State.frames_cons hr
      show ({ U with heap := s₂.heap, slotsUsed := s₂.slotsUsed } : State) = { U.setFrames U.frames with heap := s₂.heap, slotsUsed := s₂.slotsUsed }
      rw [State.setFrames_self ht]
    subst hg
    refine Or.inl ⟨v, ⟨(({ U with heap := s₂.heap, slotsUsed := s₂.slotsUsed } : State).setVm s₂.vm), Ls ++ L, c0 + mc, s0 + ms⟩,
      ⟨X.admits, X.cas, X.clock, X.frames, X.room, X.hears, X.method, X.code, (X.here.setHeapUsed s₂.heap s₂.slotsUsed).setVm hW'.alike, X.tail, State.WarmedH.trans X.warmed hW', X.limits, X.bytes, X.same.trans (hsame.setVm s.vm)⟩,
      ⟨g, mk, s₂, L, rfl, rfl, hqc, rfl, hL, rfl, rfl⟩, ?_⟩
    show Steps p.tables e below _ ((({ U with heap := s₂.heap, slotsUsed := s₂.slotsUsed } : State).setVm s₂.vm).setTop { g with pc := g.pc + len₂, stack := v.toList ++ g.stack })
    rw [← hs₂]
    exact hsteps
  · obtain ⟨e2, q2, q3, q4, q5, q6⟩ := id hsm
    have e3 : s₂ = ({ (U.calling g mk a).setFrames s₂.frames with heap := s₂.heap, slotsUsed := s₂.slotsUsed } : State).setVm s₂.vm := by
      have : s₂ = ({ s₂ with vm := (U.calling g mk a).vm } : State).setVm s₂.vm := rfl
      rw [e2] at this
      exact this
    have hf₂ : s₂.frames = .throwing q :: .java g :: U.frames.tail := hend
    have hW' : U.WarmedH s₂.vm := hW₂
    have hs₂ : s₂ = ((({ U with heap := s₂.heap, slotsUsed := s₂.slotsUsed } : State).setVm s₂.vm).setTop g).pushFrame (.throwing q) := by
      refine e3.trans ?_
      rw [hf₂, State.calling_eq h.top, State.setFrames_setFrames, State.pushFrame, State.frames_setTop _ hr', State.setTop_of_frames _ hr', State.setFrames_setFrames, hr]
      rfl
    have hsame : U.sameButNew ({ U with heap := s₂.heap, slotsUsed := s₂.slotsUsed } : State) L mc ms := by
      refine ⟨?_, q2, q3, q4, q5, q6⟩
      obtain ⟨t, ht, -⟩ := State.frames_cons hr
      show ({ U with heap := s₂.heap, slotsUsed := s₂.slotsUsed } : State) = { U.setFrames U.frames with heap := s₂.heap, slotsUsed := s₂.slotsUsed }
      rw [State.setFrames_self ht]
    subst hg
    refine Or.inr ⟨q, ⟨(({ U with heap := s₂.heap, slotsUsed := s₂.slotsUsed } : State).setVm s₂.vm), Ls ++ L, c0 + mc, s0 + ms⟩,
      ⟨X.admits, X.cas, X.clock, X.frames, X.room, X.hears, X.method, X.code, (X.here.setHeapUsed s₂.heap s₂.slotsUsed).setVm hW'.alike, X.tail, State.WarmedH.trans X.warmed hW', X.limits, X.bytes, X.same.trans (hsame.setVm s.vm)⟩,
      ⟨g, mk, s₂, L, E, ce, rfl, rfl, hx, hce, hcv, hcl, rfl, hL, rfl, rfl⟩, ?_⟩
    show Steps p.tables e below _ (((({ U with heap := s₂.heap, slotsUsed := s₂.slotsUsed } : State).setVm s₂.vm).setTop g).pushFrame (.throwing q))
    rw [← hs₂]
    exact hsteps
end Payer
section Calls
variable {p : Program} {l : Launch} {e : Env} {R : Room} {s : State} {m : MethodId} {args : Array Value} {below : List Frame} {meth : Method} {c : Code} {T : State} {locs : List Loc} {cells slots : Nat}
theorem vx_callV (X : Stand p l e R s m args below meth c T locs cells slots) (hexec : p.tables.exec = Jvm.exec) {own C : String} {index : Nat} {y : MethodName} {bytes : ByteArray} {maxL : Nat} {ret : Option FieldType}
    (hown : s.vm.findClass own = some m.cls) (hlink : (Cond.methodLink own index y).before args s = true) (hinst : (Cond.instanceMethod y).before args s = true) (hsel : (Cond.selects C y y).before args s = true)
    (hcode : (Cond.code y bytes maxL ret).before args s = true) (hy : y.cls ≠ "java/lang/invoke/MethodHandle" ∧ y.cls ≠ "java/lang/invoke/VarHandle")
    {W9 : Nat} {Pre : Pt → Array Value → Prop} {Post : Pt → Array Value → Option Value → Pt → Prop} {PostX : Pt → Array Value → Addr → Pt → Prop} (hK : vx_Back l R p e below s args y 3 W9 Pre Post PostX)
    {b : Addr} {cellB : Cell} (hcell : T.heap[b]? = some cellB) (hobj : cellB.vm.isStatics = false) (hcls : s.vm.findClass C = some cellB.cls)
    {g : JFrame} (hg : g.method = m) (hsize : g.locals.size = c.maxLocals) {argsL rest : List Value} (hlen : ∀ sig, parseMethodDescriptor y.desc = some sig → argsL.length = sig.parameters.length)
    (hstack : g.stack = argsL.reverse ++ .ref b :: rest) (hW : 2 * g.monitorRoom + (rest.map fun v => v.category).sum ≤ W9) (hdg : decode c.code g.pc = .ok (.invokevirtual index, 3))
    (hpre : ∀ vm₁, s.WarmedH vm₁ → Pre ⟨T.setVm vm₁, locs, cells, slots⟩ (Value.ref b :: argsL).toArray) :
    (∃ (v : Option Value) (vm₁ : Vm) (B : Pt), s.WarmedH vm₁ ∧ Stand p l e R s m args below meth c B.U B.locs B.cells B.slots ∧ Post ⟨T.setVm vm₁, locs, cells, slots⟩ (Value.ref b :: argsL).toArray v B ∧
      ∀ target, Steps p.tables e below (B.U.setTop { g with pc := g.pc + 3, stack := v.toList ++ rest }) target → Steps p.tables e below (T.setTop g) target) ∨
    (∃ (q : Addr) (vm₁ : Vm) (B : Pt), s.WarmedH vm₁ ∧ Stand p l e R s m args below meth c B.U B.locs B.cells B.slots ∧ PostX ⟨T.setVm vm₁, locs, cells, slots⟩ (Value.ref b :: argsL).toArray q B ∧
      Steps p.tables e below (T.setTop g) ((B.U.setTop { g with stack := rest }).pushFrame (.throwing q))) := by
  obtain ⟨mk, methM, hnamed, hmethM, hstM, habM⟩ := Cond.instanceMethod_spec hinst
  obtain ⟨methM', cM, hmethM', -, -, -, -, -, -, hsigM⟩ := Cond.code_spec hnamed hcode
  cases hmethM.symm.trans hmethM'
  obtain ⟨c2, r2, m2, q1, q2, q3, q4, kP, hkP, hkPi⟩ := Cond.selects_spec hsel
  cases hcls.symm.trans q1
  cases (State.methodFound?_of_named hnamed hy).symm.trans q2
  cases hnamed.symm.trans q3
  have hselP : selectMethod e.platform s.vm cellB.cls mk = .method mk := by rw [Launch.admits_selectMethod X.admits]; exact q4
  obtain ⟨vm₁, X₁, hstep₁⟩ := X.invokevirtual hexec hown hlink hnamed hmethM hstM hkP hkPi hy (a := b) (cell := cellB) hcell
    (fun z h => by rw [h] at hobj; cases hobj) hselP hmethM habM hkP hkPi (g := g) hg (argsL := argsL) (rest := rest) (hlen _ hsigM) hstack hdg
  rcases hK m meth c ⟨T.setVm vm₁, locs, cells, slots⟩ { g with stack := rest } (.invokevirtual index) mk (Value.ref b :: argsL).toArray X₁ hg hsize hdg hW (X₁.named hnamed) (hpre vm₁ X₁.warmed) with ⟨v, B, X', hpost, hsteps⟩ | ⟨q, B, X', hpost, hsteps⟩
  · exact Or.inl ⟨v, vm₁, B, X₁.warmed, X', hpost, fun target h => hstep₁ _ fun acts => by rw [doInvoke_state]; exact hsteps.trans h⟩
  · exact Or.inr ⟨q, vm₁, B, X₁.warmed, X', hpost, hstep₁ _ fun acts => by rw [doInvoke_state]; exact hsteps⟩
theorem vx_callS (X : Stand p l e R s m args below meth c T locs cells slots) (hexec : p.tables.exec = Jvm.exec) {own : String} {index : Nat} {y : MethodName} {bytes : ByteArray} {maxL : Nat} {ret : Option FieldType}
    (hown : s.vm.findClass own = some m.cls) (hlink : (Cond.methodLink own index y).before args s = true) (hstat : (Cond.static y).before args s = true) (hinit : (Cond.initialized y.cls).before args s = true)
    (hcode : (Cond.code y bytes maxL ret).before args s = true) (hy : y.cls ≠ "java/lang/invoke/MethodHandle" ∧ y.cls ≠ "java/lang/invoke/VarHandle")
    {W9 : Nat} {Pre : Pt → Array Value → Prop} {Post : Pt → Array Value → Option Value → Pt → Prop} {PostX : Pt → Array Value → Addr → Pt → Prop} (hK : vx_Back l R p e below s args y 3 W9 Pre Post PostX)
    {g : JFrame} (hg : g.method = m) (hsize : g.locals.size = c.maxLocals) {argsL rest : List Value} (hlen : ∀ sig, parseMethodDescriptor y.desc = some sig → argsL.length = sig.parameters.length)
    (hstack : g.stack = argsL.reverse ++ rest) (hW : 2 * g.monitorRoom + (rest.map fun v => v.category).sum ≤ W9) (hdg : decode c.code g.pc = .ok (.invokestatic index, 3))
    (hpre : ∀ vm₁, s.WarmedH vm₁ → Pre ⟨T.setVm vm₁, locs, cells, slots⟩ argsL.toArray) :
    (∃ (v : Option Value) (vm₁ : Vm) (B : Pt), s.WarmedH vm₁ ∧ Stand p l e R s m args below meth c B.U B.locs B.cells B.slots ∧ Post ⟨T.setVm vm₁, locs, cells, slots⟩ argsL.toArray v B ∧
      ∀ target, Steps p.tables e below (B.U.setTop { g with pc := g.pc + 3, stack := v.toList ++ rest }) target → Steps p.tables e below (T.setTop g) target) ∨
    (∃ (q : Addr) (vm₁ : Vm) (B : Pt), s.WarmedH vm₁ ∧ Stand p l e R s m args below meth c B.U B.locs B.cells B.slots ∧ PostX ⟨T.setVm vm₁, locs, cells, slots⟩ argsL.toArray q B ∧
      Steps p.tables e below (T.setTop g) ((B.U.setTop { g with stack := rest }).pushFrame (.throwing q))) := by
  obtain ⟨mk, hnamed⟩ := Cond.code_named hcode
  obtain ⟨methM, cM, hmethM, -, -, -, -, -, -, hsigM⟩ := Cond.code_spec hnamed hcode
  have hstatic : methM.isStatic = true := Cond.static_spec hnamed hmethM hstat
  obtain ⟨kP, hkP, -⟩ := className_of_methodNamed hnamed
  have hinitP : kP.init = .initialized := Cond.initialized_spec (findClass_of_methodNamed hnamed) hkP hinit
  obtain ⟨vm₁, X₁, hstep₁⟩ := X.invokestatic hexec hown hlink hnamed hmethM hstatic hkP hinitP hy (g := g) hg (argsL := argsL) (rest := rest) (hlen _ hsigM) hstack hdg
  rcases hK m meth c ⟨T.setVm vm₁, locs, cells, slots⟩ { g with stack := rest } (.invokestatic index) mk argsL.toArray X₁ hg hsize hdg hW (X₁.named hnamed) (hpre vm₁ X₁.warmed) with ⟨v, B, X', hpost, hsteps⟩ | ⟨q, B, X', hpost, hsteps⟩
  · exact Or.inl ⟨v, vm₁, B, X₁.warmed, X', hpost, fun target h => hstep₁ _ fun acts => by rw [doInvoke_state]; exact hsteps.trans h⟩
  · exact Or.inr ⟨q, vm₁, B, X₁.warmed, X', hpost, hstep₁ _ fun acts => by rw [doInvoke_state]; exact hsteps⟩
end Calls
theorem vx_cls {s : State} {T : State} {vm₁ : Vm} {E : String} {k : ClassId} (hW : s.WarmedH vm₁) (h : (T.setVm vm₁).vm.findClass E = some k) : s.vm.findClass E = some k := by
  have h1 : vm₁.findClass E = some k := h
  rw [hW.alike.findClass] at h1
  exact h1
/-- the method's frame g, with q thrown over it -/
def vx_W (p : Program) (l : Launch) (e : Env) (R : Room) (s : State) (m : MethodId) (args : Array Value) (below : List Frame) (meth : Method) (c : Code) (H : Heap) (locs : List Loc) (cells slots : Nat) (Q : State → Prop) (g : JFrame) (q : Addr) : Prop :=
  ∀ T : State, T.heap = H → Stand p l e R s m args below meth c T locs cells slots → ∃ t, Steps p.tables e below ((T.setTop g).pushFrame (.throwing q)) t ∧ Q t
def vx_Run (p : Program) (l : Launch) (e : Env) (R : Room) (s : State) (m : MethodId) (args : Array Value) (below : List Frame) (meth : Method) (c : Code) (H : Heap) (locs : List Loc) (cells slots mc ms : Nat) (g : JFrame) (rest : List Value) (Qa : State → Outcome → State → Prop) (XC : String → State → State → Prop) (free : Addr → Prop) : Prop :=
  ∀ T : State, T.heap = H → Stand p l e R s m args below meth c T locs cells slots →
    (∃ (v : Option Value) (st₀ t T' : State) (L : List Loc), st₀.heap = H ∧ Stand p l e R s m args below meth c T' (locs ++ L) (cells + mc) (slots + ms) ∧ (∀ q ∈ L, free q.base) ∧ T'.heap = t.heap ∧ T'.vm = t.vm ∧ Qa st₀ (.returned v) t ∧
      Goes p e below T g T' { g with pc := g.pc + 3, stack := v.toList ++ rest }) ∨
    (∃ (q : Addr) (st₀ t T' : State) (L : List Loc) (E : String) (ce : Cell), st₀.heap = H ∧ Stand p l e R s m args below meth c T' (locs ++ L) (cells + mc) (slots + ms) ∧ (∀ z ∈ L, free z.base) ∧ T'.heap = t.heap ∧ T'.vm = t.vm ∧ XC E st₀ t ∧ t.heap[q]? = some ce ∧ ce.vm = .none ∧ s.vm.findClass E = some ce.cls ∧
      Steps p.tables e below (T.setTop g) ((T'.setTop { g with stack := rest }).pushFrame (.throwing q)))
def vx_X {S : Type} (px : S → Prop) (B : String → S → State → Prop) (A : Nat → Prop) : String → State → State → Prop := fun E st t => ∃ u : S, px u ∧ B E u t ∧ va_F A st t
section Runs
variable {p : Program} {l : Launch} {e : Env} {R : Room} {s : State} {m : MethodId} {args : Array Value} {below : List Frame} {meth : Method} {c : Code} {H : Heap} {locs : List Loc} {cells slots : Nat}
variable {y : MethodName} {bytes cc : ByteArray} {maxL nL mc ms n index : Nat} {ret : Option FieldType} {ws : List Cond} {rm : Room} {Pc : Array Value → State → Prop} {Qc : Array Value → State → Outcome → State → Prop} {XC : String → State → State → Prop} {free : Addr → Prop} {Ts : List Cond} {own C : String} {b : Addr} {As rest : List Value} {g : JFrame}
theorem vx_callBack (cb : CallB R s args own index y bytes maxL ret ws rm mc ms n) (hM : vx_Met l y ws rm Pc Qc XC mc ms free) (hbl : FrameBlind Pc) : vx_Back l R p e below s args y 3 8 (PreOf R mc ms Pc) (PostOf Qc mc ms free) (vx_Post XC mc ms free) := by
  obtain ⟨hrc, hrs, hfr, hlo, hws, hcw, -, hini, -⟩ := cb
  exact vx_back (bytes := bytes) (maxL := maxL) (ret := ret) hM hbl hrc hrs hfr hlo hws hcw (fun a' U hW => word_at hW (Or.inl (by first | rfl | simp [Cond.onTables, Cond.keeps, Cond.steady])) hini)
theorem vx_runV (S : CallFix p m c cc nL s args Ts own) (hM : vx_Met l y ws rm Pc Qc XC mc ms free) (cw : CallW R s args own C index y bytes maxL ret ws rm mc ms n) (hp : PreV s H C b Pc As)
    (hg : g.method = m) (hn : As.length = n) (hsize : g.locals.size = nL) (hstack : g.stack = As.reverse ++ .ref b :: rest) (hW : 2 * g.monitorRoom + (rest.map fun v => v.category).sum ≤ 8) (hdg : decode cc g.pc = .ok (.invokevirtual index, 3)) (hf : cells + mc ≤ R.cells ∧ slots + ms ≤ R.slots) :
    vx_Run p l e R s m args below meth c H locs cells slots mc ms g rest (Qc (Value.ref b :: As).toArray) XC free := by
  have hK : vx_Back l R p e below s args y 3 8 (PreOf R mc ms Pc) (PostOf Qc mc ms free) (vx_Post XC mc ms free) := vx_callBack cw.1 hM hp.1
  obtain ⟨⟨-, -, -, -, -, -, hcode, -, hy, hlen, hl⟩, hin, hse⟩ := cw
  obtain ⟨hx, hb, hml, ho, -⟩ := S
  obtain ⟨-, ⟨cellB, hcB, hoB, hclB⟩, hPc⟩ := hp
  intro T hT X
  rcases vx_callV X hx (C := C) (bytes := bytes) (maxL := maxL) (ret := ret) ho hl hin hse hcode hy hK (by rw [hT]; exact hcB) hoB hclB hg (hsize.trans hml.symm) (argsL := As) (rest := rest) (fun sig h => hn.trans (hlen sig h)) hstack hW (by rw [hb]; exact hdg)
    (fun vm₁ hW₁ => ⟨hf.1, hf.2, hPc (T.setVm vm₁) hT hW₁⟩) with ⟨v, vm₁, ⟨U', l2, c2, s2⟩, hW₁, X', ⟨g', mk, t, L, e1, e2, hq, h1, hL, h2, h3⟩, st⟩ | ⟨q, vm₁, ⟨U', l2, c2, s2⟩, hW₁, X', ⟨g', mk, t, L, E, ce, e1, e2, hq, hce, hcv, hcl, h1, hL, h2, h3⟩, st⟩
  · dsimp only [Pt.U, Pt.locs, Pt.cells, Pt.slots] at X' e1 e2 h1 h2 h3 st
    subst h1; subst h2; subst h3
    exact Or.inl ⟨v, (T.setVm vm₁).calling g' mk (Value.ref b :: As).toArray, t, U', L, hT, X', hL, e1, e2, hq, st⟩
  · dsimp only [Pt.U, Pt.locs, Pt.cells, Pt.slots] at X' e1 e2 h1 h2 h3 st hcl
    subst h1; subst h2; subst h3
    exact Or.inr ⟨q, (T.setVm vm₁).calling g' mk (Value.ref b :: As).toArray, t, U', L, E, ce, hT, X', hL, e1, e2, hq, hce, hcv, vx_cls hW₁ hcl, st⟩
theorem vx_runS (S : CallFix p m c cc nL s args Ts own) (hM : vx_Met l y ws rm Pc Qc XC mc ms free) (cw : CallB R s args own index y bytes maxL ret ws rm mc ms n ∧ (Cond.static y).before args s = true) (hp : PreS s H Pc As)
    (hg : g.method = m) (hn : As.length = n) (hsize : g.locals.size = nL) (hstack : g.stack = As.reverse ++ rest) (hW : 2 * g.monitorRoom + (rest.map fun v => v.category).sum ≤ 8) (hdg : decode cc g.pc = .ok (.invokestatic index, 3)) (hf : cells + mc ≤ R.cells ∧ slots + ms ≤ R.slots) :
    vx_Run p l e R s m args below meth c H locs cells slots mc ms g rest (Qc As.toArray) XC free := by
  have hK : vx_Back l R p e below s args y 3 8 (PreOf R mc ms Pc) (PostOf Qc mc ms free) (vx_Post XC mc ms free) := vx_callBack cw.1 hM hp.1
  obtain ⟨⟨-, -, -, -, -, -, hcode, hini, hy, hlen, hl⟩, hstt⟩ := cw
  obtain ⟨hx, hb, hml, ho, -⟩ := S
  intro T hT X
  rcases vx_callS X hx (bytes := bytes) (maxL := maxL) (ret := ret) ho hl hstt hini hcode hy hK hg (hsize.trans hml.symm) (argsL := As) (rest := rest) (fun sig h => hn.trans (hlen sig h)) hstack hW (by rw [hb]; exact hdg)
    (fun vm₁ hW₁ => ⟨hf.1, hf.2, hp.2 (T.setVm vm₁) hT hW₁⟩) with ⟨v, vm₁, ⟨U', l2, c2, s2⟩, hW₁, X', ⟨g', mk, t, L, e1, e2, hq, h1, hL, h2, h3⟩, st⟩ | ⟨q, vm₁, ⟨U', l2, c2, s2⟩, hW₁, X', ⟨g', mk, t, L, E, ce, e1, e2, hq, hce, hcv, hcl, h1, hL, h2, h3⟩, st⟩
  · dsimp only [Pt.U, Pt.locs, Pt.cells, Pt.slots] at X' e1 e2 h1 h2 h3 st
    subst h1; subst h2; subst h3
    exact Or.inl ⟨v, (T.setVm vm₁).calling g' mk As.toArray, t, U', L, hT, X', hL, e1, e2, hq, st⟩
  · dsimp only [Pt.U, Pt.locs, Pt.cells, Pt.slots] at X' e1 e2 h1 h2 h3 st hcl
    subst h1; subst h2; subst h3
    exact Or.inr ⟨q, (T.setVm vm₁).calling g' mk As.toArray, t, U', L, E, ce, hT, X', hL, e1, e2, hq, hce, hcv, vx_cls hW₁ hcl, st⟩
end Runs
section Rows
variable {p : Program} {l : Launch} {e : Env} {R : Room} {s : State} {m : MethodId} {args : Array Value} {below : List Frame} {meth : Method} {c : Code} {H : Heap} {locs : List Loc} {cells slots : Nat} {Q : State → Prop}
variable {mc ms : Nat} {free : Addr → Prop} {A0 A1 : Nat → Prop} {H0 : Heap} {a : Array Value} {pc : Nat} {ls : Array Slot} {st0 rest : List Value}
theorem vx_keep {st₀ t T' : State} {L : List Loc} (h0 : st₀.heap = H) (e1 : T'.heap = t.heap) (hS : va_S A0 H0 H locs) (hA : ∀ q, q < H.size → A1 q → A0 q) (hf : ∀ q, free q → A0 q) (hL : ∀ q ∈ L, free q.base) (hF : va_F A1 st₀ t) :
    H.size ≤ T'.heap.size ∧ (∀ q : Nat, q < H.size → ¬ A1 q → T'.heap[q]? = H[q]?) ∧ va_S A0 H0 T'.heap (locs ++ L) := by
  obtain ⟨hz, hk⟩ := hF
  rw [h0] at hz hk
  exact ⟨by rw [e1]; exact hz, fun q h1 h2 => by rw [e1]; exact hk q h1 h2,
    ⟨Nat.le_trans hS.1 (by rw [e1]; exact hz), fun q h1 h2 => by rw [e1, hk q (Nat.lt_of_lt_of_le h1 hS.1) (fun z => h2 (hA q (Nat.lt_of_lt_of_le h1 hS.1) z))]; exact hS.2.1 q h1 h2, fun q hq => by
      rcases List.mem_append.mp hq with h | h
      · exact hS.2.2 q h
      · exact hf _ (hL q h)⟩⟩
theorem vx_calli {S SX : Type} {post : Int32 → S → Prop} {px : SX → Prop} {B : S → State → Prop} {BX : String → SX → State → Prop} {AX : Nat → Prop} (hr : vx_Run p l e R s m args below meth c H locs cells slots mc ms (F0 m pc ls st0) rest (va_Qi post B A1 a) (vx_X px BX AX) free) (hS : va_S A0 H0 H locs) (hA : ∀ q, q < H.size → A1 q → A0 q) (hf : ∀ q, free q → A0 q) (hAX : ∀ q, q < H.size → AX q → A0 q)
    (kx : ∀ (E : String) (ce : Cell) (q9 : Addr) (u : SX) (t : State) (H1 : Heap) (locs1 : List Loc), t.heap = H1 → s.vm.Alike t.vm → px u → BX E u t → H.size ≤ H1.size → (∀ q : Nat, q < H.size → ¬ AX q → H1[q]? = H[q]?) → va_S A0 H0 H1 locs1 → H1[q9]? = some ce → ce.vm = .none → s.vm.findClass E = some ce.cls → vx_W p l e R s m args below meth c H1 locs1 (cells + mc) (slots + ms) Q (F0 m pc ls rest) q9)
    (kk : ∀ (r : Int32) (u : S) (t : State) (H1 : Heap) (locs1 : List Loc), t.heap = H1 → s.vm.Alike t.vm → post r u → B u t → H.size ≤ H1.size → (∀ q : Nat, q < H.size → ¬ A1 q → H1[q]? = H[q]?) → va_S A0 H0 H1 locs1 → W p l e R s m args below meth c H1 locs1 (cells + mc) (slots + ms) Q (F0 m (pc + 3) ls (.int r :: rest))) : W p l e R s m args below meth c H locs cells slots Q (F0 m pc ls st0) := by
  intro T hT X
  rcases hr T hT X with ⟨v, st₀, t, T', L, h0, X', hL, e1, e2, ⟨⟨r, u, hv, hp, hb⟩, hF⟩, st⟩ | ⟨q, st₀, t, T', L, E, ce, h0, X', hL, e1, e2, ⟨u, hp, hb, hF⟩, hce, hcv, hcl, st⟩
  · cases hv
    obtain ⟨k1, k2, k3⟩ := vx_keep h0 e1 hS hA hf hL hF
    obtain ⟨t2, a1, b1⟩ := kk r u t T'.heap (locs ++ L) e1.symm (by rw [← e2]; exact X'.warmed.alike) hp hb k1 k2 k3 T' rfl X'
    exact ⟨t2, st t2 a1, b1⟩
  · obtain ⟨k1, k2, k3⟩ := vx_keep h0 e1 hS hAX hf hL hF
    obtain ⟨t2, a1, b1⟩ := kx E ce q u t T'.heap (locs ++ L) e1.symm (by rw [← e2]; exact X'.warmed.alike) hp hb k1 k2 k3 (by rw [e1]; exact hce) hcv hcl T' rfl X'
    exact ⟨t2, st.trans a1, b1⟩
theorem vx_calll {S SX : Type} {post : Int64 → S → Prop} {px : SX → Prop} {B : S → State → Prop} {BX : String → SX → State → Prop} {AX : Nat → Prop} (hr : vx_Run p l e R s m args below meth c H locs cells slots mc ms (F0 m pc ls st0) rest (va_Ql post B A1 a) (vx_X px BX AX) free) (hS : va_S A0 H0 H locs) (hA : ∀ q, q < H.size → A1 q → A0 q) (hf : ∀ q, free q → A0 q) (hAX : ∀ q, q < H.size → AX q → A0 q)
    (kx : ∀ (E : String) (ce : Cell) (q9 : Addr) (u : SX) (t : State) (H1 : Heap) (locs1 : List Loc), t.heap = H1 → s.vm.Alike t.vm → px u → BX E u t → H.size ≤ H1.size → (∀ q : Nat, q < H.size → ¬ AX q → H1[q]? = H[q]?) → va_S A0 H0 H1 locs1 → H1[q9]? = some ce → ce.vm = .none → s.vm.findClass E = some ce.cls → vx_W p l e R s m args below meth c H1 locs1 (cells + mc) (slots + ms) Q (F0 m pc ls rest) q9)
    (kk : ∀ (r : Int64) (u : S) (t : State) (H1 : Heap) (locs1 : List Loc), t.heap = H1 → s.vm.Alike t.vm → post r u → B u t → H.size ≤ H1.size → (∀ q : Nat, q < H.size → ¬ A1 q → H1[q]? = H[q]?) → va_S A0 H0 H1 locs1 → W p l e R s m args below meth c H1 locs1 (cells + mc) (slots + ms) Q (F0 m (pc + 3) ls (.long r :: rest))) : W p l e R s m args below meth c H locs cells slots Q (F0 m pc ls st0) := by
  intro T hT X
  rcases hr T hT X with ⟨v, st₀, t, T', L, h0, X', hL, e1, e2, ⟨⟨r, u, hv, hp, hb⟩, hF⟩, st⟩ | ⟨q, st₀, t, T', L, E, ce, h0, X', hL, e1, e2, ⟨u, hp, hb, hF⟩, hce, hcv, hcl, st⟩
  · cases hv
    obtain ⟨k1, k2, k3⟩ := vx_keep h0 e1 hS hA hf hL hF
    obtain ⟨t2, a1, b1⟩ := kk r u t T'.heap (locs ++ L) e1.symm (by rw [← e2]; exact X'.warmed.alike) hp hb k1 k2 k3 T' rfl X'
    exact ⟨t2, st t2 a1, b1⟩
  · obtain ⟨k1, k2, k3⟩ := vx_keep h0 e1 hS hAX hf hL hF
    obtain ⟨t2, a1, b1⟩ := kx E ce q u t T'.heap (locs ++ L) e1.symm (by rw [← e2]; exact X'.warmed.alike) hp hb k1 k2 k3 (by rw [e1]; exact hce) hcv hcl T' rfl X'
    exact ⟨t2, st.trans a1, b1⟩
theorem vx_callf {S SX : Type} {post : UInt32 → S → Prop} {px : SX → Prop} {B : S → State → Prop} {BX : String → SX → State → Prop} {AX : Nat → Prop} (hr : vx_Run p l e R s m args below meth c H locs cells slots mc ms (F0 m pc ls st0) rest (va_Qf post B A1 a) (vx_X px BX AX) free) (hS : va_S A0 H0 H locs) (hA : ∀ q, q < H.size → A1 q → A0 q) (hf : ∀ q, free q → A0 q) (hAX : ∀ q, q < H.size → AX q → A0 q)
    (kx : ∀ (E : String) (ce : Cell) (q9 : Addr) (u : SX) (t : State) (H1 : Heap) (locs1 : List Loc), t.heap = H1 → s.vm.Alike t.vm → px u → BX E u t → H.size ≤ H1.size → (∀ q : Nat, q < H.size → ¬ AX q → H1[q]? = H[q]?) → va_S A0 H0 H1 locs1 → H1[q9]? = some ce → ce.vm = .none → s.vm.findClass E = some ce.cls → vx_W p l e R s m args below meth c H1 locs1 (cells + mc) (slots + ms) Q (F0 m pc ls rest) q9)
    (kk : ∀ (r : UInt32) (u : S) (t : State) (H1 : Heap) (locs1 : List Loc), t.heap = H1 → s.vm.Alike t.vm → post r u → B u t → H.size ≤ H1.size → (∀ q : Nat, q < H.size → ¬ A1 q → H1[q]? = H[q]?) → va_S A0 H0 H1 locs1 → W p l e R s m args below meth c H1 locs1 (cells + mc) (slots + ms) Q (F0 m (pc + 3) ls (.float r :: rest))) : W p l e R s m args below meth c H locs cells slots Q (F0 m pc ls st0) := by
  intro T hT X
  rcases hr T hT X with ⟨v, st₀, t, T', L, h0, X', hL, e1, e2, ⟨⟨r, u, hv, hp, hb⟩, hF⟩, st⟩ | ⟨q, st₀, t, T', L, E, ce, h0, X', hL, e1, e2, ⟨u, hp, hb, hF⟩, hce, hcv, hcl, st⟩
  · cases hv
    obtain ⟨k1, k2, k3⟩ := vx_keep h0 e1 hS hA hf hL hF
    obtain ⟨t2, a1, b1⟩ := kk r u t T'.heap (locs ++ L) e1.symm (by rw [← e2]; exact X'.warmed.alike) hp hb k1 k2 k3 T' rfl X'
    exact ⟨t2, st t2 a1, b1⟩
  · obtain ⟨k1, k2, k3⟩ := vx_keep h0 e1 hS hAX hf hL hF
    obtain ⟨t2, a1, b1⟩ := kx E ce q u t T'.heap (locs ++ L) e1.symm (by rw [← e2]; exact X'.warmed.alike) hp hb k1 k2 k3 (by rw [e1]; exact hce) hcv hcl T' rfl X'
    exact ⟨t2, st.trans a1, b1⟩
theorem vx_calld {S SX : Type} {post : UInt64 → S → Prop} {px : SX → Prop} {B : S → State → Prop} {BX : String → SX → State → Prop} {AX : Nat → Prop} (hr : vx_Run p l e R s m args below meth c H locs cells slots mc ms (F0 m pc ls st0) rest (va_Qd post B A1 a) (vx_X px BX AX) free) (hS : va_S A0 H0 H locs) (hA : ∀ q, q < H.size → A1 q → A0 q) (hf : ∀ q, free q → A0 q) (hAX : ∀ q, q < H.size → AX q → A0 q)
    (kx : ∀ (E : String) (ce : Cell) (q9 : Addr) (u : SX) (t : State) (H1 : Heap) (locs1 : List Loc), t.heap = H1 → s.vm.Alike t.vm → px u → BX E u t → H.size ≤ H1.size → (∀ q : Nat, q < H.size → ¬ AX q → H1[q]? = H[q]?) → va_S A0 H0 H1 locs1 → H1[q9]? = some ce → ce.vm = .none → s.vm.findClass E = some ce.cls → vx_W p l e R s m args below meth c H1 locs1 (cells + mc) (slots + ms) Q (F0 m pc ls rest) q9)
    (kk : ∀ (r : UInt64) (u : S) (t : State) (H1 : Heap) (locs1 : List Loc), t.heap = H1 → s.vm.Alike t.vm → post r u → B u t → H.size ≤ H1.size → (∀ q : Nat, q < H.size → ¬ A1 q → H1[q]? = H[q]?) → va_S A0 H0 H1 locs1 → W p l e R s m args below meth c H1 locs1 (cells + mc) (slots + ms) Q (F0 m (pc + 3) ls (.double r :: rest))) : W p l e R s m args below meth c H locs cells slots Q (F0 m pc ls st0) := by
  intro T hT X
  rcases hr T hT X with ⟨v, st₀, t, T', L, h0, X', hL, e1, e2, ⟨⟨r, u, hv, hp, hb⟩, hF⟩, st⟩ | ⟨q, st₀, t, T', L, E, ce, h0, X', hL, e1, e2, ⟨u, hp, hb, hF⟩, hce, hcv, hcl, st⟩
  · cases hv
    obtain ⟨k1, k2, k3⟩ := vx_keep h0 e1 hS hA hf hL hF
    obtain ⟨t2, a1, b1⟩ := kk r u t T'.heap (locs ++ L) e1.symm (by rw [← e2]; exact X'.warmed.alike) hp hb k1 k2 k3 T' rfl X'
    exact ⟨t2, st t2 a1, b1⟩
  · obtain ⟨k1, k2, k3⟩ := vx_keep h0 e1 hS hAX hf hL hF
    obtain ⟨t2, a1, b1⟩ := kx E ce q u t T'.heap (locs ++ L) e1.symm (by rw [← e2]; exact X'.warmed.alike) hp hb k1 k2 k3 (by rw [e1]; exact hce) hcv hcl T' rfl X'
    exact ⟨t2, st.trans a1, b1⟩
theorem vx_callv {S SX : Type} {post : S → Prop} {px : SX → Prop} {B : S → State → Prop} {BX : String → SX → State → Prop} {AX : Nat → Prop} (hr : vx_Run p l e R s m args below meth c H locs cells slots mc ms (F0 m pc ls st0) rest (va_Qv post B A1 a) (vx_X px BX AX) free) (hS : va_S A0 H0 H locs) (hA : ∀ q, q < H.size → A1 q → A0 q) (hf : ∀ q, free q → A0 q) (hAX : ∀ q, q < H.size → AX q → A0 q)
    (kx : ∀ (E : String) (ce : Cell) (q9 : Addr) (u : SX) (t : State) (H1 : Heap) (locs1 : List Loc), t.heap = H1 → s.vm.Alike t.vm → px u → BX E u t → H.size ≤ H1.size → (∀ q : Nat, q < H.size → ¬ AX q → H1[q]? = H[q]?) → va_S A0 H0 H1 locs1 → H1[q9]? = some ce → ce.vm = .none → s.vm.findClass E = some ce.cls → vx_W p l e R s m args below meth c H1 locs1 (cells + mc) (slots + ms) Q (F0 m pc ls rest) q9)
    (kk : ∀ (u : S) (t : State) (H1 : Heap) (locs1 : List Loc), t.heap = H1 → s.vm.Alike t.vm → post u → B u t → H.size ≤ H1.size → (∀ q : Nat, q < H.size → ¬ A1 q → H1[q]? = H[q]?) → va_S A0 H0 H1 locs1 → W p l e R s m args below meth c H1 locs1 (cells + mc) (slots + ms) Q (F0 m (pc + 3) ls (rest))) : W p l e R s m args below meth c H locs cells slots Q (F0 m pc ls st0) := by
  intro T hT X
  rcases hr T hT X with ⟨v, st₀, t, T', L, h0, X', hL, e1, e2, ⟨⟨u, hv, hp, hb⟩, hF⟩, st⟩ | ⟨q, st₀, t, T', L, E, ce, h0, X', hL, e1, e2, ⟨u, hp, hb, hF⟩, hce, hcv, hcl, st⟩
  · cases hv
    obtain ⟨k1, k2, k3⟩ := vx_keep h0 e1 hS hA hf hL hF
    obtain ⟨t2, a1, b1⟩ := kk u t T'.heap (locs ++ L) e1.symm (by rw [← e2]; exact X'.warmed.alike) hp hb k1 k2 k3 T' rfl X'
    exact ⟨t2, st t2 a1, b1⟩
  · obtain ⟨k1, k2, k3⟩ := vx_keep h0 e1 hS hAX hf hL hF
    obtain ⟨t2, a1, b1⟩ := kx E ce q u t T'.heap (locs ++ L) e1.symm (by rw [← e2]; exact X'.warmed.alike) hp hb k1 k2 k3 (by rw [e1]; exact hce) hcv hcl T' rfl X'
    exact ⟨t2, st.trans a1, b1⟩
/-- caught by the row x of this method's table; the rows ahead don't take it -/
theorem vx_catch {own name : String} {E : String} {ce : Cell} {q : Addr} (hown : s.vm.findClass own = some m.cls) (pre : List ExceptionTableEntry) (x : ExceptionTableEntry) (suf : List ExceptionTableEntry) (hsplit : c.exceptionTable.toList = pre ++ x :: suf)
    (hpass : ∀ z ∈ pre, covers z pc = false ∨ (z.catchType ≠ 0 ∧ ∃ nm : String, (Cond.classLink own z.catchType nm).before args s = true ∧ va_Nc E nm s)) (hx : covers x pc = true) (h0 : x.catchType ≠ 0)
    (hlink : (Cond.classLink own x.catchType name).before args s = true) (hcast : (Cond.castable E name).before args s = true) (hcell : H[q]? = some ce) (hv : ce.vm = .none) (hcl : s.vm.findClass E = some ce.cls)
    (kk : W p l e R s m args below meth c H locs cells slots Q (F0 m x.handlerPc ls [.ref q])) : vx_W p l e R s m args below meth c H locs cells slots Q (F0 m pc ls rest) q := by
  intro T hT X
  have hpl : e.platform.magicAccessors = ({} : Platform).magicAccessors := by rw [X.admits.platform]
  obtain ⟨c3, c4, hc3, hc4, hasg⟩ := Cond.castable_spec hcast
  cases Option.some.inj (hc3.symm.trans hcl)
  obtain ⟨c5, hc5, hcl5⟩ := Cond.classLink_spec hown hlink e.platform hpl
  cases Option.some.inj (hc4.symm.trans hc5)
  obtain ⟨vm', X', st⟩ := X.thenCaughtThrough q (g := F0 m pc ls rest) rfl (Steps.refl _) (by rw [hT]; exact hcell) (by rw [hv]; rfl) (by obtain ⟨k9, h9, -⟩ := Vm.findClass_spec hcl; exact ⟨k9, h9⟩) pre x suf hsplit
    (fun z hz => by
      rcases hpass z hz with h | ⟨hz0, nm, hl1, hn1⟩
      · exact Or.inl h
      · obtain ⟨c6, hc6, hcl6⟩ := Cond.classLink_spec hown hl1 e.platform hpl
        obtain ⟨a8, b8, h1, h2, h3⟩ := hn1
        cases Option.some.inj (h1.symm.trans hcl)
        cases Option.some.inj (h2.symm.trans hc6)
        exact Or.inr ⟨hz0, _, hcl6, h3⟩) hx (Or.inr ⟨h0, c4, hcl5, hasg⟩)
  obtain ⟨t, a1, b1⟩ := kk (T.setVm vm') hT X'
  exact ⟨t, st.trans a1, b1⟩
end Rows
section Ends
variable {p : Program} {l : Launch} {e : Env} {R : Room} {s : State} {m : MethodId} {args : Array Value} {below : List Frame} {meth : Method} {c : Code} {H : Heap} {locs : List Loc} {cells slots : Nat} {Q : State → Prop}
variable {mc ms : Nat} {free : Addr → Prop} {A0 A1 : Nat → Prop} {H0 : Heap} {a : Array Value} {ls : Array Slot} {st0 rest : List Value}
variable {Qc : Array Value → State → Outcome → State → Prop} {XC : String → State → State → Prop}
/-- what a body that may throw owes at its end -/
def vx_MQ (below : List Frame) (Qc : Array Value → State → Outcome → State → Prop) (XC : String → State → State → Prop) (a : Array Value) (s : State) (mc ms : Nat) (free : Addr → Prop) : State → Prop := fun t =>
  ∃ o, t.status = .running ∧ Ended t below o ∧ vx_Q Qc XC mc ms free a s o t
theorem vx_ret {g : JFrame} {mc ms : Nat} (k : W p l e R s m args below meth c H locs cells slots (MQ below Qc args s mc ms free) g) : W p l e R s m args below meth c H locs cells slots (vx_MQ below Qc XC args s mc ms free) g := by
  intro T hT X
  obtain ⟨t, a1, o, b1, b2, b3, b4⟩ := k T hT X
  exact ⟨t, a1, o, b1, b2, Or.inl ⟨b3, b4⟩⟩
/-- not caught here: it goes on to the caller -/
theorem vx_widen {g : JFrame} {q : Addr} {k n : Nat} (h1 : cells ≤ k) (h2 : slots ≤ n) (kk : vx_W p l e R s m args below meth c H locs k n Q g q) : vx_W p l e R s m args below meth c H locs cells slots Q g q := fun T hT X => kk T hT (stand_widen X h1 h2)
theorem vx_out {pc : Nat} {E : String} {ce : Cell} {q : Addr} {mc ms : Nat} (hout : ∀ x ∈ c.exceptionTable.toList, covers x pc = false) (hlocks : meth.locks = false) (hcell : H[q]? = some ce) (hv : ce.vm = .none) (hcl : s.vm.findClass E = some ce.cls)
    (hx : ∀ t : State, t.heap = H → s.vm.Alike t.vm → XC E s t) (hf : ∀ z ∈ locs, free z.base) (hc : cells ≤ mc) (hs : slots ≤ ms) :
    vx_W p l e R s m args below meth c H locs cells slots (vx_MQ below Qc XC args s mc ms free) (F0 m pc ls rest) q := by
  intro T hT X
  obtain ⟨st1, hrun, hend, hW, hsm⟩ := X.leaveThrown q (g := F0 m pc ls rest) rfl rfl rfl hout hlocks
  have hcell9 : (T.setFrames (.throwing q :: below)).heap[q]? = some ce := by
    show T.heap[q]? = some ce
    rw [hT]; exact hcell
  exact ⟨_, st1, .threw q, hrun, hend, Or.inr ⟨q, rfl, E, ce, locs, hx _ hT hW.alike, hcell9, hv, hcl, hW, hsm.mono hc hs, hf⟩⟩
theorem vx_frame {U : State} {k n : Nat} (h : s.sameButNew ({ U with vm := s.vm } : State) locs k n) : s.heap.size ≤ U.heap.size ∧ ∀ q : Nat, q < s.heap.size → (∀ z ∈ locs, z.base ≠ q) → U.heap[q]? = s.heap[q]? := by
  obtain ⟨-, h2, -, -, -, h6⟩ := h
  refine ⟨h2, fun q hq hz => ?_⟩
  obtain ⟨c9, e1, e2, e3, e4⟩ := h6 q _ (Array.getElem?_eq_getElem hq)
  have hs : c9.slots = (s.heap[q]).slots := Array.ext_getElem? fun i => e4 i fun hm => hz _ hm rfl
  have h9 : c9 = s.heap[q] := by
    rw [hs] at e2
    exact e2
  have e5 : U.heap[q]? = some c9 := e1
  rw [e5, h9, Array.getElem?_eq_getElem hq]
/-- the words of a throw but the four that speak of the heap -/
def vx_no (w : Cond) : Bool := decide (w ≠ .isRef (.static Bundle.tN "UNASSIGNED_STACK" Bundle.steD)) && decide (w ≠ .isRef (.static Bundle.tN "SUPPRESSED_SENTINEL" Bundle.listD)) && decide (w ≠ .laysStatic Bundle.tN "UNASSIGNED_STACK" Bundle.steD) && decide (w ≠ .laysStatic Bundle.tN "SUPPRESSED_SENTINEL" Bundle.listD)
def vx_at0 (own : String) (ic : Nat) (X : String) (names : List String) : List Cond := (Bundle.ownAtoms0 own ic X names).filter vx_no
def vx_atS (own : String) (ic : Nat) (X : String) (names : List String) : List Cond := (Bundle.ownAtoms own ic X names).filter vx_no
/-- a word that the tables alone decide, or a good one -/
def vx_ot (w : Cond) : Bool := w.onTables || goodWord w
theorem vx_ot_at {args a' : Array Value} {s U : State} {w : Cond} (hW : s.WarmedH U.vm) (hvm : s.vm = U.vm) (hg : vx_ot w = true) (h : w.before args s = true) : w.before a' U = true := by
  simp only [vx_ot, Bool.or_eq_true] at hg
  rcases hg with hg | hg
  · exact va_tabs hg hvm h
  · exact word_at hW (good_of_word hg) h
/-- a list's words: the good ones out of the method's own list, the others by premises of their own -/
theorem vx_hat {args : Array Value} {s : State} {L B : List Cond} (h1 : ∀ w ∈ L.filter goodWord, w.before args s = true) (h2 : ∀ w ∈ L.filter (fun w => !goodWord w), w ∈ B) (h3 : ∀ w ∈ B, w.before args s = true) : ∀ w ∈ L, w.before args s = true := by
  intro w hw
  by_cases g : goodWord w = true
  · exact h1 w (List.mem_filter.mpr ⟨hw, g⟩)
  · refine h3 w (h2 w (List.mem_filter.mpr ⟨hw, ?_⟩))
    show (!goodWord w) = true
    cases hgw : goodWord w
    · rfl
    · exact absurd hgw g
theorem vx_c {args : Array Value} {s : State} {w : Cond} {B : List Cond} (h : w.before args s = true) (t : ∀ w ∈ B, w.before args s = true) : ∀ w' ∈ w :: B, w'.before args s = true := fun w' h' => (List.mem_cons.mp h').elim (fun e => by rw [e]; exact h) (t w')
theorem vx_n {args : Array Value} {s : State} : ∀ w ∈ ([] : List Cond), w.before args s = true := fun _ h => nomatch h
theorem vx_own {args : Array Value} {s : State} {L : List Cond} (h1 : ∀ w ∈ L.filter vx_no, w.before args s = true)
    (hU : (Cond.isRef (.static Bundle.tN "UNASSIGNED_STACK" Bundle.steD)).before args s = true) (hN : (Cond.isRef (.static Bundle.tN "SUPPRESSED_SENTINEL" Bundle.listD)).before args s = true)
    (lU : (Cond.laysStatic Bundle.tN "UNASSIGNED_STACK" Bundle.steD).before args s = true) (lN : (Cond.laysStatic Bundle.tN "SUPPRESSED_SENTINEL" Bundle.listD).before args s = true) : ∀ w ∈ L, w.before args s = true := by
  intro w hw
  by_cases e1 : w = .isRef (.static Bundle.tN "UNASSIGNED_STACK" Bundle.steD)
  · rw [e1]; exact hU
  · by_cases e2 : w = .isRef (.static Bundle.tN "SUPPRESSED_SENTINEL" Bundle.listD)
    · rw [e2]; exact hN
    · by_cases e3 : w = .laysStatic Bundle.tN "UNASSIGNED_STACK" Bundle.steD
      · rw [e3]; exact lU
      · by_cases e4 : w = .laysStatic Bundle.tN "SUPPRESSED_SENTINEL" Bundle.listD
        · rw [e4]; exact lN
        · exact h1 w (List.mem_filter.mpr ⟨hw, by unfold vx_no; rw [decide_eq_true e1, decide_eq_true e2, decide_eq_true e3, decide_eq_true e4]; rfl⟩)
/-- where a static field lies, its class's statics cell in H -/
def vx_L (C n d : String) (A : Nat → Prop) (U : State) (H : Heap) : Prop := ∃ (c : ClassId) (k : Class) (i : Nat) (f : Field) (a : Nat) (cell : Cell), U.vm.findClass C = some c ∧ U.fieldFound? C n d = some (c, k, i, f) ∧ f.isStatic = true ∧ k.statics = some a ∧ H[a]? = some cell ∧ cell.vm.isStatics = true ∧ cell.cls = c ∧ f.slot < cell.slots.size ∧ k.staticTypes[f.slot]? = some f.type ∧ ¬ A a
theorem vx_L.moved {C n d : String} {A : Nat → Prop} {u U : State} {H : Heap} (hvm : u.vm.Alike U.vm) (h : vx_L C n d A u H) : vx_L C n d A U H := by
  obtain ⟨c, k, i, f, a, cell, h1, h2, h3, h4, h5, h6, h7, h8, h9, h10⟩ := h
  obtain ⟨k', hi', he⟩ := State.fieldFound?_setVm hvm h2
  exact ⟨c, k', i, f, a, cell, by rw [hvm.findClass]; exact h1, hi', h3, by rw [he]; exact h4, h5, h6, h7, h8, by rw [he]; exact h9, h10⟩
theorem vx_L.kept {C n d : String} {A : Nat → Prop} {U : State} {H H1 : Heap} (h : vx_L C n d A U H) (hq : ∀ a : Nat, a < H.size → ¬ A a → H1[a]? = H[a]?) : vx_L C n d A U H1 := by
  obtain ⟨c, k, i, f, a, cell, h1, h2, h3, h4, h5, h6, h7, h8, h9, h10⟩ := h
  exact ⟨c, k, i, f, a, cell, h1, h2, h3, h4, by rw [hq a (Array.getElem?_eq_some_iff.mp h5).1 h10]; exact h5, h6, h7, h8, h9, h10⟩
theorem vx_L.narrow {C n d : String} {A B : Nat → Prop} {U : State} {H : Heap} (h : vx_L C n d A U H) (hAB : ∀ q, B q → A q) : vx_L C n d B U H := by
  obtain ⟨c, k, i, f, a, cell, h1, h2, h3, h4, h5, h6, h7, h8, h9, h10⟩ := h
  exact ⟨c, k, i, f, a, cell, h1, h2, h3, h4, h5, h6, h7, h8, h9, fun z => h10 (hAB _ z)⟩
theorem vx_L.word {C n d : String} {A : Nat → Prop} {s : State} {args : Array Value} (h : vx_L C n d A s s.heap) : (Cond.laysStatic C n d).before args s = true := by
  obtain ⟨c, k, i, f, a, cell, h1, h2, h3, h4, h5, h6, h7, h8, h9, -⟩ := h
  show (Cond.laysStatic C n d).holds args s none s [] = true
  exact Cond.laysStatic_of h1 h2 h3 h4 h5 h6 h7 h8 h9
/-- .. and what it holds: null or some reference -/
def vx_Zq (C n d : String) (A : Nat → Prop) (U : State) (H : Heap) : Prop := va_Zq C n d A U H ∧ vx_L C n d A U H
theorem vx_Zq.moved {C n d : String} {A : Nat → Prop} {u U : State} {H : Heap} (hvm : u.vm.Alike U.vm) (h : vx_Zq C n d A u H) : vx_Zq C n d A U H := ⟨va_Zq.moved hvm h.1, vx_L.moved hvm h.2⟩
theorem vx_Zq.kept {C n d : String} {A : Nat → Prop} {U : State} {H H1 : Heap} (h : vx_Zq C n d A U H) (hq : ∀ a : Nat, a < H.size → ¬ A a → H1[a]? = H[a]?) : vx_Zq C n d A U H1 := ⟨va_Zq.kept h.1 hq, vx_L.kept h.2 hq⟩
theorem vx_Zq.narrow {C n d : String} {A B : Nat → Prop} {U : State} {H : Heap} (h : vx_Zq C n d A U H) (hAB : ∀ q, B q → A q) : vx_Zq C n d B U H := ⟨va_Zq.narrow h.1 hAB, vx_L.narrow h.2 hAB⟩
theorem vx_Zqof {args : Array Value} {s : State} {C n d : String} {A : Nat → Prop} (hl : (Cond.laysStatic C n d).before args s = true) (hini : (Cond.initialized C).before args s = true) (h : (Cond.isRef (.static C n d)).before args s = true) (hA : ∀ a : Nat, a < s.heap.size → ¬ A a) : vx_Zq C n d A s s.heap := by
  refine ⟨va_Zqof hl hini h hA, ?_⟩
  obtain ⟨c, k, i, f, a, cell, h1, h2, h3, h4, h5, h6, h7, h8, h9⟩ := Cond.laysStatic_spec hl
  exact ⟨c, k, i, f, a, cell, h1, h2, h3, h4, h5, h6, h7, h8, h9, hA a (Array.getElem?_eq_some_iff.mp h5).1⟩
theorem vx_isRef {C n d : String} {v : Value} {A : Nat → Prop} {s : State} {args : Array Value} (h : va_Z C n d v A s s.heap) (hv : v.isRef = true) : (Cond.isRef (.static C n d)).before args s = true := by
  obtain ⟨cf, kf, fi, f, a, cell, h1, h2, h3, h4, h5, h6, h7, -⟩ := h
  have he : (Term.static C n d).eval args s none [] s = some v := by
    simp [Term.eval, State.fieldNamed?, h1, h2, h4, h5, h6, h7]
  simp only [Cond.before, Cond.holds, Cond.value, he]
  cases v <;> simp_all [Value.isRef]
theorem vx_isRefq {C n d : String} {A : Nat → Prop} {s : State} {args : Array Value} (h : va_Zq C n d A s s.heap) : (Cond.isRef (.static C n d)).before args s = true := by
  rcases h with h | ⟨t, h⟩
  · exact vx_isRef h rfl
  · exact vx_isRef h rfl
/-- the same frame, seen from here: as if the method were called anew in this heap -/
theorem vx_rebase {T : State} (X : Stand p l e R s m args below meth c T locs cells slots) {R' : Room} (hf : R'.frames ≤ R.frames) (hl : R'.locals ≤ R.locals) (hc : cells + R'.cells ≤ R.cells) (hs : slots + R'.slots ≤ R.slots) :
    Stand p l e R' ((T.setVm s.vm).setFrames (.invoking m args :: below)) m args below meth c T [] 0 0 := by
  have htop : (T.setVm s.vm).topJava?.isSome := X.here.top
  have hF : ((T.setVm s.vm).setFrames (.invoking m args :: below)).frames = .invoking m args :: below := State.frames_setFrames _ (State.cur_lt_of_top htop)
  obtain ⟨g₀, hg0⟩ := Option.isSome_iff_exists.mp htop
  obtain ⟨r, hr⟩ := State.topJava?_eq_some.mp hg0
  have hl9 : e.platform.stackLimits (T.setVm s.vm).me = e.platform.stackLimits s.me := X.limits
  have hb9 : (T.setVm s.vm).me.stackBytes = s.me.stackBytes := X.bytes
  refine ⟨X.admits, X.cas, X.clock, hF, ?_, X.hears, X.method, X.code, X.here, X.tail, X.warmed, ?_, ?_, ?_⟩
  · have h := X.room
    have hU : ((T.setVm s.vm).setFrames (.invoking m args :: below)).localsInUse = s.localsInUse := by
      rw [State.localsInUse_invoking hF (meth := meth) (c := c) X.method X.code, State.localsInUse_invoking X.frames X.method X.code]
    simp only [State.hasRoom, Bool.and_eq_true, decide_eq_true_eq] at h ⊢
    obtain ⟨⟨⟨⟨h1, h2, h3, h4, h5, h6⟩, h7⟩, h8⟩, h9⟩ := h
    rw [X.frames, List.length_cons] at h2 h3
    have q1 := X.heapSize
    have q2 := X.used
    simp only [hF, hU, List.length_cons, State.stackLimits_setFrames, State.stackBytes_setFrames, hl9, hb9]
    refine ⟨⟨⟨⟨by omega, by omega, by omega, by omega, by omega, h6⟩, ?_⟩, ?_⟩, X.book⟩
    · show T.heap.size + R'.cells ≤ e.platform.maxCells
      omega
    · show T.slotsUsed + R'.slots ≤ e.platform.maxSlots
      omega
  · rw [State.stackLimits_setFrames]; rfl
  · rw [State.stackBytes_setFrames]; rfl
  · refine ⟨?_, Nat.le_refl _, Nat.le_refl _, ?_, ?_, fun a c9 h9 => ⟨c9, h9, rfl, rfl, fun _ _ => rfl⟩⟩
    · obtain ⟨t, ht, -⟩ := State.frames_cons hr
      show T.setVm s.vm = { ((T.setVm s.vm).setFrames (.invoking m args :: below)).setFrames (T.setVm s.vm).frames with heap := T.heap, slotsUsed := T.slotsUsed }
      rw [State.setFrames_setFrames, State.setFrames_self ht]
      rfl
    · show T.slotsUsed = T.slotsUsed + ((T.heap.toList.drop T.heap.size).map (·.slots.size)).sum
      rw [List.drop_eq_nil_of_le (Nat.le_of_eq Array.length_toList)]
      rfl
    · show ((T.heap.toList.drop T.heap.size).map (·.slots.size)).sum ≤ 0
      rw [List.drop_eq_nil_of_le (Nat.le_of_eq Array.length_toList)]
      exact Nat.le_refl _
/-- 'throw new E()': new; dup; invokespecial; athrow -/
theorem vx_throw0 {cc : ByteArray} {pc : Nat} (hexec : p.tables.exec = Jvm.exec) (hb : c.code = cc) (hl : l.stackTraces = false) {own cls : String} {names : List String} {ik ic mc ms : Nat} {A : Nat → Prop}
    (hown : s.vm.findClass own = some m.cls) (hcls : Bundle.fit cls = true) (hnames : ∀ n ∈ names, Bundle.fit n = true)
    (hk : (Cond.classLink own ik cls).before args s = true) (hini : (Cond.initialized cls).before args s = true) (hat : ∀ w ∈ vx_at0 own ic cls names, w.before args s = true)
    (hgood : ∀ w ∈ Cond.classLink own ik cls :: Cond.initialized cls :: vx_at0 own ic cls names, vx_ot w = true)
    (hU : vx_Zq Bundle.tN "UNASSIGNED_STACK" Bundle.steD A s s.heap) (hN : vx_Zq Bundle.tN "SUPPRESSED_SENTINEL" Bundle.listD A s s.heap) (hS : va_S A s.heap H locs) (hsize : ls.size = c.maxLocals)
    (d0 : decode cc pc = .ok (.new ik, 3)) (d3 : decode cc (pc + 3) = .ok (.dup, 1)) (d4 : decode cc (pc + 4) = .ok (.invokespecial ic, 3)) (d7 : decode cc (pc + 7) = .ok (.athrow, 1))
    (hout : ∀ x ∈ c.exceptionTable.toList, covers x (pc + 7) = false)
    (hRframes : names.length + 3 < R.frames) (hRlocals : (rest.map fun v => v.category).sum + (13 * (names.length + 1) + 42) ≤ R.locals) (hRcells : cells + 1 ≤ R.cells) (hRslots : slots + 6 ≤ R.slots) (hlocks : meth.locks = false)
    (hx : ∀ t : State, s.vm.Alike t.vm → H.size ≤ t.heap.size → (∀ q : Nat, q < H.size → t.heap[q]? = H[q]?) → XC cls s t)
    (hf : ∀ z ∈ locs, free z.base) (hc : cells + 1 ≤ mc) (hs : slots + 6 ≤ ms) :
    W p l e R s m args below meth c H locs cells slots (vx_MQ below Qc XC args s mc ms free) (F0 m pc ls rest) := by
  intro T hT X
  have htr : e.platform.stackTraces = false := (show e.platform.stackTraces = l.stackTraces by rw [X.admits.platform]).trans hl
  have Y := vx_rebase X (R' := { frames := R.frames, locals := R.locals, cells := 1, slots := 6 }) (Nat.le_refl _) (Nat.le_refl _) hRcells hRslots
  obtain ⟨s', hA⟩ : ∃ z, z = (T.setVm s.vm).setFrames (.invoking m args :: below) := ⟨_, rfl⟩
  rw [← hA] at Y
  have hvm : s'.vm = s.vm := by rw [hA]; rfl
  have hhp : s'.heap = H := by rw [hA]; exact hT
  have hW0 : s.WarmedH s'.vm := by rw [hvm]; exact State.WarmedH.refl s
  have hat' : ∀ w ∈ vx_at0 own ic cls names, w.before args s' = true := fun w hw => vx_ot_at hW0 hvm.symm (hgood w (List.mem_cons_of_mem _ (List.mem_cons_of_mem _ hw))) (hat w hw)
  have hk' : (Cond.classLink own ik cls).before args s' = true := vx_ot_at hW0 hvm.symm (hgood _ List.mem_cons_self) hk
  have hini' : (Cond.initialized cls).before args s' = true := vx_ot_at hW0 hvm.symm (hgood _ (List.mem_cons_of_mem _ List.mem_cons_self)) hini
  have hU' : vx_Zq Bundle.tN "UNASSIGNED_STACK" Bundle.steD A s' s'.heap := by rw [hhp]; exact vx_Zq.moved hW0.alike (hU.kept hS.2.1)
  have hN' : vx_Zq Bundle.tN "SUPPRESSED_SENTINEL" Bundle.listD A s' s'.heap := by rw [hhp]; exact vx_Zq.moved hW0.alike (hN.kept hS.2.1)
  have h : ∀ w ∈ Bundle.ownAtoms0 own ic cls names, w.before args s' = true := vx_own hat' (vx_isRefq hU'.1) (vx_isRefq hN'.1) hU'.2.word hN'.2.word
  have hown' : s'.vm.findClass own = some m.cls := by rw [hvm]; exact hown
  have hins : (Cond.instantiable cls 6).before args s' = true := h _ (by simp [Bundle.ownAtoms0])
  obtain ⟨vm₁, cX, kX, hfX, hkX, -, -, X₁, st1⟩ := Y.newCold hexec (own := own) (C := cls) (index := ik) (n := 6) hown' hk' hins hini'
    (g := F0 m pc ls rest) rfl (by rw [hb]; exact d0) (Nat.le_refl _) (Nat.le_refl _)
  generalize hT1 : (T.setVm vm₁).pushCell { cls := cX, slots := kX.instanceTypes.map defaultValue, vm := .none } = T1 at X₁ st1
  have hcat : (Value.ref T.heap.size).category = 1 := rfl
  have hcellA : T1.heap[T.heap.size]? = some (freshCell cX kX) := by rw [← hT1]; exact State.heap_pushCell_size _ _
  have d3' : decode c.code (pc + 3) = .ok (.dup, 1) := by rw [hb]; exact d3
  obtain ⟨U, hsteps, hrun, hend, hW, hsame, ce, hce, hO⟩ := X₁.ctorThrow0 hexec htr (own := own) (cls := cls) (names := names) (ic := ic) hown' hcls hnames h (fun x hx => nomatch hx) hfX hkX hcellA (by rw [hhp, hT]; exact Nat.le_refl _)
    (g := { method := m, pc := pc + 4, locals := ls, stack := .ref T.heap.size :: .ref T.heap.size :: rest, locked := none }) rfl hsize rfl rfl (rest := rest) rfl
    (by rw [hb]; exact d4) (by rw [hb]; exact d7) hout hRframes (by simp only [List.map_cons, List.sum_cons, hcat]; omega) hlocks
  obtain ⟨f1, f2⟩ := vx_frame hsame
  rw [hhp] at f1 f2
  have hWs : s.WarmedH U.vm := State.WarmedH.trans hW0 hW
  have hcl : s.vm.findClass cls = some ce.cls := by
    have h9 := hO.cls
    rw [hvm] at h9
    exact h9
  have hall : s.sameButNew ({ U with vm := s.vm } : State) locs mc ms := by
    subst hA
    obtain ⟨e1, e2⟩ := hsame
    rw [State.setFrames_setFrames] at e1
    have h2 : (T.setVm s.vm).sameButNew ({ U with vm := s.vm } : State) [] (0 + 1) (0 + 6) := ⟨e1, e2⟩
    have h3 := X.same.trans h2
    rw [List.append_nil] at h3
    exact h3.mono hc hs
  refine ⟨U, ?_, .threw T.heap.size, hrun, hend, Or.inr ⟨T.heap.size, rfl, cls, ce, locs, hx U hWs.alike f1 (fun q hq => f2 q hq (fun z hz => nomatch hz)), hce, hO.vm, hcl, hWs, hall, hf⟩⟩
  refine st1 _ ?_
  show Steps p.tables e below (T1.setTop { method := m, pc := pc + 3, locals := ls, stack := .ref T.heap.size :: rest, locked := none }) _
  jvm_step X₁.here [X₁.here.top, hexec, d3', Value.category]
  exact hsteps
/-- 'throw new E("text")': new; dup; ldc; invokespecial; athrow -/
theorem vx_throwS {cc : ByteArray} {pc : Nat} (hexec : p.tables.exec = Jvm.exec) (hb : c.code = cc) (hl : l.stackTraces = false) {own cls text : String} {names : List String} {ik is ic mc ms sa : Nat} {A : Nat → Prop}
    (hown : s.vm.findClass own = some m.cls) (hcls : Bundle.fit cls = true) (hnames : ∀ n ∈ names, Bundle.fit n = true)
    (hk : (Cond.classLink own ik cls).before args s = true) (hini : (Cond.initialized cls).before args s = true) (hstr : vk_R own is text sa s) (hat : ∀ w ∈ vx_atS own ic cls names, w.before args s = true)
    (hgood : ∀ w ∈ Cond.classLink own ik cls :: Cond.initialized cls :: vx_atS own ic cls names, vx_ot w = true)
    (hU : vx_Zq Bundle.tN "UNASSIGNED_STACK" Bundle.steD A s s.heap) (hN : vx_Zq Bundle.tN "SUPPRESSED_SENTINEL" Bundle.listD A s s.heap) (hS : va_S A s.heap H locs) (hsize : ls.size = c.maxLocals)
    (d0 : decode cc pc = .ok (.new ik, 3)) (d3 : decode cc (pc + 3) = .ok (.dup, 1)) (d4 : decode cc (pc + 4) = .ok (.ldc is, 2)) (d6 : decode cc (pc + 6) = .ok (.invokespecial ic, 3)) (d9 : decode cc (pc + 9) = .ok (.athrow, 1))
    (hout : ∀ x ∈ c.exceptionTable.toList, covers x (pc + 9) = false)
    (hRframes : names.length + 3 < R.frames) (hRlocals : (rest.map fun v => v.category).sum + (13 * (names.length + 1) + 43) ≤ R.locals) (hRcells : cells + 1 ≤ R.cells) (hRslots : slots + 6 ≤ R.slots) (hlocks : meth.locks = false)
    (hx : ∀ t : State, s.vm.Alike t.vm → H.size ≤ t.heap.size → (∀ q : Nat, q < H.size → t.heap[q]? = H[q]?) → XC cls s t)
    (hf : ∀ z ∈ locs, free z.base) (hc : cells + 1 ≤ mc) (hs : slots + 6 ≤ ms) :
    W p l e R s m args below meth c H locs cells slots (vx_MQ below Qc XC args s mc ms free) (F0 m pc ls rest) := by
  intro T hT X
  have htr : e.platform.stackTraces = false := (show e.platform.stackTraces = l.stackTraces by rw [X.admits.platform]).trans hl
  have Y := vx_rebase X (R' := { frames := R.frames, locals := R.locals, cells := 1, slots := 6 }) (Nat.le_refl _) (Nat.le_refl _) hRcells hRslots
  obtain ⟨s', hA⟩ : ∃ z, z = (T.setVm s.vm).setFrames (.invoking m args :: below) := ⟨_, rfl⟩
  rw [← hA] at Y
  have hvm : s'.vm = s.vm := by rw [hA]; rfl
  have hhp : s'.heap = H := by rw [hA]; exact hT
  have hW0 : s.WarmedH s'.vm := by rw [hvm]; exact State.WarmedH.refl s
  have hat' : ∀ w ∈ vx_atS own ic cls names, w.before args s' = true := fun w hw => vx_ot_at hW0 hvm.symm (hgood w (List.mem_cons_of_mem _ (List.mem_cons_of_mem _ hw))) (hat w hw)
  have hk' : (Cond.classLink own ik cls).before args s' = true := vx_ot_at hW0 hvm.symm (hgood _ List.mem_cons_self) hk
  have hini' : (Cond.initialized cls).before args s' = true := vx_ot_at hW0 hvm.symm (hgood _ (List.mem_cons_of_mem _ List.mem_cons_self)) hini
  have hU' : vx_Zq Bundle.tN "UNASSIGNED_STACK" Bundle.steD A s' s'.heap := by rw [hhp]; exact vx_Zq.moved hW0.alike (hU.kept hS.2.1)
  have hN' : vx_Zq Bundle.tN "SUPPRESSED_SENTINEL" Bundle.listD A s' s'.heap := by rw [hhp]; exact vx_Zq.moved hW0.alike (hN.kept hS.2.1)
  have h : ∀ w ∈ Bundle.ownAtoms own ic cls names, w.before args s' = true := vx_own hat' (vx_isRefq hU'.1) (vx_isRefq hN'.1) hU'.2.word hN'.2.word
  have hown' : s'.vm.findClass own = some m.cls := by rw [hvm]; exact hown
  have hins : (Cond.instantiable cls 6).before args s' = true := h _ (by simp [Bundle.ownAtoms])
  obtain ⟨vm₁, cX, kX, hfX, hkX, -, -, X₁, st1⟩ := Y.newCold hexec (own := own) (C := cls) (index := ik) (n := 6) hown' hk' hins hini'
    (g := F0 m pc ls rest) rfl (by rw [hb]; exact d0) (Nat.le_refl _) (Nat.le_refl _)
  generalize hT1 : (T.setVm vm₁).pushCell { cls := cX, slots := kX.instanceTypes.map defaultValue, vm := .none } = T1 at X₁ st1
  have hcat : (Value.ref T.heap.size).category = 1 := rfl
  have hcellA : T1.heap[T.heap.size]? = some (freshCell cX kX) := by rw [← hT1]; exact State.heap_pushCell_size _ _
  have d3' : decode c.code (pc + 3) = .ok (.dup, 1) := by rw [hb]; exact d3
  have d4' : decode c.code (pc + 4) = .ok (.ldc is, 2) := by rw [hb]; exact d4
  have hstr' : vk_R own is text sa s' := vk_R.warm hW0 hstr
  obtain ⟨U, hsteps, hrun, hend, hW, hsame, ce, hce, hO⟩ := X₁.ctorThrowS hexec htr (own := own) (cls := cls) (names := names) (ic := ic) hown' hcls hnames h (fun x hx => nomatch hx) hfX hkX hcellA (by rw [hhp, hT]; exact Nat.le_refl _) (msg := .ref sa) rfl
    (g := { method := m, pc := pc + 6, locals := ls, stack := .ref sa :: .ref T.heap.size :: .ref T.heap.size :: rest, locked := none }) rfl hsize rfl rfl (rest := rest) rfl
    (by rw [hb]; exact d6) (by rw [hb]; exact d9) hout hRframes (by simp only [List.map_cons, List.sum_cons, hcat]; omega) hlocks
  obtain ⟨f1, f2⟩ := vx_frame hsame
  rw [hhp] at f1 f2
  have hWs : s.WarmedH U.vm := State.WarmedH.trans hW0 hW
  have hcl : s.vm.findClass cls = some ce.cls := by
    have h9 := hO.cls
    rw [hvm] at h9
    exact h9
  have hall : s.sameButNew ({ U with vm := s.vm } : State) locs mc ms := by
    subst hA
    obtain ⟨e1, e2⟩ := hsame
    rw [State.setFrames_setFrames] at e1
    have h2 : (T.setVm s.vm).sameButNew ({ U with vm := s.vm } : State) [] (0 + 1) (0 + 6) := ⟨e1, e2⟩
    have h3 := X.same.trans h2
    rw [List.append_nil] at h3
    exact h3.mono hc hs
  refine ⟨U, ?_, .threw T.heap.size, hrun, hend, Or.inr ⟨T.heap.size, rfl, cls, ce, locs, hx U hWs.alike f1 (fun q hq => f2 q hq (fun z hz => nomatch hz)), hce, hO.vm, hcl, hWs, hall, hf⟩⟩
  refine st1 _ ?_
  show Steps p.tables e below (T1.setTop { method := m, pc := pc + 3, locals := ls, stack := .ref T.heap.size :: rest, locked := none }) _
  jvm_step X₁.here [X₁.here.top, hexec, d3', Value.category]
  exact X₁.ldcString hexec (own := own) (text := text) (index := is) (a := sa) hown' hstr'.1 hstr'.2
    (g := { method := m, pc := pc + 4, locals := ls, stack := .ref T.heap.size :: .ref T.heap.size :: rest, locked := none }) rfl d4' _ hsteps
/-- 'throw new E("text")', the text by a wide index -/
theorem vx_throwSW {cc : ByteArray} {pc : Nat} (hexec : p.tables.exec = Jvm.exec) (hb : c.code = cc) (hl : l.stackTraces = false) {own cls text : String} {names : List String} {ik is ic mc ms sa : Nat} {A : Nat → Prop}
    (hown : s.vm.findClass own = some m.cls) (hcls : Bundle.fit cls = true) (hnames : ∀ n ∈ names, Bundle.fit n = true)
    (hk : (Cond.classLink own ik cls).before args s = true) (hini : (Cond.initialized cls).before args s = true) (hstr : vk_R own is text sa s) (hat : ∀ w ∈ vx_atS own ic cls names, w.before args s = true)
    (hgood : ∀ w ∈ Cond.classLink own ik cls :: Cond.initialized cls :: vx_atS own ic cls names, vx_ot w = true)
    (hU : vx_Zq Bundle.tN "UNASSIGNED_STACK" Bundle.steD A s s.heap) (hN : vx_Zq Bundle.tN "SUPPRESSED_SENTINEL" Bundle.listD A s s.heap) (hS : va_S A s.heap H locs) (hsize : ls.size = c.maxLocals)
    (d0 : decode cc pc = .ok (.new ik, 3)) (d3 : decode cc (pc + 3) = .ok (.dup, 1)) (d4 : decode cc (pc + 4) = .ok (.ldc_w is, 3)) (d7 : decode cc (pc + 7) = .ok (.invokespecial ic, 3)) (d10 : decode cc (pc + 10) = .ok (.athrow, 1))
    (hout : ∀ x ∈ c.exceptionTable.toList, covers x (pc + 10) = false)
    (hRframes : names.length + 3 < R.frames) (hRlocals : (rest.map fun v => v.category).sum + (13 * (names.length + 1) + 43) ≤ R.locals) (hRcells : cells + 1 ≤ R.cells) (hRslots : slots + 6 ≤ R.slots) (hlocks : meth.locks = false)
    (hx : ∀ t : State, s.vm.Alike t.vm → H.size ≤ t.heap.size → (∀ q : Nat, q < H.size → t.heap[q]? = H[q]?) → XC cls s t)
    (hf : ∀ z ∈ locs, free z.base) (hc : cells + 1 ≤ mc) (hs : slots + 6 ≤ ms) :
    W p l e R s m args below meth c H locs cells slots (vx_MQ below Qc XC args s mc ms free) (F0 m pc ls rest) := by
  intro T hT X
  have htr : e.platform.stackTraces = false := (show e.platform.stackTraces = l.stackTraces by rw [X.admits.platform]).trans hl
  have Y := vx_rebase X (R' := { frames := R.frames, locals := R.locals, cells := 1, slots := 6 }) (Nat.le_refl _) (Nat.le_refl _) hRcells hRslots
  obtain ⟨s', hA⟩ : ∃ z, z = (T.setVm s.vm).setFrames (.invoking m args :: below) := ⟨_, rfl⟩
  rw [← hA] at Y
  have hvm : s'.vm = s.vm := by rw [hA]; rfl
  have hhp : s'.heap = H := by rw [hA]; exact hT
  have hW0 : s.WarmedH s'.vm := by rw [hvm]; exact State.WarmedH.refl s
  have hat' : ∀ w ∈ vx_atS own ic cls names, w.before args s' = true := fun w hw => vx_ot_at hW0 hvm.symm (hgood w (List.mem_cons_of_mem _ (List.mem_cons_of_mem _ hw))) (hat w hw)
  have hk' : (Cond.classLink own ik cls).before args s' = true := vx_ot_at hW0 hvm.symm (hgood _ List.mem_cons_self) hk
  have hini' : (Cond.initialized cls).before args s' = true := vx_ot_at hW0 hvm.symm (hgood _ (List.mem_cons_of_mem _ List.mem_cons_self)) hini
  have hU' : vx_Zq Bundle.tN "UNASSIGNED_STACK" Bundle.steD A s' s'.heap := by rw [hhp]; exact vx_Zq.moved hW0.alike (hU.kept hS.2.1)
  have hN' : vx_Zq Bundle.tN "SUPPRESSED_SENTINEL" Bundle.listD A s' s'.heap := by rw [hhp]; exact vx_Zq.moved hW0.alike (hN.kept hS.2.1)
  have h : ∀ w ∈ Bundle.ownAtoms own ic cls names, w.before args s' = true := vx_own hat' (vx_isRefq hU'.1) (vx_isRefq hN'.1) hU'.2.word hN'.2.word
  have hown' : s'.vm.findClass own = some m.cls := by rw [hvm]; exact hown
  have hins : (Cond.instantiable cls 6).before args s' = true := h _ (by simp [Bundle.ownAtoms])
  obtain ⟨vm₁, cX, kX, hfX, hkX, -, -, X₁, st1⟩ := Y.newCold hexec (own := own) (C := cls) (index := ik) (n := 6) hown' hk' hins hini'
    (g := F0 m pc ls rest) rfl (by rw [hb]; exact d0) (Nat.le_refl _) (Nat.le_refl _)
  generalize hT1 : (T.setVm vm₁).pushCell { cls := cX, slots := kX.instanceTypes.map defaultValue, vm := .none } = T1 at X₁ st1
  have hcat : (Value.ref T.heap.size).category = 1 := rfl
  have hcellA : T1.heap[T.heap.size]? = some (freshCell cX kX) := by rw [← hT1]; exact State.heap_pushCell_size _ _
  have d3' : decode c.code (pc + 3) = .ok (.dup, 1) := by rw [hb]; exact d3
  have d4' : decode c.code (pc + 4) = .ok (.ldc_w is, 3) := by rw [hb]; exact d4
  have hstr' : vk_R own is text sa s' := vk_R.warm hW0 hstr
  obtain ⟨U, hsteps, hrun, hend, hW, hsame, ce, hce, hO⟩ := X₁.ctorThrowS hexec htr (own := own) (cls := cls) (names := names) (ic := ic) hown' hcls hnames h (fun x hx => nomatch hx) hfX hkX hcellA (by rw [hhp, hT]; exact Nat.le_refl _) (msg := .ref sa) rfl
    (g := { method := m, pc := pc + 7, locals := ls, stack := .ref sa :: .ref T.heap.size :: .ref T.heap.size :: rest, locked := none }) rfl hsize rfl rfl (rest := rest) rfl
    (by rw [hb]; exact d7) (by rw [hb]; exact d10) hout hRframes (by simp only [List.map_cons, List.sum_cons, hcat]; omega) hlocks
  obtain ⟨f1, f2⟩ := vx_frame hsame
  rw [hhp] at f1 f2
  have hWs : s.WarmedH U.vm := State.WarmedH.trans hW0 hW
  have hcl : s.vm.findClass cls = some ce.cls := by
    have h9 := hO.cls
    rw [hvm] at h9
    exact h9
  have hall : s.sameButNew ({ U with vm := s.vm } : State) locs mc ms := by
    subst hA
    obtain ⟨e1, e2⟩ := hsame
    rw [State.setFrames_setFrames] at e1
    have h2 : (T.setVm s.vm).sameButNew ({ U with vm := s.vm } : State) [] (0 + 1) (0 + 6) := ⟨e1, e2⟩
    have h3 := X.same.trans h2
    rw [List.append_nil] at h3
    exact h3.mono hc hs
  refine ⟨U, ?_, .threw T.heap.size, hrun, hend, Or.inr ⟨T.heap.size, rfl, cls, ce, locs, hx U hWs.alike f1 (fun q hq => f2 q hq (fun z hz => nomatch hz)), hce, hO.vm, hcl, hWs, hall, hf⟩⟩
  refine st1 _ ?_
  show Steps p.tables e below (T1.setTop { method := m, pc := pc + 3, locals := ls, stack := .ref T.heap.size :: rest, locked := none }) _
  jvm_step X₁.here [X₁.here.top, hexec, d3', Value.category]
  exact X₁.ldcStringW hexec (own := own) (text := text) (index := is) (a := sa) hown' hstr'.1 hstr'.2
    (g := { method := m, pc := pc + 4, locals := ls, stack := .ref T.heap.size :: .ref T.heap.size :: rest, locked := none }) rfl d4' _ hsteps
end Ends
section Bodies
variable {l : Launch}
theorem vx_ofW {y : MethodName} {ws ws' : List Cond} {rm : Room} {Pc : Array Value → State → Prop} {Qc : Array Value → State → Outcome → State → Prop} {XC : String → State → State → Prop} {mc ms : Nat} {free : Addr → Prop} {cc : ByteArray} {maxL : Nat} {ret : Option FieldType}
    (hy : plainName y.cls = true) (hw : ws = Cond.code y cc maxL ret :: ws')
    (body : ∀ p e s m args below meth c s₁, BodyLoose p l y (headSpec ws rm) cc maxL ret e s m args below meth c s₁ → c.maxLocals = maxL → (∀ x ∈ c.exceptionTable.toList, False) → Pc args s →
      W p l e (headSpec ws rm).room s m args below meth c s.heap [] 0 0 (vx_MQ below Qc XC args s mc ms free) (entryFrame m args maxL)) : vx_Met l y ws rm Pc Qc XC mc ms free := by
  refine MetFree.of_bodyS (code := cc) (maxLocals := maxL) (ret := ret) hy ?_ ?_
  · intro args s m h hn
    obtain ⟨meth, c, h1, h2, h3, h4, h5, h6, -, -⟩ := Cond.code_spec hn (atoms_spec (ws := ws) h _ (by rw [hw]; exact List.mem_cons_self))
    exact ⟨meth, c, h1, h2, h3, h4, h5, h6⟩
  · intro p e s m args below meth c s₁ B hml hP _
    have hh0 : s₁.heap = s.heap := by rw [B.state]; rfl
    have ht : ∀ x ∈ c.exceptionTable.toList, False := by
      obtain ⟨meth9, c9, h1, h2, -, -, -, -, h7, -⟩ := Cond.code_spec B.named (atoms_spec (ws := ws) B.pre _ (by rw [hw]; exact List.mem_cons_self))
      cases Option.some.inj (h1.symm.trans B.method)
      cases Option.some.inj (h2.symm.trans (Stand.of_body B).code)
      intro x hx
      rw [Array.isEmpty_iff.mp h7] at hx
      cases hx
    obtain ⟨t, a1, o, b1, b2, b3⟩ := body p e s m args below meth c s₁ B hml ht hP s₁ hh0 (Stand.of_body B)
    exact ⟨t, o, a1, b1, b2, b3⟩
/-- the table of a body with handlers -/
theorem vx_table {p : Program} {x y : MethodName} {S : Spec} {cc bytes : ByteArray} {maxL maxL' : Nat} {ret ret' : Option FieldType} {e : Env} {s s₁ : State} {m : MethodId} {args : Array Value} {below : List Frame} {meth : Method} {c : Code} {hh : List (Nat × Nat × Nat × Nat)}
    (B : BodyLoose p l y S cc maxL ret e s m args below meth c s₁) (h : (Cond.codeWith y bytes maxL' ret' hh).before args s = true) : c.exceptionTable.toList = tableOf hh := by
  obtain ⟨m9, meth9, c9, hn9, h1, h2, -, -, h6, -⟩ := Cond.codeWith_spec h
  cases Option.some.inj (hn9.symm.trans B.named)
  cases Option.some.inj (h1.symm.trans B.method)
  cases Option.some.inj (h2.symm.trans (Stand.of_body B).code)
  rw [← h6, table_eq]
end Bodies
end VXA
/-! ===== END ===== -/
/-! ===== BEGIN a static call of a method with an exception table ===== -/
section VXS
variable {p : Program} {l : Launch} {e : Env} {R : Room} {s : State} {m : MethodId} {args : Array Value} {below : List Frame} {meth : Method} {c : Code} {T : State} {H : Heap} {locs : List Loc} {cells slots : Nat}
abbrev vx_CSW (R : Room) (s : State) (args : Array Value) (own : String) (index : Nat) (y : MethodName) (bytes : ByteArray) (maxL : Nat) (ret : Option FieldType) (hh : List (Nat × Nat × Nat × Nat)) (ws : List Cond) (rm : Room) (mc ms n : Nat) : Prop :=
  (rm.cells = mc ∧ rm.slots = ms ∧ rm.frames + 1 ≤ R.frames ∧ 8 + (maxL + 11) + rm.locals ≤ R.locals ∧ (∀ w ∈ ws, ∀ (a' : Array Value) (U : State), s.WarmedH U.vm → w.before a' U = true) ∧ Cond.codeWith y bytes maxL ret hh ∈ ws) ∧
  (Cond.codeWith y bytes maxL ret hh).before args s = true ∧ (Cond.initialized y.cls).before args s = true ∧ (y.cls ≠ "java/lang/invoke/MethodHandle" ∧ y.cls ≠ "java/lang/invoke/VarHandle") ∧
  (∀ sig, parseMethodDescriptor y.desc = some sig → n = sig.parameters.length) ∧ (Cond.methodLink own index y).before args s = true ∧ (Cond.static y).before args s = true
theorem vx_cwSW {own : String} {index maxL mc ms : Nat} {y : MethodName} {bytes : ByteArray} {ret : Option FieldType} {hh : List (Nat × Nat × Nat × Nat)} {Ts ws ws' : List Cond} {rm : Room} (n : Nat) (ht : ∀ w ∈ Ts, w.before args s = true) (hT : GoodIn Ts (va_wsS own index y ws)) (hw : ws = Cond.codeWith y bytes maxL ret hh :: ws') (hrc : rm.cells = mc) (hrs : rm.slots = ms)
    (hd : y.cls ≠ "java/lang/invoke/MethodHandle" ∧ y.cls ≠ "java/lang/invoke/VarHandle" ∧ (parseMethodDescriptor y.desc).map (fun d => d.parameters.length) = some n) (hR : rm.frames + 1 ≤ R.frames ∧ 8 + (maxL + 11) + rm.locals ≤ R.locals) :
    vx_CSW R s args own index y bytes maxL ret hh ws rm mc ms n := by
  have ok : ∀ w ∈ va_wsS own index y ws, w.before args s = true := fun w h => ht w (hT w h).1
  have hG : GoodIn Ts ws := fun w h => hT w (by unfold va_wsS; exact List.mem_append_right _ h)
  have hc : Cond.codeWith y bytes maxL ret hh ∈ ws := by rw [hw]; exact List.mem_cons_self
  refine ⟨⟨hrc, hrs, hR.1, hR.2, pay_in ht hG, hc⟩, ht _ (hG _ hc).1, ok _ (by simp [va_wsS]), ⟨hd.1, hd.2.1⟩, fun sig h => ?_, ok _ (by simp [va_wsS]), ok _ (by simp [va_wsS])⟩
  have h2 := hd.2.2
  rw [h] at h2
  exact (Option.some.inj h2).symm
theorem vx_callSW (X : Stand p l e R s m args below meth c T locs cells slots) (hexec : p.tables.exec = Jvm.exec) {own : String} {index : Nat} {y : MethodName} {bytes : ByteArray} {maxL : Nat} {ret : Option FieldType} {hh : List (Nat × Nat × Nat × Nat)}
    (hown : s.vm.findClass own = some m.cls) (hlink : (Cond.methodLink own index y).before args s = true) (hstat : (Cond.static y).before args s = true) (hinit : (Cond.initialized y.cls).before args s = true)
    (hcode : (Cond.codeWith y bytes maxL ret hh).before args s = true) (hy : y.cls ≠ "java/lang/invoke/MethodHandle" ∧ y.cls ≠ "java/lang/invoke/VarHandle")
    {W9 : Nat} {Pre : Pt → Array Value → Prop} {Post : Pt → Array Value → Option Value → Pt → Prop} (hK : Back l R p e below s args y 3 W9 Pre Post)
    {g : JFrame} (hg : g.method = m) (hsize : g.locals.size = c.maxLocals) {argsL rest : List Value} (hlen : ∀ sig, parseMethodDescriptor y.desc = some sig → argsL.length = sig.parameters.length)
    (hstack : g.stack = argsL.reverse ++ rest) (hW : 2 * g.monitorRoom + (rest.map fun v => v.category).sum ≤ W9) (hdg : decode c.code g.pc = .ok (.invokestatic index, 3))
    (hpre : ∀ vm₁, s.WarmedH vm₁ → Pre ⟨T.setVm vm₁, locs, cells, slots⟩ argsL.toArray) :
    ∃ (v : Option Value) (vm₁ : Vm) (B : Pt), s.WarmedH vm₁ ∧ Stand p l e R s m args below meth c B.U B.locs B.cells B.slots ∧ Post ⟨T.setVm vm₁, locs, cells, slots⟩ argsL.toArray v B ∧
      ∀ target, Steps p.tables e below (B.U.setTop { g with pc := g.pc + 3, stack := v.toList ++ rest }) target → Steps p.tables e below (T.setTop g) target := by
  obtain ⟨mk, methM, cM, hnamed, hmethM, -, -, -, -, -, -, hsigM⟩ := Cond.codeWith_spec hcode
  have hstatic : methM.isStatic = true := Cond.static_spec hnamed hmethM hstat
  obtain ⟨kP, hkP, -⟩ := className_of_methodNamed hnamed
  have hinitP : kP.init = .initialized := Cond.initialized_spec (findClass_of_methodNamed hnamed) hkP hinit
  obtain ⟨vm₁, X₁, hstep₁⟩ := X.invokestatic hexec hown hlink hnamed hmethM hstatic hkP hinitP hy (g := g) hg (argsL := argsL) (rest := rest) (hlen _ hsigM) hstack hdg
  obtain ⟨v, B, X', hpost, hsteps⟩ := hK m meth c ⟨T.setVm vm₁, locs, cells, slots⟩ { g with stack := rest } (.invokestatic index) mk argsL.toArray X₁ hg hsize hdg hW (X₁.named hnamed) (hpre vm₁ X₁.warmed)
  exact ⟨v, vm₁, B, X₁.warmed, X', hpost, fun target h => hstep₁ _ fun acts => by rw [doInvoke_state]; exact hsteps.trans h⟩
theorem vx_runSW {y : MethodName} {bytes cc : ByteArray} {maxL nL mc ms n index : Nat} {ret : Option FieldType} {hh : List (Nat × Nat × Nat × Nat)} {ws : List Cond} {rm : Room} {Pc : Array Value → State → Prop} {Qc : Array Value → State → Outcome → State → Prop} {free : Addr → Prop} {Ts : List Cond} {own : String} {As rest : List Value} {g : JFrame}
    (S : CallFix p m c cc nL s args Ts own) (hM : Met l y ws rm Pc Qc mc ms free) (cw : vx_CSW R s args own index y bytes maxL ret hh ws rm mc ms n) (hp : PreS s H Pc As)
    (hg : g.method = m) (hn : As.length = n) (hsize : g.locals.size = nL) (hstack : g.stack = As.reverse ++ rest) (hW : 2 * g.monitorRoom + (rest.map fun v => v.category).sum ≤ 8) (hdg : decode cc g.pc = .ok (.invokestatic index, 3)) (hf : cells + mc ≤ R.cells ∧ slots + ms ≤ R.slots) :
    va_Run p l e R s m args below meth c H locs cells slots mc ms g rest (Qc As.toArray) (free) := by
  obtain ⟨⟨hrc, hrs, hfr, hlo, hws, hcw⟩, hcode, hini, hy, hlen, hl, hstt⟩ := cw
  have hK : Back l R p e below s args y 3 8 (PreOf R mc ms Pc) (PostOf Qc mc ms free) := va_backW (hh := hh) (bytes := bytes) (maxL := maxL) (ret := ret) hM hp.1 hrc hrs hfr hlo hws hcw (fun a' U hW => word_at hW (Or.inl (by first | rfl | simp [Cond.onTables, Cond.keeps, Cond.steady])) hini)
  obtain ⟨hx, hb, hml, ho, -⟩ := S
  intro T hT X
  obtain ⟨v, vm₁, ⟨U', l2, c2, s2⟩, hW₁, X', ⟨g', mk, t, L, e1, e2, hq, h1, hL, h2, h3⟩, st⟩ := vx_callSW X hx (hh := hh) (bytes := bytes) (maxL := maxL) (ret := ret) ho hl hstt hini hcode hy hK hg (hsize.trans hml.symm) (argsL := As) (rest := rest) (fun sig h => hn.trans (hlen sig h)) hstack hW (by rw [hb]; exact hdg)
    (fun vm₁ hW₁ => ⟨hf.1, hf.2, hp.2 (T.setVm vm₁) hT hW₁⟩)
  dsimp only [Pt.U, Pt.locs, Pt.cells, Pt.slots] at X' e1 e2 h1 h2 h3 st
  subst h1; subst h2; subst h3
  exact ⟨v, (T.setVm vm₁).calling g' mk As.toArray, t, U', L, hT, X', hL, e1, e2, hq, st⟩
/-- not caught here, past rows that name other classes: it goes on to the caller -/
theorem vx_outP {p : Program} {l : Launch} {e : Env} {R : Room} {s : State} {m : MethodId} {args : Array Value} {below : List Frame} {meth : Method} {c : Code} {H : Heap} {locs : List Loc} {cells slots : Nat} {free : Addr → Prop} {ls : Array Slot} {rest : List Value} {Qc : Array Value → State → Outcome → State → Prop} {XC : String → State → State → Prop}
    {pc : Nat} {own E : String} {ce : Cell} {q : Addr} {mc ms : Nat} (hown : s.vm.findClass own = some m.cls) (hlocks : meth.locks = false)
    (hpass : ∀ z ∈ c.exceptionTable.toList, covers z pc = false ∨ (z.catchType ≠ 0 ∧ ∃ nm : String, (Cond.classLink own z.catchType nm).before args s = true ∧ va_Nc E nm s)) (hcell : H[q]? = some ce) (hv : ce.vm = .none) (hcl : s.vm.findClass E = some ce.cls)
    (hx : ∀ t : State, t.heap = H → s.vm.Alike t.vm → XC E s t) (hf : ∀ z ∈ locs, free z.base) (hc : cells ≤ mc) (hs : slots ≤ ms) :
    vx_W p l e R s m args below meth c H locs cells slots (vx_MQ below Qc XC args s mc ms free) (F0 m pc ls rest) q := by
  intro T hT X
  have hpl : e.platform.magicAccessors = ({} : Platform).magicAccessors := by rw [X.admits.platform]
  obtain ⟨vm', hW', X', st⟩ := X.outThrough hlocks q (g := F0 m pc ls rest) rfl rfl rfl (cell := ce) (by rw [hT]; exact hcell) (by rw [hv]; rfl)
    (by obtain ⟨k9, h9, -⟩ := Vm.findClass_spec hcl; exact ⟨k9, h9⟩) (fun z hz => by
      rcases hpass z hz with h | ⟨hz0, nm, hl1, hn1⟩
      · exact Or.inl h
      · obtain ⟨c6, hc6, hcl6⟩ := Cond.classLink_spec hown hl1 e.platform hpl
        obtain ⟨a8, b8, h1, h2, h3⟩ := hn1
        cases Option.some.inj (h1.symm.trans hcl)
        cases Option.some.inj (h2.symm.trans hc6)
        exact Or.inr ⟨hz0, _, hcl6, h3⟩)
  obtain ⟨g₀, hfr⟩ := X'.frames_eq
  have hcell9 : ((T.setVm vm').setFrames (.throwing q :: below)).heap[q]? = some ce := by
    show T.heap[q]? = some ce
    rw [hT]; exact hcell
  have hend : Ended ((T.setVm vm').setFrames (.throwing q :: below)) below (.threw q) := State.frames_setFrames _ (State.cur_lt_of_frames hfr)
  refine ⟨(T.setVm vm').setFrames (.throwing q :: below), ?_, .threw q, X'.here.running, hend, Or.inr ⟨q, rfl, E, ce, locs, hx _ hT (X'.ends _).1.alike, hcell9, hv, hcl, (X'.ends _).1, (X'.ends _).2.mono hc hs, hf⟩⟩
  rw [X.pushThrowing_eq]
  exact st
/-- a thing of a world lies in the heap -/
theorem vx_lt {D : va_G} {cl : List vw_C} {ws : va_W} {H1 : Heap} (h : va_P D cl ws H1) {k : Nat} {q : Nat × va_E} (hk : ws[k]? = some q) : q.1 < H1.size := (h k q hk).lt
end VXS
/-! ===== END ===== -/
/-! ===== BEGIN methods with a table of their own: called by a name, returning or throwing ===== -/
section VXH
/-! vx_backW, vx_callVX, vx_callSX, vx_callVW, vx_runVW, vx_runVX, vx_runSX, vx_ofWH follow the same proofs as their sisters above (Free/Laws.lean, Shelf42/LK1.lean); vx_outP calls Shelf42/NT130.lean (outThrough). -/
section
variable {l : Launch} {R : Room} {p : Program} {e : Env} {below : List Frame} {s : State} {sargs : Array Value} {y : MethodName} {len W9 : Nat}
theorem vx_backW {ws : List Cond} {rm : Room} {Pc : Array Value → State → Prop} {Qc : Array Value → State → Outcome → State → Prop} {XC : String → State → State → Prop} {mc ms : Nat} {free : Addr → Prop} {bytes : ByteArray} {maxL : Nat} {ret : Option FieldType} {hh : List (Nat × Nat × Nat × Nat)}
    (hM : vx_Met l y ws rm Pc Qc XC mc ms free) (hblind : FrameBlind Pc) (hrc : rm.cells = mc) (hrs : rm.slots = ms)
    (hframes : rm.frames + 1 ≤ R.frames) (hlocals : W9 + (maxL + 11) + rm.locals ≤ R.locals)
    (hws : ∀ w ∈ ws, ∀ a' U, s.WarmedH U.vm → w.before a' U = true) (hcode : Cond.codeWith y bytes maxL ret hh ∈ ws) (hinit : ∀ a' U, s.WarmedH U.vm → (Cond.initialized y.cls).before a' U = true) :
    vx_Back l R p e below s sargs y len W9 (PreOf R mc ms Pc) (PostOf Qc mc ms free) (vx_Post XC mc ms free) := by
  intro m meth c A g ig mk a X hg hsize hdg hW hn hp
  have h1 : (headSpec ws rm).pre.before a A.U = true := atoms_intro fun w hw => hws w hw _ _ X.warmed
  have h2 : (Cond.codeWith y bytes maxL ret hh).before a A.U = true := hws _ hcode _ _ X.warmed
  have h3 : (Cond.initialized y.cls).before a A.U = true := hinit _ _ X.warmed
  have h4 : A.cells + (headSpec ws rm).room.cells ≤ R.cells := by rw [show (headSpec ws rm).room.cells = mc from hrc]; exact hp.1
  have h5 : A.slots + (headSpec ws rm).room.slots ≤ R.slots := by rw [show (headSpec ws rm).room.slots = ms from hrs]; exact hp.2.1
  have hPc : Pc a (A.U.calling g mk a) := hblind _ _ _ _ hp.2.2
  obtain ⟨U, Ls, c0, s0⟩ := A
  dsimp only [Pt.U, Pt.locs, Pt.cells, Pt.slots] at h1 h2 h3 h4 h5 X hn hPc ⊢
  obtain ⟨m9, methY, cY, hn9, hmY, hcY, -, hlY, -⟩ := Cond.codeWith_spec h2
  cases Option.some.inj (hn9.symm.trans hn)
  obtain ⟨kY, hkY, -⟩ := className_of_methodNamed hn
  have hinitY : kY.init = .initialized := Cond.initialized_spec (findClass_of_methodNamed hn) hkY h3
  have h : At U g.method c below := by rw [hg]; exact X.here
  have hlocals9 : W9 + (maxL + 11) + (headSpec ws rm).room.locals ≤ R.locals := hlocals
  have happ : (headSpec ws rm).appliesLoose y e.platform (U.calling g mk a) = true :=
    Spec.appliesLoose_calling (g := g) h hdg hn hkY hinitY
      (X.room_calling (g := g) (R' := (headSpec ws rm).room) hsize hmY hcY hframes (by rw [hlY]; omega) h4 h5) h1
  obtain ⟨mid, hmid⟩ := h.above
  have hfr : (U.setTop g).frames = (.java g :: mid) ++ below := by rw [State.frames_setTop' g h.top, hmid]; rfl
  obtain ⟨o, s₂, hsteps, -, hend, hq⟩ := Steps.callFree hM p X.admits X.cas X.clock (acts := []) hfr happ hPc trivial
  have hq' : vx_Q Qc XC mc ms free a (U.calling g mk a) o s₂ := hq
  rw [State.frames_setTop' g h.top] at hend
  obtain ⟨g₀, hg0⟩ := Option.isSome_iff_exists.mp h.top
  obtain ⟨r, hr⟩ := State.topJava?_eq_some.mp hg0
  have hr' : (({ U with heap := s₂.heap, slotsUsed := s₂.slotsUsed } : State).setVm s₂.vm).frames = .java g₀ :: r := hr
  rcases hq' with ⟨hqc, L, hfe, hL⟩ | ⟨q, rfl, E, ce, L, hx, hce, hcv, hcl, hW₂, hsm, hL⟩
  · obtain ⟨⟨v, rfl⟩, hW₂, e2, q2, q3, q4, q5, q6⟩ := id hfe
    have e3 : s₂ = ({ (U.calling g mk a).setFrames s₂.frames with heap := s₂.heap, slotsUsed := s₂.slotsUsed } : State).setVm s₂.vm := by
      have : s₂ = ({ s₂ with vm := (U.calling g mk a).vm } : State).setVm s₂.vm := rfl
      rw [e2] at this
      exact this
    obtain ⟨c₂, i₂, len₂, hc₂, hd₂, hf₂⟩ := hend
    have hW' : U.WarmedH s₂.vm := hW₂
    have hcc : c₂ = c := by
      have h1 : s₂.code? g.method = U.code? g.method := by
        rw [State.code?_eq, State.code?_eq, hW'.alike.method?]
      exact Option.some.inj (hc₂.symm.trans (h1.trans h.code))
    subst hcc
    have hlen : len₂ = len := by rw [hdg] at hd₂; cases hd₂; rfl
    subst hlen
    have hs₂ : s₂ = (({ U with heap := s₂.heap, slotsUsed := s₂.slotsUsed } : State).setVm s₂.vm).setTop { g with pc := g.pc + len₂, stack := v.toList ++ g.stack } := by
      refine e3.trans ?_
      rw [hf₂, State.calling_eq h.top, State.setFrames_setFrames, State.setTop_of_frames _ hr', hr]
      rfl
    have hsame : U.sameButNew ({ U with heap := s₂.heap, slotsUsed := s₂.slotsUsed } : State) L mc ms := by
      refine ⟨?_, q2, q3, q4, q5, q6⟩
      obtain ⟨t, ht, -⟩ := State.frames_cons hr
      show ({ U with heap := s₂.heap, slotsUsed := s₂.slotsUsed } : State) = { U.setFrames U.frames with heap := s₂.heap, slotsUsed := s₂.slotsUsed }
      rw [State.setFrames_self ht]
    subst hg
    refine Or.inl ⟨v, ⟨(({ U with heap := s₂.heap, slotsUsed := s₂.slotsUsed } : State).setVm s₂.vm), Ls ++ L, c0 + mc, s0 + ms⟩,
      ⟨X.admits, X.cas, X.clock, X.frames, X.room, X.hears, X.method, X.code, (X.here.setHeapUsed s₂.heap s₂.slotsUsed).setVm hW'.alike, X.tail, State.WarmedH.trans X.warmed hW', X.limits, X.bytes, X.same.trans (hsame.setVm s.vm)⟩,
      ⟨g, mk, s₂, L, rfl, rfl, hqc, rfl, hL, rfl, rfl⟩, ?_⟩
    show Steps p.tables e below _ ((({ U with heap := s₂.heap, slotsUsed := s₂.slotsUsed } : State).setVm s₂.vm).setTop { g with pc := g.pc + len₂, stack := v.toList ++ g.stack })
    rw [← hs₂]
    exact hsteps
  · obtain ⟨e2, q2, q3, q4, q5, q6⟩ := id hsm
    have e3 : s₂ = ({ (U.calling g mk a).setFrames s₂.frames with heap := s₂.heap, slotsUsed := s₂.slotsUsed } : State).setVm s₂.vm := by
      have : s₂ = ({ s₂ with vm := (U.calling g mk a).vm } : State).setVm s₂.vm := rfl
      rw [e2] at this
      exact this
    have hf₂ : s₂.frames = .throwing q :: .java g :: U.frames.tail := hend
    have hW' : U.WarmedH s₂.vm := hW₂
    have hs₂ : s₂ = ((({ U with heap := s₂.heap, slotsUsed := s₂.slotsUsed } : State).setVm s₂.vm).setTop g).pushFrame (.throwing q) := by
      refine e3.trans ?_
      rw [hf₂, State.calling_eq h.top, State.setFrames_setFrames, State.pushFrame, State.frames_setTop _ hr', State.setTop_of_frames _ hr', State.setFrames_setFrames, hr]
      rfl
    have hsame : U.sameButNew ({ U with heap := s₂.heap, slotsUsed := s₂.slotsUsed } : State) L mc ms := by
      refine ⟨?_, q2, q3, q4, q5, q6⟩
      obtain ⟨t, ht, -⟩ := State.frames_cons hr
      show ({ U with heap := s₂.heap, slotsUsed := s₂.slotsUsed } : State) = { U.setFrames U.frames with heap := s₂.heap, slotsUsed := s₂.slotsUsed }
      rw [State.setFrames_self ht]
    subst hg
    refine Or.inr ⟨q, ⟨(({ U with heap := s₂.heap, slotsUsed := s₂.slotsUsed } : State).setVm s₂.vm), Ls ++ L, c0 + mc, s0 + ms⟩,
      ⟨X.admits, X.cas, X.clock, X.frames, X.room, X.hears, X.method, X.code, (X.here.setHeapUsed s₂.heap s₂.slotsUsed).setVm hW'.alike, X.tail, State.WarmedH.trans X.warmed hW', X.limits, X.bytes, X.same.trans (hsame.setVm s.vm)⟩,
      ⟨g, mk, s₂, L, E, ce, rfl, rfl, hx, hce, hcv, hcl, rfl, hL, rfl, rfl⟩, ?_⟩
    show Steps p.tables e below _ (((({ U with heap := s₂.heap, slotsUsed := s₂.slotsUsed } : State).setVm s₂.vm).setTop g).pushFrame (.throwing q))
    rw [← hs₂]
    exact hsteps
end
variable {p : Program} {l : Launch} {e : Env} {R : Room} {s : State} {m : MethodId} {args : Array Value} {below : List Frame} {meth : Method} {c : Code} {T : State} {H : Heap} {locs : List Loc} {cells slots : Nat}
theorem vx_callVX (X : Stand p l e R s m args below meth c T locs cells slots) (hexec : p.tables.exec = Jvm.exec) {own C : String} {index : Nat} {y : MethodName} {bytes : ByteArray} {maxL : Nat} {ret : Option FieldType} {hh : List (Nat × Nat × Nat × Nat)}
    (hown : s.vm.findClass own = some m.cls) (hlink : (Cond.methodLink own index y).before args s = true) (hinst : (Cond.instanceMethod y).before args s = true) (hsel : (Cond.selects C y y).before args s = true)
    (hcode : (Cond.codeWith y bytes maxL ret hh).before args s = true) (hy : y.cls ≠ "java/lang/invoke/MethodHandle" ∧ y.cls ≠ "java/lang/invoke/VarHandle")
    {W9 : Nat} {Pre : Pt → Array Value → Prop} {Post : Pt → Array Value → Option Value → Pt → Prop} {PostX : Pt → Array Value → Addr → Pt → Prop} (hK : vx_Back l R p e below s args y 3 W9 Pre Post PostX)
    {b : Addr} {cellB : Cell} (hcell : T.heap[b]? = some cellB) (hobj : cellB.vm.isStatics = false) (hcls : s.vm.findClass C = some cellB.cls)
    {g : JFrame} (hg : g.method = m) (hsize : g.locals.size = c.maxLocals) {argsL rest : List Value} (hlen : ∀ sig, parseMethodDescriptor y.desc = some sig → argsL.length = sig.parameters.length)
    (hstack : g.stack = argsL.reverse ++ .ref b :: rest) (hW : 2 * g.monitorRoom + (rest.map fun v => v.category).sum ≤ W9) (hdg : decode c.code g.pc = .ok (.invokevirtual index, 3))
    (hpre : ∀ vm₁, s.WarmedH vm₁ → Pre ⟨T.setVm vm₁, locs, cells, slots⟩ (Value.ref b :: argsL).toArray) :
    (∃ (v : Option Value) (vm₁ : Vm) (B : Pt), s.WarmedH vm₁ ∧ Stand p l e R s m args below meth c B.U B.locs B.cells B.slots ∧ Post ⟨T.setVm vm₁, locs, cells, slots⟩ (Value.ref b :: argsL).toArray v B ∧
      ∀ target, Steps p.tables e below (B.U.setTop { g with pc := g.pc + 3, stack := v.toList ++ rest }) target → Steps p.tables e below (T.setTop g) target) ∨
    (∃ (q : Addr) (vm₁ : Vm) (B : Pt), s.WarmedH vm₁ ∧ Stand p l e R s m args below meth c B.U B.locs B.cells B.slots ∧ PostX ⟨T.setVm vm₁, locs, cells, slots⟩ (Value.ref b :: argsL).toArray q B ∧
      Steps p.tables e below (T.setTop g) ((B.U.setTop { g with stack := rest }).pushFrame (.throwing q))) := by
  obtain ⟨mk, methM, hnamed, hmethM, hstM, habM⟩ := Cond.instanceMethod_spec hinst
  obtain ⟨m8, methM', cM, hn8, hmethM', -, -, -, -, -, -, hsigM⟩ := Cond.codeWith_spec hcode
  cases Option.some.inj (hn8.symm.trans hnamed)
  cases hmethM.symm.trans hmethM'
  obtain ⟨c2, r2, m2, q1, q2, q3, q4, kP, hkP, hkPi⟩ := Cond.selects_spec hsel
  cases hcls.symm.trans q1
  cases (State.methodFound?_of_named hnamed hy).symm.trans q2
  cases hnamed.symm.trans q3
  have hselP : selectMethod e.platform s.vm cellB.cls mk = .method mk := by rw [Launch.admits_selectMethod X.admits]; exact q4
  obtain ⟨vm₁, X₁, hstep₁⟩ := X.invokevirtual hexec hown hlink hnamed hmethM hstM hkP hkPi hy (a := b) (cell := cellB) hcell
    (fun z h => by rw [h] at hobj; cases hobj) hselP hmethM habM hkP hkPi (g := g) hg (argsL := argsL) (rest := rest) (hlen _ hsigM) hstack hdg
  rcases hK m meth c ⟨T.setVm vm₁, locs, cells, slots⟩ { g with stack := rest } (.invokevirtual index) mk (Value.ref b :: argsL).toArray X₁ hg hsize hdg hW (X₁.named hnamed) (hpre vm₁ X₁.warmed) with ⟨v, B, X', hpost, hsteps⟩ | ⟨q, B, X', hpost, hsteps⟩
  · exact Or.inl ⟨v, vm₁, B, X₁.warmed, X', hpost, fun target h => hstep₁ _ fun acts => by rw [doInvoke_state]; exact hsteps.trans h⟩
  · exact Or.inr ⟨q, vm₁, B, X₁.warmed, X', hpost, hstep₁ _ fun acts => by rw [doInvoke_state]; exact hsteps⟩
theorem vx_callSX (X : Stand p l e R s m args below meth c T locs cells slots) (hexec : p.tables.exec = Jvm.exec) {own : String} {index : Nat} {y : MethodName} {bytes : ByteArray} {maxL : Nat} {ret : Option FieldType} {hh : List (Nat × Nat × Nat × Nat)}
    (hown : s.vm.findClass own = some m.cls) (hlink : (Cond.methodLink own index y).before args s = true) (hstat : (Cond.static y).before args s = true) (hinit : (Cond.initialized y.cls).before args s = true)
    (hcode : (Cond.codeWith y bytes maxL ret hh).before args s = true) (hy : y.cls ≠ "java/lang/invoke/MethodHandle" ∧ y.cls ≠ "java/lang/invoke/VarHandle")
    {W9 : Nat} {Pre : Pt → Array Value → Prop} {Post : Pt → Array Value → Option Value → Pt → Prop} {PostX : Pt → Array Value → Addr → Pt → Prop} (hK : vx_Back l R p e below s args y 3 W9 Pre Post PostX)
    {g : JFrame} (hg : g.method = m) (hsize : g.locals.size = c.maxLocals) {argsL rest : List Value} (hlen : ∀ sig, parseMethodDescriptor y.desc = some sig → argsL.length = sig.parameters.length)
    (hstack : g.stack = argsL.reverse ++ rest) (hW : 2 * g.monitorRoom + (rest.map fun v => v.category).sum ≤ W9) (hdg : decode c.code g.pc = .ok (.invokestatic index, 3))
    (hpre : ∀ vm₁, s.WarmedH vm₁ → Pre ⟨T.setVm vm₁, locs, cells, slots⟩ argsL.toArray) :
    (∃ (v : Option Value) (vm₁ : Vm) (B : Pt), s.WarmedH vm₁ ∧ Stand p l e R s m args below meth c B.U B.locs B.cells B.slots ∧ Post ⟨T.setVm vm₁, locs, cells, slots⟩ argsL.toArray v B ∧
      ∀ target, Steps p.tables e below (B.U.setTop { g with pc := g.pc + 3, stack := v.toList ++ rest }) target → Steps p.tables e below (T.setTop g) target) ∨
    (∃ (q : Addr) (vm₁ : Vm) (B : Pt), s.WarmedH vm₁ ∧ Stand p l e R s m args below meth c B.U B.locs B.cells B.slots ∧ PostX ⟨T.setVm vm₁, locs, cells, slots⟩ argsL.toArray q B ∧
      Steps p.tables e below (T.setTop g) ((B.U.setTop { g with stack := rest }).pushFrame (.throwing q))) := by
  obtain ⟨mk, methM, cM, hnamed, hmethM, -, -, -, -, -, -, hsigM⟩ := Cond.codeWith_spec hcode
  have hstatic : methM.isStatic = true := Cond.static_spec hnamed hmethM hstat
  obtain ⟨kP, hkP, -⟩ := className_of_methodNamed hnamed
  have hinitP : kP.init = .initialized := Cond.initialized_spec (findClass_of_methodNamed hnamed) hkP hinit
  obtain ⟨vm₁, X₁, hstep₁⟩ := X.invokestatic hexec hown hlink hnamed hmethM hstatic hkP hinitP hy (g := g) hg (argsL := argsL) (rest := rest) (hlen _ hsigM) hstack hdg
  rcases hK m meth c ⟨T.setVm vm₁, locs, cells, slots⟩ { g with stack := rest } (.invokestatic index) mk argsL.toArray X₁ hg hsize hdg hW (X₁.named hnamed) (hpre vm₁ X₁.warmed) with ⟨v, B, X', hpost, hsteps⟩ | ⟨q, B, X', hpost, hsteps⟩
  · exact Or.inl ⟨v, vm₁, B, X₁.warmed, X', hpost, fun target h => hstep₁ _ fun acts => by rw [doInvoke_state]; exact hsteps.trans h⟩
  · exact Or.inr ⟨q, vm₁, B, X₁.warmed, X', hpost, hstep₁ _ fun acts => by rw [doInvoke_state]; exact hsteps⟩
theorem vx_callVW (X : Stand p l e R s m args below meth c T locs cells slots) (hexec : p.tables.exec = Jvm.exec) {own C : String} {index : Nat} {y : MethodName} {bytes : ByteArray} {maxL : Nat} {ret : Option FieldType} {hh : List (Nat × Nat × Nat × Nat)}
    (hown : s.vm.findClass own = some m.cls) (hlink : (Cond.methodLink own index y).before args s = true) (hinst : (Cond.instanceMethod y).before args s = true) (hsel : (Cond.selects C y y).before args s = true)
    (hcode : (Cond.codeWith y bytes maxL ret hh).before args s = true) (hy : y.cls ≠ "java/lang/invoke/MethodHandle" ∧ y.cls ≠ "java/lang/invoke/VarHandle")
    {W9 : Nat} {Pre : Pt → Array Value → Prop} {Post : Pt → Array Value → Option Value → Pt → Prop} (hK : Back l R p e below s args y 3 W9 Pre Post)
    {b : Addr} {cellB : Cell} (hcell : T.heap[b]? = some cellB) (hobj : cellB.vm.isStatics = false) (hcls : s.vm.findClass C = some cellB.cls)
    {g : JFrame} (hg : g.method = m) (hsize : g.locals.size = c.maxLocals) {argsL rest : List Value} (hlen : ∀ sig, parseMethodDescriptor y.desc = some sig → argsL.length = sig.parameters.length)
    (hstack : g.stack = argsL.reverse ++ .ref b :: rest) (hW : 2 * g.monitorRoom + (rest.map fun v => v.category).sum ≤ W9) (hdg : decode c.code g.pc = .ok (.invokevirtual index, 3))
    (hpre : ∀ vm₁, s.WarmedH vm₁ → Pre ⟨T.setVm vm₁, locs, cells, slots⟩ (Value.ref b :: argsL).toArray) :
    ∃ (v : Option Value) (vm₁ : Vm) (B : Pt), s.WarmedH vm₁ ∧ Stand p l e R s m args below meth c B.U B.locs B.cells B.slots ∧ Post ⟨T.setVm vm₁, locs, cells, slots⟩ (Value.ref b :: argsL).toArray v B ∧
      ∀ target, Steps p.tables e below (B.U.setTop { g with pc := g.pc + 3, stack := v.toList ++ rest }) target → Steps p.tables e below (T.setTop g) target := by
  obtain ⟨mk, methM, hnamed, hmethM, hstM, habM⟩ := Cond.instanceMethod_spec hinst
  obtain ⟨m8, methM', cM, hn8, hmethM', -, -, -, -, -, -, hsigM⟩ := Cond.codeWith_spec hcode
  cases Option.some.inj (hn8.symm.trans hnamed)
  cases hmethM.symm.trans hmethM'
  obtain ⟨c2, r2, m2, q1, q2, q3, q4, kP, hkP, hkPi⟩ := Cond.selects_spec hsel
  cases hcls.symm.trans q1
  cases (State.methodFound?_of_named hnamed hy).symm.trans q2
  cases hnamed.symm.trans q3
  have hselP : selectMethod e.platform s.vm cellB.cls mk = .method mk := by rw [Launch.admits_selectMethod X.admits]; exact q4
  obtain ⟨vm₁, X₁, hstep₁⟩ := X.invokevirtual hexec hown hlink hnamed hmethM hstM hkP hkPi hy (a := b) (cell := cellB) hcell
    (fun z h => by rw [h] at hobj; cases hobj) hselP hmethM habM hkP hkPi (g := g) hg (argsL := argsL) (rest := rest) (hlen _ hsigM) hstack hdg
  obtain ⟨v, B, X', hpost, hsteps⟩ := hK m meth c ⟨T.setVm vm₁, locs, cells, slots⟩ { g with stack := rest } (.invokevirtual index) mk (Value.ref b :: argsL).toArray X₁ hg hsize hdg hW (X₁.named hnamed) (hpre vm₁ X₁.warmed)
  exact ⟨v, vm₁, B, X₁.warmed, X', hpost, fun target h => hstep₁ _ fun acts => by rw [doInvoke_state]; exact hsteps.trans h⟩
abbrev vx_CVW (R : Room) (s : State) (args : Array Value) (own C : String) (index : Nat) (y : MethodName) (bytes : ByteArray) (maxL : Nat) (ret : Option FieldType) (hh : List (Nat × Nat × Nat × Nat)) (ws : List Cond) (rm : Room) (mc ms n : Nat) : Prop :=
  (rm.cells = mc ∧ rm.slots = ms ∧ rm.frames + 1 ≤ R.frames ∧ 8 + (maxL + 11) + rm.locals ≤ R.locals ∧ (∀ w ∈ ws, ∀ (a' : Array Value) (U : State), s.WarmedH U.vm → w.before a' U = true) ∧ Cond.codeWith y bytes maxL ret hh ∈ ws) ∧
  (Cond.codeWith y bytes maxL ret hh).before args s = true ∧ (Cond.initialized y.cls).before args s = true ∧ (y.cls ≠ "java/lang/invoke/MethodHandle" ∧ y.cls ≠ "java/lang/invoke/VarHandle") ∧
  (∀ sig, parseMethodDescriptor y.desc = some sig → n = sig.parameters.length) ∧ (Cond.methodLink own index y).before args s = true ∧ (Cond.instanceMethod y).before args s = true ∧ (Cond.selects C y y).before args s = true
theorem vx_cwVW {own C : String} {index maxL mc ms : Nat} {y : MethodName} {bytes : ByteArray} {ret : Option FieldType} {hh : List (Nat × Nat × Nat × Nat)} {Ts ws ws' : List Cond} {rm : Room} (n : Nat) (ht : ∀ w ∈ Ts, w.before args s = true) (hT : GoodIn Ts (wsV own index C y ws)) (hw : ws = Cond.codeWith y bytes maxL ret hh :: ws') (hrc : rm.cells = mc) (hrs : rm.slots = ms)
    (hd : y.cls = C ∧ y.cls ≠ "java/lang/invoke/MethodHandle" ∧ y.cls ≠ "java/lang/invoke/VarHandle" ∧ (parseMethodDescriptor y.desc).map (fun d => d.parameters.length) = some n) (hR : rm.frames + 1 ≤ R.frames ∧ 8 + (maxL + 11) + rm.locals ≤ R.locals) :
    vx_CVW R s args own C index y bytes maxL ret hh ws rm mc ms n := by
  obtain ⟨hC, hd⟩ := hd
  subst hC
  have ok : ∀ w ∈ wsV own index y.cls y ws, w.before args s = true := fun w h => ht w (hT w h).1
  have hG : GoodIn Ts ws := fun w h => hT w (by unfold wsV; exact List.mem_append_right _ h)
  have hc : Cond.codeWith y bytes maxL ret hh ∈ ws := by rw [hw]; exact List.mem_cons_self
  refine ⟨⟨hrc, hrs, hR.1, hR.2, pay_in ht hG, hc⟩, ht _ (hG _ hc).1, ok _ (by simp [wsV]), ⟨hd.1, hd.2.1⟩, fun sig h => ?_, ok _ (by simp [wsV]), ok _ (by simp [wsV]), ok _ (by simp [wsV])⟩
  have h2 := hd.2.2
  rw [h] at h2
  exact (Option.some.inj h2).symm
theorem vx_runVW {y : MethodName} {bytes cc : ByteArray} {maxL nL mc ms n index : Nat} {ret : Option FieldType} {hh : List (Nat × Nat × Nat × Nat)} {ws : List Cond} {rm : Room} {Pc : Array Value → State → Prop} {Qc : Array Value → State → Outcome → State → Prop} {free : Addr → Prop} {Ts : List Cond} {own C : String} {b : Addr} {As rest : List Value} {g : JFrame}
    (S : CallFix p m c cc nL s args Ts own) (hM : Met l y ws rm Pc Qc mc ms free) (cw : vx_CVW R s args own C index y bytes maxL ret hh ws rm mc ms n) (hp : PreV s H C b Pc As)
    (hg : g.method = m) (hn : As.length = n) (hsize : g.locals.size = nL) (hstack : g.stack = As.reverse ++ .ref b :: rest) (hW : 2 * g.monitorRoom + (rest.map fun v => v.category).sum ≤ 8) (hdg : decode cc g.pc = .ok (.invokevirtual index, 3)) (hf : cells + mc ≤ R.cells ∧ slots + ms ≤ R.slots) :
    va_Run p l e R s m args below meth c H locs cells slots mc ms g rest (Qc (Value.ref b :: As).toArray) free := by
  obtain ⟨⟨hrc, hrs, hfr, hlo, hws, hcw⟩, hcode, hini, hy, hlen, hl, hin, hse⟩ := cw
  have hK : Back l R p e below s args y 3 8 (PreOf R mc ms Pc) (PostOf Qc mc ms free) := va_backW (hh := hh) (bytes := bytes) (maxL := maxL) (ret := ret) hM hp.1 hrc hrs hfr hlo hws hcw (fun a' U hW => word_at hW (Or.inl (by first | rfl | simp [Cond.onTables, Cond.keeps, Cond.steady])) hini)
  obtain ⟨hx, hb, hml, ho, -⟩ := S
  obtain ⟨-, ⟨cellB, hcB, hoB, hclB⟩, hPc⟩ := hp
  intro T hT X
  obtain ⟨v, vm₁, ⟨U', l2, c2, s2⟩, hW₁, X', ⟨g', mk, t, L, e1, e2, hq, h1, hL, h2, h3⟩, st⟩ := vx_callVW X hx (C := C) (hh := hh) (bytes := bytes) (maxL := maxL) (ret := ret) ho hl hin hse hcode hy hK (by rw [hT]; exact hcB) hoB hclB hg (hsize.trans hml.symm) (argsL := As) (rest := rest) (fun sig h => hn.trans (hlen sig h)) hstack hW (by rw [hb]; exact hdg)
    (fun vm₁ hW₁ => ⟨hf.1, hf.2, hPc (T.setVm vm₁) hT hW₁⟩)
  dsimp only [Pt.U, Pt.locs, Pt.cells, Pt.slots] at X' e1 e2 h1 h2 h3 st
  subst h1; subst h2; subst h3
  exact ⟨v, (T.setVm vm₁).calling g' mk (Value.ref b :: As).toArray, t, U', L, hT, X', hL, e1, e2, hq, st⟩
section
variable {y : MethodName} {bytes cc : ByteArray} {maxL nL mc ms n index : Nat} {ret : Option FieldType} {ws : List Cond} {rm : Room} {Pc : Array Value → State → Prop} {Qc : Array Value → State → Outcome → State → Prop} {XC : String → State → State → Prop} {free : Addr → Prop} {Ts : List Cond} {own C : String} {b : Addr} {As rest : List Value} {g : JFrame}
theorem vx_runVX {hh : List (Nat × Nat × Nat × Nat)} (S : CallFix p m c cc nL s args Ts own) (hM : vx_Met l y ws rm Pc Qc XC mc ms free) (cw : vx_CVW R s args own C index y bytes maxL ret hh ws rm mc ms n) (hp : PreV s H C b Pc As)
    (hg : g.method = m) (hn : As.length = n) (hsize : g.locals.size = nL) (hstack : g.stack = As.reverse ++ .ref b :: rest) (hW : 2 * g.monitorRoom + (rest.map fun v => v.category).sum ≤ 8) (hdg : decode cc g.pc = .ok (.invokevirtual index, 3)) (hf : cells + mc ≤ R.cells ∧ slots + ms ≤ R.slots) :
    vx_Run p l e R s m args below meth c H locs cells slots mc ms g rest (Qc (Value.ref b :: As).toArray) XC free := by
  obtain ⟨⟨hrc, hrs, hfr, hlo, hws, hcw⟩, hcode, hini, hy, hlen, hl, hin, hse⟩ := cw
  have hK : vx_Back l R p e below s args y 3 8 (PreOf R mc ms Pc) (PostOf Qc mc ms free) (vx_Post XC mc ms free) := vx_backW (hh := hh) (bytes := bytes) (maxL := maxL) (ret := ret) hM hp.1 hrc hrs hfr hlo hws hcw (fun a' U hW => word_at hW (Or.inl (by first | rfl | simp [Cond.onTables, Cond.keeps, Cond.steady])) hini)
  obtain ⟨hx, hb, hml, ho, -⟩ := S
  obtain ⟨-, ⟨cellB, hcB, hoB, hclB⟩, hPc⟩ := hp
  intro T hT X
  rcases vx_callVX X hx (C := C) (hh := hh) (bytes := bytes) (maxL := maxL) (ret := ret) ho hl hin hse hcode hy hK (by rw [hT]; exact hcB) hoB hclB hg (hsize.trans hml.symm) (argsL := As) (rest := rest) (fun sig h => hn.trans (hlen sig h)) hstack hW (by rw [hb]; exact hdg)
    (fun vm₁ hW₁ => ⟨hf.1, hf.2, hPc (T.setVm vm₁) hT hW₁⟩) with ⟨v, vm₁, ⟨U', l2, c2, s2⟩, hW₁, X', ⟨g', mk, t, L, e1, e2, hq, h1, hL, h2, h3⟩, st⟩ | ⟨q, vm₁, ⟨U', l2, c2, s2⟩, hW₁, X', ⟨g', mk, t, L, E, ce, e1, e2, hq, hce, hcv, hcl, h1, hL, h2, h3⟩, st⟩
  · dsimp only [Pt.U, Pt.locs, Pt.cells, Pt.slots] at X' e1 e2 h1 h2 h3 st
    subst h1; subst h2; subst h3
    exact Or.inl ⟨v, (T.setVm vm₁).calling g' mk (Value.ref b :: As).toArray, t, U', L, hT, X', hL, e1, e2, hq, st⟩
  · dsimp only [Pt.U, Pt.locs, Pt.cells, Pt.slots] at X' e1 e2 h1 h2 h3 st hcl
    subst h1; subst h2; subst h3
    exact Or.inr ⟨q, (T.setVm vm₁).calling g' mk (Value.ref b :: As).toArray, t, U', L, E, ce, hT, X', hL, e1, e2, hq, hce, hcv, vx_cls hW₁ hcl, st⟩
theorem vx_runSX {hh : List (Nat × Nat × Nat × Nat)} (S : CallFix p m c cc nL s args Ts own) (hM : vx_Met l y ws rm Pc Qc XC mc ms free) (cw : vx_CSW R s args own index y bytes maxL ret hh ws rm mc ms n) (hp : PreS s H Pc As)
    (hg : g.method = m) (hn : As.length = n) (hsize : g.locals.size = nL) (hstack : g.stack = As.reverse ++ rest) (hW : 2 * g.monitorRoom + (rest.map fun v => v.category).sum ≤ 8) (hdg : decode cc g.pc = .ok (.invokestatic index, 3)) (hf : cells + mc ≤ R.cells ∧ slots + ms ≤ R.slots) :
    vx_Run p l e R s m args below meth c H locs cells slots mc ms g rest (Qc As.toArray) XC free := by
  obtain ⟨⟨hrc, hrs, hfr, hlo, hws, hcw⟩, hcode, hini, hy, hlen, hl, hstt⟩ := cw
  have hK : vx_Back l R p e below s args y 3 8 (PreOf R mc ms Pc) (PostOf Qc mc ms free) (vx_Post XC mc ms free) := vx_backW (hh := hh) (bytes := bytes) (maxL := maxL) (ret := ret) hM hp.1 hrc hrs hfr hlo hws hcw (fun a' U hW => word_at hW (Or.inl (by first | rfl | simp [Cond.onTables, Cond.keeps, Cond.steady])) hini)
  obtain ⟨hx, hb, hml, ho, -⟩ := S
  intro T hT X
  rcases vx_callSX X hx (hh := hh) (bytes := bytes) (maxL := maxL) (ret := ret) ho hl hstt hini hcode hy hK hg (hsize.trans hml.symm) (argsL := As) (rest := rest) (fun sig h => hn.trans (hlen sig h)) hstack hW (by rw [hb]; exact hdg)
    (fun vm₁ hW₁ => ⟨hf.1, hf.2, hp.2 (T.setVm vm₁) hT hW₁⟩) with ⟨v, vm₁, ⟨U', l2, c2, s2⟩, hW₁, X', ⟨g', mk, t, L, e1, e2, hq, h1, hL, h2, h3⟩, st⟩ | ⟨q, vm₁, ⟨U', l2, c2, s2⟩, hW₁, X', ⟨g', mk, t, L, E, ce, e1, e2, hq, hce, hcv, hcl, h1, hL, h2, h3⟩, st⟩
  · dsimp only [Pt.U, Pt.locs, Pt.cells, Pt.slots] at X' e1 e2 h1 h2 h3 st
    subst h1; subst h2; subst h3
    exact Or.inl ⟨v, (T.setVm vm₁).calling g' mk As.toArray, t, U', L, hT, X', hL, e1, e2, hq, st⟩
  · dsimp only [Pt.U, Pt.locs, Pt.cells, Pt.slots] at X' e1 e2 h1 h2 h3 st hcl
    subst h1; subst h2; subst h3
    exact Or.inr ⟨q, (T.setVm vm₁).calling g' mk As.toArray, t, U', L, E, ce, hT, X', hL, e1, e2, hq, hce, hcv, vx_cls hW₁ hcl, st⟩
end
end VXH
theorem vx_ofWH {l : Launch} {y : MethodName} {ws ws' : List Cond} {rm : Room} {Pc : Array Value → State → Prop} {Qc : Array Value → State → Outcome → State → Prop} {XC : String → State → State → Prop} {mc ms : Nat} {free : Addr → Prop} {cc : ByteArray} {maxL : Nat} {ret : Option FieldType} {hh : List (Nat × Nat × Nat × Nat)}
    (hy : plainName y.cls = true) (hw : ws = Cond.codeWith y cc maxL ret hh :: ws')
    (body : ∀ p e s m args below meth c s₁, BodyLoose p l y (headSpec ws rm) cc maxL ret e s m args below meth c s₁ → c.maxLocals = maxL → Pc args s →
      W p l e (headSpec ws rm).room s m args below meth c s.heap [] 0 0 (vx_MQ below Qc XC args s mc ms free) (entryFrame m args maxL)) : vx_Met l y ws rm Pc Qc XC mc ms free := by
  refine MetFree.of_bodyS (code := cc) (maxLocals := maxL) (ret := ret) hy ?_ ?_
  · intro args s m h hn
    obtain ⟨m9, meth, c, hn9, h1, h2, h3, h4, -, h5, h6, -⟩ := Cond.codeWith_spec (atoms_spec (ws := ws) h _ (by rw [hw]; exact List.mem_cons_self))
    cases hn.symm.trans hn9
    exact ⟨meth, c, h1, h2, h3, h4, h5, h6⟩
  · intro p e s m args below meth c s₁ B hml hP _
    have hh0 : s₁.heap = s.heap := by rw [B.state]; rfl
    obtain ⟨t, a1, o, b1, b2, b3⟩ := body p e s m args below meth c s₁ B hml hP s₁ hh0 (Stand.of_body B)
    exact ⟨t, o, a1, b1, b2, b3⟩
/-! ===== END ===== -/
end
section
def R_D : String := "DebtRows$Debt"
def R_S : String := "DebtRows$Rates"
def R_X : String := "DebtRows"
def R_M : String := "DebtRowsModel"
def R_L : String := "DebtRowsLaw"
def F_D : u_T := fun k => match k with
  | 0 => ("DebtRows$Debt", "cents", "J", true)
  | 1 => ("DebtRows$Debt", "birth", "I", true)
  | 2 => ("DebtRows$Debt", "people", "[I", true)
  | 3 => ("DebtRows$Debt", "paid", "[J", true)
  | 4 => ("DebtRows$Debt", "debtors", "I", false)
  | 5 => ("DebtRows$Debt", "state", "I", false)
  | 6 => ("DebtRows$Debt", "dueDay", "I", false)
  | 7 => ("DebtRows$Debt", "interestBehind", "I", false)
  | 8 => ("DebtRows$Debt", "open", "J", false)
  | 9 => ("DebtRows$Debt", "lost", "J", false)
  | 10 => ("DebtRows$Debt", "fixedInterest", "J", false)
  | 11 => ("DebtRows$Debt", "paidInterest", "J", false)
  | 12 => ("DebtRows$Debt", "deferralDay", "I", false)
  | 13 => ("DebtRows$Debt", "deferralParts", "I", false)
  | _ => ("DebtRows$Debt", "deferralOpen", "J", false)
def t_D : Nat → FieldType := fun k => match k with
  | 0 => .long
  | 1 => .int
  | 2 => (.array .int)
  | 3 => (.array .long)
  | 4 => .int
  | 5 => .int
  | 6 => .int
  | 7 => .int
  | 8 => .long
  | 9 => .long
  | 10 => .long
  | 11 => .long
  | 12 => .int
  | 13 => .int
  | _ => .long
theorem nn_D : ∀ a, a < 15 → ∀ b, b < 15 → a ≠ b → (F_D a).2.1 ≠ (F_D b).2.1 := by decide +kernel
theorem to_D : ∀ k, k < 15 → parseFieldDescriptor (F_D k).2.2.1 = some (t_D k) := by decide +kernel
def F_S : u_T := fun k => match k with
  | 0 => ("DebtRows$Rates", "from", "[I", true)
  | 1 => ("DebtRows$Rates", "up", "[I", true)
  | 2 => ("DebtRows$Rates", "down", "[I", true)
  | _ => ("DebtRows$Rates", "count", "I", false)
def t_S : Nat → FieldType := fun k => match k with
  | 0 => (.array .int)
  | 1 => (.array .int)
  | 2 => (.array .int)
  | _ => .int
theorem nn_S : ∀ a, a < 4 → ∀ b, b < 4 → a ≠ b → (F_S a).2.1 ≠ (F_S b).2.1 := by decide +kernel
theorem to_S : ∀ k, k < 4 → parseFieldDescriptor (F_S k).2.2.1 = some (t_S k) := by decide +kernel
def F_X : u_T := fun k => match k with
  | 0 => ("DebtRows", "rates", "LDebtRows$Rates;", true)
  | 1 => ("DebtRows", "debts", "[LDebtRows$Debt;", true)
  | 2 => ("DebtRows", "credit", "[J", true)
  | 3 => ("DebtRows", "debtCount", "I", false)
  | _ => ("DebtRows", "today", "I", false)
def t_X : Nat → FieldType := fun k => match k with
  | 0 => (.object "DebtRows$Rates")
  | 1 => (.array (.object "DebtRows$Debt"))
  | 2 => (.array .long)
  | 3 => .int
  | _ => .int
theorem nn_X : ∀ a, a < 5 → ∀ b, b < 5 → a ≠ b → (F_X a).2.1 ≠ (F_X b).2.1 := by decide +kernel
theorem to_X : ∀ k, k < 5 → parseFieldDescriptor (F_X k).2.2.1 = some (t_X k) := by decide +kernel
def F_M : u_T := fun k => match k with
  | 0 => ("DebtRowsModel", "thrown", "I", false)
  | 1 => ("DebtRowsModel", "today", "I", false)
  | 2 => ("DebtRowsModel", "rates", "I", false)
  | 3 => ("DebtRowsModel", "from", "[I", true)
  | 4 => ("DebtRowsModel", "up", "[I", true)
  | 5 => ("DebtRowsModel", "down", "[I", true)
  | 6 => ("DebtRowsModel", "debts", "I", false)
  | 7 => ("DebtRowsModel", "state", "[I", true)
  | 8 => ("DebtRowsModel", "born", "[I", true)
  | 9 => ("DebtRowsModel", "dueDay", "[I", true)
  | 10 => ("DebtRowsModel", "cents", "[J", true)
  | 11 => ("DebtRowsModel", "open", "[J", true)
  | 12 => ("DebtRowsModel", "lost", "[J", true)
  | 13 => ("DebtRowsModel", "fixed", "[J", true)
  | 14 => ("DebtRowsModel", "runsFrom", "[I", true)
  | 15 => ("DebtRowsModel", "interestPaid", "[J", true)
  | 16 => ("DebtRowsModel", "parts", "[I", true)
  | 17 => ("DebtRowsModel", "deferredOn", "[I", true)
  | 18 => ("DebtRowsModel", "deferred", "[J", true)
  | 19 => ("DebtRowsModel", "debtors", "[I", true)
  | 20 => ("DebtRowsModel", "debtor", "[I", true)
  | 21 => ("DebtRowsModel", "paidBy", "[J", true)
  | _ => ("DebtRowsModel", "credit", "[J", true)
def t_M : Nat → FieldType := fun k => match k with
  | 0 => .int
  | 1 => .int
  | 2 => .int
  | 3 => (.array .int)
  | 4 => (.array .int)
  | 5 => (.array .int)
  | 6 => .int
  | 7 => (.array .int)
  | 8 => (.array .int)
  | 9 => (.array .int)
  | 10 => (.array .long)
  | 11 => (.array .long)
  | 12 => (.array .long)
  | 13 => (.array .long)
  | 14 => (.array .int)
  | 15 => (.array .long)
  | 16 => (.array .int)
  | 17 => (.array .int)
  | 18 => (.array .long)
  | 19 => (.array .int)
  | 20 => (.array .int)
  | 21 => (.array .long)
  | _ => (.array .long)
theorem nn_M : ∀ a, a < 23 → ∀ b, b < 23 → a ≠ b → (F_M a).2.1 ≠ (F_M b).2.1 := by decide +kernel
theorem to_M : ∀ k, k < 23 → parseFieldDescriptor (F_M k).2.2.1 = some (t_M k) := by decide +kernel
abbrev vwCl : List vw_C := [(R_D, F_D, 15), (R_S, F_S, 4), (R_X, F_X, 5), (R_M, F_M, 23)]
def big_0 : List Cond := [.selects "DebtRows" ⟨"DebtRows", "find", "(I)LDebtRows$Debt;"⟩ ⟨"DebtRows", "find", "(I)LDebtRows$Debt;"⟩, .selects "DebtRows" ⟨"DebtRows", "overAllDebts", "(I)J"⟩ ⟨"DebtRows", "overAllDebts", "(I)J"⟩, .selects "java/lang/Throwable" ⟨"java/lang/Throwable", "fillInStackTrace", "(I)Ljava/lang/Throwable;"⟩ ⟨"java/lang/Throwable", "fillInStackTrace", "(I)Ljava/lang/Throwable;"⟩, .selects "DebtRows" ⟨"DebtRows", "findOrRefuse", "(I)LDebtRows$Debt;"⟩ ⟨"DebtRows", "findOrRefuse", "(I)LDebtRows$Debt;"⟩, .selects "DebtRowsModel" ⟨"DebtRowsModel", "fails", "(I)I"⟩ ⟨"DebtRowsModel", "fails", "(I)I"⟩, .selects "DebtRowsModel" ⟨"DebtRowsModel", "isDebt", "(I)Z"⟩ ⟨"DebtRowsModel", "isDebt", "(I)Z"⟩, .selects "DebtRowsModel" ⟨"DebtRowsModel", "debtorOf", "(II)I"⟩ ⟨"DebtRowsModel", "debtorOf", "(II)I"⟩, .selects "DebtRowsModel" ⟨"DebtRowsModel", "payOf", "(IIJ)J"⟩ ⟨"DebtRowsModel", "payOf", "(IIJ)J"⟩, .selects "DebtRowsModel" ⟨"DebtRowsModel", "fix", "(I)V"⟩ ⟨"DebtRowsModel", "fix", "(I)V"⟩, .selects "DebtRowsModel" ⟨"DebtRowsModel", "running", "(I)J"⟩ ⟨"DebtRowsModel", "running", "(I)J"⟩, .selects "DebtRowsModel" ⟨"DebtRowsModel", "daysOf", "(III)J"⟩ ⟨"DebtRowsModel", "daysOf", "(III)J"⟩, .selects "DebtRowsModel" ⟨"DebtRowsModel", "lose", "(II)J"⟩ ⟨"DebtRowsModel", "lose", "(II)J"⟩, .selects "DebtRowsModel" ⟨"DebtRowsModel", "again", "(II)V"⟩ ⟨"DebtRowsModel", "again", "(II)V"⟩, .selects "DebtRowsModel" ⟨"DebtRowsModel", "missedOn", "(I)I"⟩ ⟨"DebtRowsModel", "missedOn", "(I)I"⟩, (Jvm.Cond.initialized "DebtRowsLaw"), (Jvm.Cond.initialized "DebtRows"), (Jvm.Cond.initialized "DebtRows$Rates"), (Jvm.Cond.initialized "DebtRowsModel"), (Jvm.Cond.initialized "java/lang/Throwable"), (Jvm.Cond.initialized "java/lang/Exception"), (Jvm.Cond.initialized "java/lang/RuntimeException"), (Jvm.Cond.initialized "java/lang/ArithmeticException"), (Jvm.Cond.initialized "java/lang/IllegalArgumentException"), (Jvm.Cond.initialized "java/lang/IllegalStateException"), (Jvm.Cond.initialized "DebtRows$Debt"), (Jvm.Cond.initialized "java/lang/Math"), (Jvm.Cond.initialized "java/lang/IndexOutOfBoundsException"), (Jvm.Cond.classLink "DebtRowsLaw" (8 : Nat) "DebtRows"), (Jvm.Cond.instantiable "DebtRows" (5 : Nat)), (Jvm.Cond.methodLink "DebtRowsLaw" (58 : Nat) ({ cls := "DebtRows", name := "<init>", desc := "()V" } : Jvm.MethodName)), (Jvm.Cond.instanceMethod ({ cls := "DebtRows", name := "<init>", desc := "()V" } : Jvm.MethodName)), (Jvm.Cond.code ({ cls := "DebtRows", name := "<init>", desc := "()V" } : Jvm.MethodName) prog_1_method_1_code (1 : Nat) (Option.none : Option Jvm.ClassFile.FieldType)), (Jvm.Cond.methodLink "DebtRows" (1 : Nat) ({ cls := "java/lang/Object", name := "<init>", desc := "()V" } : Jvm.MethodName)), (Jvm.Cond.instanceMethod ({ cls := "java/lang/Object", name := "<init>", desc := "()V" } : Jvm.MethodName)), (Jvm.Cond.code ({ cls := "java/lang/Object", name := "<init>", desc := "()V" } : Jvm.MethodName) object_method_1_code (1 : Nat) (Option.none : Option Jvm.ClassFile.FieldType)), (Jvm.Cond.classLink "DebtRows" (7 : Nat) "DebtRows$Rates"), (Jvm.Cond.instantiable "DebtRows$Rates" (4 : Nat)), (Jvm.Cond.methodLink "DebtRows" (9 : Nat) ({ cls := "DebtRows$Rates", name := "<init>", desc := "()V" } : Jvm.MethodName)), (Jvm.Cond.instanceMethod ({ cls := "DebtRows$Rates", name := "<init>", desc := "()V" } : Jvm.MethodName)), (Jvm.Cond.code ({ cls := "DebtRows$Rates", name := "<init>", desc := "()V" } : Jvm.MethodName) prog_3_method_1_code (1 : Nat) (Option.none : Option Jvm.ClassFile.FieldType)), (Jvm.Cond.methodLink "DebtRows$Rates" (3 : Nat) ({ cls := "java/lang/Object", name := "<init>", desc := "()V" } : Jvm.MethodName)), (Jvm.Cond.fieldLink "DebtRows$Rates" (9 : Nat) "DebtRows$Rates" "from" "[I"), (Jvm.Cond.fieldLink "DebtRows$Rates" (15 : Nat) "DebtRows$Rates" "up" "[I"), (Jvm.Cond.fieldLink "DebtRows$Rates" (18 : Nat) "DebtRows$Rates" "down" "[I"), (Jvm.Cond.fieldLink "DebtRows$Rates" (21 : Nat) "DebtRows$Rates" "count" "I"), (Jvm.Cond.fieldLink "DebtRows" (52 : Nat) "DebtRows$Rates" "count" "I"), (Jvm.Cond.laysFinal "DebtRows$Rates" "DebtRows$Rates" "from" "[I"), (Jvm.Cond.laysFinal "DebtRows$Rates" "DebtRows$Rates" "up" "[I"), (Jvm.Cond.laysFinal "DebtRows$Rates" "DebtRows$Rates" "down" "[I"), (Jvm.Cond.lays "DebtRows$Rates" "DebtRows$Rates" "count" "I"), (Jvm.Cond.superclass "DebtRows$Rates" "java/lang/Object"), (Jvm.Cond.arrayClass Jvm.ClassFile.FieldType.int), (Jvm.Cond.classLink "DebtRows" (16 : Nat) "DebtRows$Debt"), (Jvm.Cond.fieldLink "DebtRows" (10 : Nat) "DebtRows" "rates" "LDebtRows$Rates;"), (Jvm.Cond.fieldLink "DebtRows" (18 : Nat) "DebtRows" "debts" "[LDebtRows$Debt;"), (Jvm.Cond.fieldLink "DebtRows" (22 : Nat) "DebtRows" "credit" "[J"), (Jvm.Cond.fieldLink "DebtRows" (26 : Nat) "DebtRows" "debtCount" "I"), (Jvm.Cond.fieldLink "DebtRows" (30 : Nat) "DebtRows" "today" "I"), (Jvm.Cond.laysFinal "DebtRows" "DebtRows" "rates" "LDebtRows$Rates;"), (Jvm.Cond.laysFinal "DebtRows" "DebtRows" "debts" "[LDebtRows$Debt;")]
def big_1 : List Cond := [(Jvm.Cond.laysFinal "DebtRows" "DebtRows" "credit" "[J"), (Jvm.Cond.lays "DebtRows" "DebtRows" "debtCount" "I"), (Jvm.Cond.lays "DebtRows" "DebtRows" "today" "I"), (Jvm.Cond.superclass "DebtRows" "java/lang/Object"), (Jvm.Cond.arrayClass Jvm.ClassFile.FieldType.long), (Jvm.Cond.methodLink "DebtRowsLaw" (78 : Nat) ({ cls := "DebtRows", name := "debtor", desc := "(II)Z" } : Jvm.MethodName)), (Jvm.Cond.instanceMethod ({ cls := "DebtRows", name := "debtor", desc := "(II)Z" } : Jvm.MethodName)), (Jvm.Cond.selects "DebtRows" ({ cls := "DebtRows", name := "debtor", desc := "(II)Z" } : Jvm.MethodName) ({ cls := "DebtRows", name := "debtor", desc := "(II)Z" } : Jvm.MethodName)), (Jvm.Cond.code ({ cls := "DebtRows", name := "debtor", desc := "(II)Z" } : Jvm.MethodName) prog_1_method_4_code (4 : Nat) (Option.some Jvm.ClassFile.FieldType.boolean)), (Jvm.Cond.methodLink "DebtRows" (84 : Nat) ({ cls := "DebtRows", name := "find", desc := "(I)LDebtRows$Debt;" } : Jvm.MethodName)), (Jvm.Cond.instanceMethod ({ cls := "DebtRows", name := "find", desc := "(I)LDebtRows$Debt;" } : Jvm.MethodName)), (Jvm.Cond.code ({ cls := "DebtRows", name := "find", desc := "(I)LDebtRows$Debt;" } : Jvm.MethodName) prog_1_method_16_code (2 : Nat) (Option.some (Jvm.ClassFile.FieldType.object "DebtRows$Debt"))), (Jvm.Cond.methodLink "DebtRows" (70 : Nat) ({ cls := "DebtRows", name := "isPerson", desc := "(I)Z" } : Jvm.MethodName)), (Jvm.Cond.static ({ cls := "DebtRows", name := "isPerson", desc := "(I)Z" } : Jvm.MethodName)), (Jvm.Cond.code ({ cls := "DebtRows", name := "isPerson", desc := "(I)Z" } : Jvm.MethodName) prog_1_method_18_code (1 : Nat) (Option.some Jvm.ClassFile.FieldType.boolean)), (Jvm.Cond.methodLink "DebtRows" (81 : Nat) ({ cls := "DebtRows$Debt", name := "join", desc := "(I)Z" } : Jvm.MethodName)), (Jvm.Cond.instanceMethod ({ cls := "DebtRows$Debt", name := "join", desc := "(I)Z" } : Jvm.MethodName)), (Jvm.Cond.selects "DebtRows$Debt" ({ cls := "DebtRows$Debt", name := "join", desc := "(I)Z" } : Jvm.MethodName) ({ cls := "DebtRows$Debt", name := "join", desc := "(I)Z" } : Jvm.MethodName)), (Jvm.Cond.code ({ cls := "DebtRows$Debt", name := "join", desc := "(I)Z" } : Jvm.MethodName) prog_2_method_2_code (2 : Nat) (Option.some Jvm.ClassFile.FieldType.boolean)), (Jvm.Cond.methodLink "DebtRows$Debt" (39 : Nat) ({ cls := "DebtRows$Debt", name := "placeOf", desc := "(I)I" } : Jvm.MethodName)), (Jvm.Cond.instanceMethod ({ cls := "DebtRows$Debt", name := "placeOf", desc := "(I)I" } : Jvm.MethodName)), (Jvm.Cond.selects "DebtRows$Debt" ({ cls := "DebtRows$Debt", name := "placeOf", desc := "(I)I" } : Jvm.MethodName) ({ cls := "DebtRows$Debt", name := "placeOf", desc := "(I)I" } : Jvm.MethodName)), (Jvm.Cond.code ({ cls := "DebtRows$Debt", name := "placeOf", desc := "(I)I" } : Jvm.MethodName) prog_2_method_3_code (3 : Nat) (Option.some Jvm.ClassFile.FieldType.int)), (Jvm.Cond.methodLink "DebtRowsLaw" (114 : Nat) ({ cls := "DebtRows", name := "sum", desc := "(I)J" } : Jvm.MethodName)), (Jvm.Cond.instanceMethod ({ cls := "DebtRows", name := "sum", desc := "(I)J" } : Jvm.MethodName)), (Jvm.Cond.selects "DebtRows" ({ cls := "DebtRows", name := "sum", desc := "(I)J" } : Jvm.MethodName) ({ cls := "DebtRows", name := "sum", desc := "(I)J" } : Jvm.MethodName)), (Jvm.Cond.code ({ cls := "DebtRows", name := "sum", desc := "(I)J" } : Jvm.MethodName) prog_1_method_14_code (2 : Nat) (Option.some Jvm.ClassFile.FieldType.long)), (Jvm.Cond.methodLink "DebtRows" (189 : Nat) ({ cls := "DebtRows", name := "overAllDebts", desc := "(I)J" } : Jvm.MethodName)), (Jvm.Cond.instanceMethod ({ cls := "DebtRows", name := "overAllDebts", desc := "(I)J" } : Jvm.MethodName)), (Jvm.Cond.code ({ cls := "DebtRows", name := "overAllDebts", desc := "(I)J" } : Jvm.MethodName) prog_1_method_15_code (6 : Nat) (Option.some Jvm.ClassFile.FieldType.long)), (Jvm.Cond.methodLink "DebtRows" (192 : Nat) ({ cls := "DebtRows$Debt", name := "part", desc := "(I)J" } : Jvm.MethodName)), (Jvm.Cond.instanceMethod ({ cls := "DebtRows$Debt", name := "part", desc := "(I)J" } : Jvm.MethodName)), (Jvm.Cond.selects "DebtRows$Debt" ({ cls := "DebtRows$Debt", name := "part", desc := "(I)J" } : Jvm.MethodName) ({ cls := "DebtRows$Debt", name := "part", desc := "(I)J" } : Jvm.MethodName)), (Jvm.Cond.code ({ cls := "DebtRows$Debt", name := "part", desc := "(I)J" } : Jvm.MethodName) prog_2_method_20_code (2 : Nat) (Option.some Jvm.ClassFile.FieldType.long)), (Jvm.Cond.constantLong "DebtRows" (126 : Nat) (-1 : Int64)), (Jvm.Cond.methodLink "DebtRowsLaw" (62 : Nat) ({ cls := "DebtRowsLaw", name := "rate", desc := "(LDebtRows;III[J)I" } : Jvm.MethodName)), (Jvm.Cond.static ({ cls := "DebtRowsLaw", name := "rate", desc := "(LDebtRows;III[J)I" } : Jvm.MethodName)), (Jvm.Cond.classLink "DebtRowsLaw" (13 : Nat) "java/lang/ArithmeticException"), (Jvm.Cond.classLink "DebtRowsLaw" (15 : Nat) "java/lang/IllegalArgumentException"), (Jvm.Cond.classLink "DebtRowsLaw" (17 : Nat) "java/lang/IllegalStateException"), (Jvm.Cond.methodLink "DebtRowsLaw" (7 : Nat) ({ cls := "DebtRows", name := "rate", desc := "(III)I" } : Jvm.MethodName)), (Jvm.Cond.instanceMethod ({ cls := "DebtRows", name := "rate", desc := "(III)I" } : Jvm.MethodName)), (Jvm.Cond.selects "DebtRows" ({ cls := "DebtRows", name := "rate", desc := "(III)I" } : Jvm.MethodName) ({ cls := "DebtRows", name := "rate", desc := "(III)I" } : Jvm.MethodName)), (Jvm.Cond.code ({ cls := "DebtRows", name := "rate", desc := "(III)I" } : Jvm.MethodName) prog_1_method_2_code (4 : Nat) (Option.some Jvm.ClassFile.FieldType.int)), (Jvm.Cond.classLink "DebtRows" (33 : Nat) "java/lang/ArithmeticException"), (Jvm.Cond.instantiable "java/lang/ArithmeticException" (6 : Nat)), (Jvm.Cond.selects "java/lang/ArithmeticException" ({ cls := "java/lang/Throwable", name := "fillInStackTrace", desc := "(I)Ljava/lang/Throwable;" } : Jvm.MethodName) ({ cls := "java/lang/Throwable", name := "fillInStackTrace", desc := "(I)Ljava/lang/Throwable;" } : Jvm.MethodName)), (Jvm.Cond.selects "java/lang/ArithmeticException" ({ cls := "java/lang/Throwable", name := "fillInStackTrace", desc := "()Ljava/lang/Throwable;" } : Jvm.MethodName) ({ cls := "java/lang/Throwable", name := "fillInStackTrace", desc := "()Ljava/lang/Throwable;" } : Jvm.MethodName)), (Jvm.Cond.lays "java/lang/ArithmeticException" "java/lang/Throwable" "cause" "Ljava/lang/Throwable;"), (Jvm.Cond.lays "java/lang/Throwable" "java/lang/Throwable" "cause" "Ljava/lang/Throwable;"), (Jvm.Cond.lays "java/lang/ArithmeticException" "java/lang/Throwable" "stackTrace" "[Ljava/lang/StackTraceElement;"), (Jvm.Cond.lays "java/lang/Throwable" "java/lang/Throwable" "stackTrace" "[Ljava/lang/StackTraceElement;"), (Jvm.Cond.lays "java/lang/ArithmeticException" "java/lang/Throwable" "suppressedExceptions" "Ljava/util/List;"), (Jvm.Cond.lays "java/lang/Throwable" "java/lang/Throwable" "suppressedExceptions" "Ljava/util/List;"), (Jvm.Cond.lays "java/lang/ArithmeticException" "java/lang/Throwable" "detailMessage" "Ljava/lang/String;"), (Jvm.Cond.lays "java/lang/Throwable" "java/lang/Throwable" "detailMessage" "Ljava/lang/String;"), (Jvm.Cond.lays "java/lang/ArithmeticException" "java/lang/Throwable" "backtrace" "Ljava/lang/Object;"), (Jvm.Cond.lays "java/lang/Throwable" "java/lang/Throwable" "backtrace" "Ljava/lang/Object;"), (Jvm.Cond.fieldLink "java/lang/Throwable" (198 : Nat) "java/lang/Throwable" "backtrace" "Ljava/lang/Object;"), (Jvm.Cond.superclass "java/lang/Throwable" "java/lang/Object")]
def big_2 : List Cond := [(Jvm.Cond.instanceMethod ({ cls := "java/lang/Throwable", name := "<init>", desc := "()V" } : Jvm.MethodName)), (Jvm.Cond.code ({ cls := "java/lang/Throwable", name := "<init>", desc := "()V" } : Jvm.MethodName) prog_14_method_1_code (1 : Nat) (Option.none : Option Jvm.ClassFile.FieldType)), (Jvm.Cond.methodLink "java/lang/Throwable" (1 : Nat) ({ cls := "java/lang/Object", name := "<init>", desc := "()V" } : Jvm.MethodName)), (Jvm.Cond.fieldLink "java/lang/Throwable" (13 : Nat) "java/lang/Throwable" "UNASSIGNED_STACK" "[Ljava/lang/StackTraceElement;"), (Jvm.Cond.fieldLink "java/lang/Throwable" (20 : Nat) "java/lang/Throwable" "SUPPRESSED_SENTINEL" "Ljava/util/List;"), (Jvm.Cond.methodLink "java/lang/Throwable" (27 : Nat) ({ cls := "java/lang/Throwable", name := "fillInStackTrace", desc := "()Ljava/lang/Throwable;" } : Jvm.MethodName)), (Jvm.Cond.instanceMethod ({ cls := "java/lang/Throwable", name := "fillInStackTrace", desc := "()Ljava/lang/Throwable;" } : Jvm.MethodName)), (Jvm.Cond.sameMethod "java/lang/Throwable" "java/lang/Throwable" "fillInStackTrace" "()Ljava/lang/Throwable;"), (Jvm.Cond.selects "java/lang/IllegalArgumentException" ({ cls := "java/lang/Throwable", name := "fillInStackTrace", desc := "()Ljava/lang/Throwable;" } : Jvm.MethodName) ({ cls := "java/lang/Throwable", name := "fillInStackTrace", desc := "()Ljava/lang/Throwable;" } : Jvm.MethodName)), (Jvm.Cond.selects "java/lang/IllegalStateException" ({ cls := "java/lang/Throwable", name := "fillInStackTrace", desc := "()Ljava/lang/Throwable;" } : Jvm.MethodName) ({ cls := "java/lang/Throwable", name := "fillInStackTrace", desc := "()Ljava/lang/Throwable;" } : Jvm.MethodName)), (Jvm.Cond.selects "java/lang/IndexOutOfBoundsException" ({ cls := "java/lang/Throwable", name := "fillInStackTrace", desc := "()Ljava/lang/Throwable;" } : Jvm.MethodName) ({ cls := "java/lang/Throwable", name := "fillInStackTrace", desc := "()Ljava/lang/Throwable;" } : Jvm.MethodName)), (Jvm.Cond.codeSync ({ cls := "java/lang/Throwable", name := "fillInStackTrace", desc := "()Ljava/lang/Throwable;" } : Jvm.MethodName) prog_14_method_18_code (1 : Nat) (Option.some (Jvm.ClassFile.FieldType.object "java/lang/Throwable"))), (Jvm.Cond.methodLink "java/lang/Throwable" (202 : Nat) ({ cls := "java/lang/Throwable", name := "fillInStackTrace", desc := "(I)Ljava/lang/Throwable;" } : Jvm.MethodName)), (Jvm.Cond.instanceMethod ({ cls := "java/lang/Throwable", name := "fillInStackTrace", desc := "(I)Ljava/lang/Throwable;" } : Jvm.MethodName)), (Jvm.Cond.instantiable "java/lang/Throwable" (6 : Nat)), (Jvm.Cond.native ({ cls := "java/lang/Throwable", name := "fillInStackTrace", desc := "(I)Ljava/lang/Throwable;" } : Jvm.MethodName)), (Jvm.Cond.methodLink "DebtRows" (37 : Nat) ({ cls := "java/lang/ArithmeticException", name := "<init>", desc := "(Ljava/lang/String;)V" } : Jvm.MethodName)), (Jvm.Cond.instanceMethod ({ cls := "java/lang/ArithmeticException", name := "<init>", desc := "(Ljava/lang/String;)V" } : Jvm.MethodName)), (Jvm.Cond.code ({ cls := "java/lang/ArithmeticException", name := "<init>", desc := "(Ljava/lang/String;)V" } : Jvm.MethodName) prog_6_method_2_code (2 : Nat) (Option.none : Option Jvm.ClassFile.FieldType)), (Jvm.Cond.methodLink "java/lang/ArithmeticException" (7 : Nat) ({ cls := "java/lang/RuntimeException", name := "<init>", desc := "(Ljava/lang/String;)V" } : Jvm.MethodName)), (Jvm.Cond.instanceMethod ({ cls := "java/lang/RuntimeException", name := "<init>", desc := "(Ljava/lang/String;)V" } : Jvm.MethodName)), (Jvm.Cond.code ({ cls := "java/lang/RuntimeException", name := "<init>", desc := "(Ljava/lang/String;)V" } : Jvm.MethodName) prog_12_method_2_code (2 : Nat) (Option.none : Option Jvm.ClassFile.FieldType)), (Jvm.Cond.methodLink "java/lang/RuntimeException" (7 : Nat) ({ cls := "java/lang/Exception", name := "<init>", desc := "(Ljava/lang/String;)V" } : Jvm.MethodName)), (Jvm.Cond.instanceMethod ({ cls := "java/lang/Exception", name := "<init>", desc := "(Ljava/lang/String;)V" } : Jvm.MethodName)), (Jvm.Cond.code ({ cls := "java/lang/Exception", name := "<init>", desc := "(Ljava/lang/String;)V" } : Jvm.MethodName) prog_7_method_2_code (2 : Nat) (Option.none : Option Jvm.ClassFile.FieldType)), (Jvm.Cond.methodLink "java/lang/Exception" (7 : Nat) ({ cls := "java/lang/Throwable", name := "<init>", desc := "(Ljava/lang/String;)V" } : Jvm.MethodName)), (Jvm.Cond.instanceMethod ({ cls := "java/lang/Throwable", name := "<init>", desc := "(Ljava/lang/String;)V" } : Jvm.MethodName)), (Jvm.Cond.code ({ cls := "java/lang/Throwable", name := "<init>", desc := "(Ljava/lang/String;)V" } : Jvm.MethodName) prog_14_method_2_code (2 : Nat) (Option.none : Option Jvm.ClassFile.FieldType)), (Jvm.Cond.fieldLink "java/lang/Throwable" (198 : Nat) "java/lang/Throwable" "backtrace" "Ljava/lang/Object;"), (Jvm.Cond.fieldLink "java/lang/Throwable" (31 : Nat) "java/lang/Throwable" "detailMessage" "Ljava/lang/String;"), (Jvm.Cond.fieldLink "java/lang/Throwable" (7 : Nat) "java/lang/Throwable" "cause" "Ljava/lang/Throwable;"), (Jvm.Cond.fieldLink "java/lang/Throwable" (17 : Nat) "java/lang/Throwable" "stackTrace" "[Ljava/lang/StackTraceElement;"), (Jvm.Cond.fieldLink "java/lang/Throwable" (24 : Nat) "java/lang/Throwable" "suppressedExceptions" "Ljava/util/List;"), (Jvm.Cond.lays "java/lang/ArithmeticException" "java/lang/Throwable" "depth" "I"), (Jvm.Cond.superclass "java/lang/ArithmeticException" "java/lang/RuntimeException"), (Jvm.Cond.arrayClass Jvm.ClassFile.FieldType.byte), (Jvm.Cond.methodLink "DebtRows" (40 : Nat) ({ cls := "DebtRows$Rates", name := "latestDay", desc := "()I" } : Jvm.MethodName)), (Jvm.Cond.instanceMethod ({ cls := "DebtRows$Rates", name := "latestDay", desc := "()I" } : Jvm.MethodName)), (Jvm.Cond.selects "DebtRows$Rates" ({ cls := "DebtRows$Rates", name := "latestDay", desc := "()I" } : Jvm.MethodName) ({ cls := "DebtRows$Rates", name := "latestDay", desc := "()I" } : Jvm.MethodName)), (Jvm.Cond.code ({ cls := "DebtRows$Rates", name := "latestDay", desc := "()I" } : Jvm.MethodName) prog_3_method_2_code (1 : Nat) (Option.some Jvm.ClassFile.FieldType.int)), (Jvm.Cond.constant "DebtRows" (44 : Nat) (100000 : Int32)), (Jvm.Cond.classLink "DebtRows" (45 : Nat) "java/lang/IllegalArgumentException"), (Jvm.Cond.instantiable "java/lang/IllegalArgumentException" (6 : Nat)), (Jvm.Cond.selects "java/lang/IllegalArgumentException" ({ cls := "java/lang/Throwable", name := "fillInStackTrace", desc := "(I)Ljava/lang/Throwable;" } : Jvm.MethodName) ({ cls := "java/lang/Throwable", name := "fillInStackTrace", desc := "(I)Ljava/lang/Throwable;" } : Jvm.MethodName)), (Jvm.Cond.lays "java/lang/IllegalArgumentException" "java/lang/Throwable" "cause" "Ljava/lang/Throwable;"), (Jvm.Cond.lays "java/lang/IllegalArgumentException" "java/lang/Throwable" "stackTrace" "[Ljava/lang/StackTraceElement;"), (Jvm.Cond.lays "java/lang/IllegalArgumentException" "java/lang/Throwable" "suppressedExceptions" "Ljava/util/List;"), (Jvm.Cond.lays "java/lang/IllegalArgumentException" "java/lang/Throwable" "detailMessage" "Ljava/lang/String;"), (Jvm.Cond.lays "java/lang/IllegalArgumentException" "java/lang/Throwable" "backtrace" "Ljava/lang/Object;"), (Jvm.Cond.methodLink "DebtRows" (49 : Nat) ({ cls := "java/lang/IllegalArgumentException", name := "<init>", desc := "(Ljava/lang/String;)V" } : Jvm.MethodName)), (Jvm.Cond.instanceMethod ({ cls := "java/lang/IllegalArgumentException", name := "<init>", desc := "(Ljava/lang/String;)V" } : Jvm.MethodName)), (Jvm.Cond.code ({ cls := "java/lang/IllegalArgumentException", name := "<init>", desc := "(Ljava/lang/String;)V" } : Jvm.MethodName) prog_8_method_2_code (2 : Nat) (Option.none : Option Jvm.ClassFile.FieldType)), (Jvm.Cond.methodLink "java/lang/IllegalArgumentException" (7 : Nat) ({ cls := "java/lang/RuntimeException", name := "<init>", desc := "(Ljava/lang/String;)V" } : Jvm.MethodName)), (Jvm.Cond.lays "java/lang/IllegalArgumentException" "java/lang/Throwable" "depth" "I"), (Jvm.Cond.superclass "java/lang/IllegalArgumentException" "java/lang/RuntimeException"), (Jvm.Cond.classLink "DebtRows" (55 : Nat) "java/lang/IllegalStateException"), (Jvm.Cond.instantiable "java/lang/IllegalStateException" (6 : Nat)), (Jvm.Cond.selects "java/lang/IllegalStateException" ({ cls := "java/lang/Throwable", name := "fillInStackTrace", desc := "(I)Ljava/lang/Throwable;" } : Jvm.MethodName) ({ cls := "java/lang/Throwable", name := "fillInStackTrace", desc := "(I)Ljava/lang/Throwable;" } : Jvm.MethodName)), (Jvm.Cond.lays "java/lang/IllegalStateException" "java/lang/Throwable" "cause" "Ljava/lang/Throwable;"), (Jvm.Cond.lays "java/lang/IllegalStateException" "java/lang/Throwable" "stackTrace" "[Ljava/lang/StackTraceElement;")]
def big_3 : List Cond := [(Jvm.Cond.lays "java/lang/IllegalStateException" "java/lang/Throwable" "suppressedExceptions" "Ljava/util/List;"), (Jvm.Cond.lays "java/lang/IllegalStateException" "java/lang/Throwable" "detailMessage" "Ljava/lang/String;"), (Jvm.Cond.lays "java/lang/IllegalStateException" "java/lang/Throwable" "backtrace" "Ljava/lang/Object;"), (Jvm.Cond.methodLink "DebtRows" (59 : Nat) ({ cls := "java/lang/IllegalStateException", name := "<init>", desc := "(Ljava/lang/String;)V" } : Jvm.MethodName)), (Jvm.Cond.instanceMethod ({ cls := "java/lang/IllegalStateException", name := "<init>", desc := "(Ljava/lang/String;)V" } : Jvm.MethodName)), (Jvm.Cond.code ({ cls := "java/lang/IllegalStateException", name := "<init>", desc := "(Ljava/lang/String;)V" } : Jvm.MethodName) prog_9_method_2_code (2 : Nat) (Option.none : Option Jvm.ClassFile.FieldType)), (Jvm.Cond.methodLink "java/lang/IllegalStateException" (7 : Nat) ({ cls := "java/lang/RuntimeException", name := "<init>", desc := "(Ljava/lang/String;)V" } : Jvm.MethodName)), (Jvm.Cond.lays "java/lang/IllegalStateException" "java/lang/Throwable" "depth" "I"), (Jvm.Cond.superclass "java/lang/IllegalStateException" "java/lang/RuntimeException"), (Jvm.Cond.methodLink "DebtRows" (60 : Nat) ({ cls := "DebtRows$Rates", name := "append", desc := "(III)V" } : Jvm.MethodName)), (Jvm.Cond.instanceMethod ({ cls := "DebtRows$Rates", name := "append", desc := "(III)V" } : Jvm.MethodName)), (Jvm.Cond.selects "DebtRows$Rates" ({ cls := "DebtRows$Rates", name := "append", desc := "(III)V" } : Jvm.MethodName) ({ cls := "DebtRows$Rates", name := "append", desc := "(III)V" } : Jvm.MethodName)), (Jvm.Cond.code ({ cls := "DebtRows$Rates", name := "append", desc := "(III)V" } : Jvm.MethodName) prog_3_method_3_code (4 : Nat) (Option.none : Option Jvm.ClassFile.FieldType)), (Jvm.Cond.methodLink "DebtRowsLaw" (74 : Nat) ({ cls := "DebtRowsLaw", name := "debt", desc := "(LDebtRows;JI[J)I" } : Jvm.MethodName)), (Jvm.Cond.static ({ cls := "DebtRowsLaw", name := "debt", desc := "(LDebtRows;JI[J)I" } : Jvm.MethodName)), (Jvm.Cond.methodLink "DebtRowsLaw" (19 : Nat) ({ cls := "DebtRows", name := "debt", desc := "(JI)I" } : Jvm.MethodName)), (Jvm.Cond.instanceMethod ({ cls := "DebtRows", name := "debt", desc := "(JI)I" } : Jvm.MethodName)), (Jvm.Cond.selects "DebtRows" ({ cls := "DebtRows", name := "debt", desc := "(JI)I" } : Jvm.MethodName) ({ cls := "DebtRows", name := "debt", desc := "(JI)I" } : Jvm.MethodName)), (Jvm.Cond.code ({ cls := "DebtRows", name := "debt", desc := "(JI)I" } : Jvm.MethodName) prog_1_method_3_code (5 : Nat) (Option.some Jvm.ClassFile.FieldType.int)), (Jvm.Cond.methodLink "DebtRows" (64 : Nat) ({ cls := "DebtRows", name := "isSum", desc := "(J)Z" } : Jvm.MethodName)), (Jvm.Cond.static ({ cls := "DebtRows", name := "isSum", desc := "(J)Z" } : Jvm.MethodName)), (Jvm.Cond.code ({ cls := "DebtRows", name := "isSum", desc := "(J)Z" } : Jvm.MethodName) prog_1_method_19_code (2 : Nat) (Option.some Jvm.ClassFile.FieldType.boolean)), (Jvm.Cond.constantLong "DebtRows" (195 : Nat) (1000000000 : Int64)), (Jvm.Cond.instantiable "DebtRows$Debt" (15 : Nat)), (Jvm.Cond.methodLink "DebtRows" (78 : Nat) ({ cls := "DebtRows$Debt", name := "<init>", desc := "(JI)V" } : Jvm.MethodName)), (Jvm.Cond.instanceMethod ({ cls := "DebtRows$Debt", name := "<init>", desc := "(JI)V" } : Jvm.MethodName)), (Jvm.Cond.code ({ cls := "DebtRows$Debt", name := "<init>", desc := "(JI)V" } : Jvm.MethodName) prog_2_method_1_code (4 : Nat) (Option.none : Option Jvm.ClassFile.FieldType)), (Jvm.Cond.methodLink "DebtRows$Debt" (3 : Nat) ({ cls := "java/lang/Object", name := "<init>", desc := "()V" } : Jvm.MethodName)), (Jvm.Cond.fieldLink "DebtRows$Debt" (9 : Nat) "DebtRows$Debt" "cents" "J"), (Jvm.Cond.fieldLink "DebtRows" (150 : Nat) "DebtRows$Debt" "cents" "J"), (Jvm.Cond.fieldLink "DebtRows$Debt" (15 : Nat) "DebtRows$Debt" "birth" "I"), (Jvm.Cond.fieldLink "DebtRows" (178 : Nat) "DebtRows$Debt" "birth" "I"), (Jvm.Cond.fieldLink "DebtRows$Debt" (19 : Nat) "DebtRows$Debt" "people" "[I"), (Jvm.Cond.fieldLink "DebtRows$Debt" (23 : Nat) "DebtRows$Debt" "paid" "[J"), (Jvm.Cond.fieldLink "DebtRows$Debt" (36 : Nat) "DebtRows$Debt" "debtors" "I"), (Jvm.Cond.fieldLink "DebtRows" (181 : Nat) "DebtRows$Debt" "debtors" "I"), (Jvm.Cond.fieldLink "DebtRows$Debt" (27 : Nat) "DebtRows$Debt" "state" "I"), (Jvm.Cond.fieldLink "DebtRows" (88 : Nat) "DebtRows$Debt" "state" "I"), (Jvm.Cond.fieldLink "DebtRows$Debt" (30 : Nat) "DebtRows$Debt" "dueDay" "I"), (Jvm.Cond.fieldLink "DebtRows" (97 : Nat) "DebtRows$Debt" "dueDay" "I"), (Jvm.Cond.fieldLink "DebtRows$Debt" (53 : Nat) "DebtRows$Debt" "interestBehind" "I"), (Jvm.Cond.fieldLink "DebtRows$Debt" (33 : Nat) "DebtRows$Debt" "open" "J"), (Jvm.Cond.fieldLink "DebtRows" (140 : Nat) "DebtRows$Debt" "open" "J"), (Jvm.Cond.fieldLink "DebtRows" (131 : Nat) "DebtRows$Debt" "lost" "J"), (Jvm.Cond.fieldLink "DebtRows$Debt" (85 : Nat) "DebtRows$Debt" "lost" "J"), (Jvm.Cond.fieldLink "DebtRows" (143 : Nat) "DebtRows$Debt" "fixedInterest" "J"), (Jvm.Cond.fieldLink "DebtRows$Debt" (62 : Nat) "DebtRows$Debt" "fixedInterest" "J"), (Jvm.Cond.fieldLink "DebtRows" (153 : Nat) "DebtRows$Debt" "paidInterest" "J"), (Jvm.Cond.fieldLink "DebtRows$Debt" (73 : Nat) "DebtRows$Debt" "paidInterest" "J"), (Jvm.Cond.fieldLink "DebtRows$Debt" (88 : Nat) "DebtRows$Debt" "deferralDay" "I"), (Jvm.Cond.fieldLink "DebtRows$Debt" (91 : Nat) "DebtRows$Debt" "deferralParts" "I"), (Jvm.Cond.fieldLink "DebtRows$Debt" (94 : Nat) "DebtRows$Debt" "deferralOpen" "J"), (Jvm.Cond.laysFinal "DebtRows$Debt" "DebtRows$Debt" "cents" "J"), (Jvm.Cond.laysFinal "DebtRows$Debt" "DebtRows$Debt" "birth" "I"), (Jvm.Cond.laysFinal "DebtRows$Debt" "DebtRows$Debt" "people" "[I"), (Jvm.Cond.laysFinal "DebtRows$Debt" "DebtRows$Debt" "paid" "[J"), (Jvm.Cond.lays "DebtRows$Debt" "DebtRows$Debt" "debtors" "I"), (Jvm.Cond.lays "DebtRows$Debt" "DebtRows$Debt" "state" "I"), (Jvm.Cond.lays "DebtRows$Debt" "DebtRows$Debt" "dueDay" "I"), (Jvm.Cond.lays "DebtRows$Debt" "DebtRows$Debt" "interestBehind" "I")]
def big_4 : List Cond := [(Jvm.Cond.lays "DebtRows$Debt" "DebtRows$Debt" "open" "J"), (Jvm.Cond.lays "DebtRows$Debt" "DebtRows$Debt" "lost" "J"), (Jvm.Cond.lays "DebtRows$Debt" "DebtRows$Debt" "fixedInterest" "J"), (Jvm.Cond.lays "DebtRows$Debt" "DebtRows$Debt" "paidInterest" "J"), (Jvm.Cond.lays "DebtRows$Debt" "DebtRows$Debt" "deferralDay" "I"), (Jvm.Cond.lays "DebtRows$Debt" "DebtRows$Debt" "deferralParts" "I"), (Jvm.Cond.lays "DebtRows$Debt" "DebtRows$Debt" "deferralOpen" "J"), (Jvm.Cond.superclass "DebtRows$Debt" "java/lang/Object"), (Jvm.Cond.methodLink "DebtRowsLaw" (83 : Nat) ({ cls := "DebtRowsLaw", name := "notified", desc := "(LDebtRows;I[J)I" } : Jvm.MethodName)), (Jvm.Cond.static ({ cls := "DebtRowsLaw", name := "notified", desc := "(LDebtRows;I[J)I" } : Jvm.MethodName)), (Jvm.Cond.methodLink "DebtRowsLaw" (23 : Nat) ({ cls := "DebtRows", name := "notified", desc := "(I)I" } : Jvm.MethodName)), (Jvm.Cond.instanceMethod ({ cls := "DebtRows", name := "notified", desc := "(I)I" } : Jvm.MethodName)), (Jvm.Cond.selects "DebtRows" ({ cls := "DebtRows", name := "notified", desc := "(I)I" } : Jvm.MethodName) ({ cls := "DebtRows", name := "notified", desc := "(I)I" } : Jvm.MethodName)), (Jvm.Cond.code ({ cls := "DebtRows", name := "notified", desc := "(I)I" } : Jvm.MethodName) prog_1_method_5_code (3 : Nat) (Option.some Jvm.ClassFile.FieldType.int)), (Jvm.Cond.methodLink "DebtRows" (91 : Nat) ({ cls := "DebtRows", name := "findOrRefuse", desc := "(I)LDebtRows$Debt;" } : Jvm.MethodName)), (Jvm.Cond.instanceMethod ({ cls := "DebtRows", name := "findOrRefuse", desc := "(I)LDebtRows$Debt;" } : Jvm.MethodName)), (Jvm.Cond.code ({ cls := "DebtRows", name := "findOrRefuse", desc := "(I)LDebtRows$Debt;" } : Jvm.MethodName) prog_1_method_17_code (3 : Nat) (Option.some (Jvm.ClassFile.FieldType.object "DebtRows$Debt"))), (Jvm.Cond.methodLink "DebtRows" (94 : Nat) ({ cls := "DebtRows$Debt", name := "isTooLate", desc := "(I)Z" } : Jvm.MethodName)), (Jvm.Cond.instanceMethod ({ cls := "DebtRows$Debt", name := "isTooLate", desc := "(I)Z" } : Jvm.MethodName)), (Jvm.Cond.selects "DebtRows$Debt" ({ cls := "DebtRows$Debt", name := "isTooLate", desc := "(I)Z" } : Jvm.MethodName) ({ cls := "DebtRows$Debt", name := "isTooLate", desc := "(I)Z" } : Jvm.MethodName)), (Jvm.Cond.code ({ cls := "DebtRows$Debt", name := "isTooLate", desc := "(I)Z" } : Jvm.MethodName) prog_2_method_9_code (2 : Nat) (Option.some Jvm.ClassFile.FieldType.boolean)), (Jvm.Cond.methodLink "DebtRows" (100 : Nat) ({ cls := "DebtRows$Debt", name := "runAgain", desc := "(I)V" } : Jvm.MethodName)), (Jvm.Cond.instanceMethod ({ cls := "DebtRows$Debt", name := "runAgain", desc := "(I)V" } : Jvm.MethodName)), (Jvm.Cond.selects "DebtRows$Debt" ({ cls := "DebtRows$Debt", name := "runAgain", desc := "(I)V" } : Jvm.MethodName) ({ cls := "DebtRows$Debt", name := "runAgain", desc := "(I)V" } : Jvm.MethodName)), (Jvm.Cond.code ({ cls := "DebtRows$Debt", name := "runAgain", desc := "(I)V" } : Jvm.MethodName) prog_2_method_10_code (2 : Nat) (Option.none : Option Jvm.ClassFile.FieldType)), (Jvm.Cond.methodLink "DebtRows$Debt" (47 : Nat) ({ cls := "java/lang/Math", name := "max", desc := "(II)I" } : Jvm.MethodName)), (Jvm.Cond.static ({ cls := "java/lang/Math", name := "max", desc := "(II)I" } : Jvm.MethodName)), (Jvm.Cond.code ({ cls := "java/lang/Math", name := "max", desc := "(II)I" } : Jvm.MethodName) prog_11_method_65_code (2 : Nat) (Option.some Jvm.ClassFile.FieldType.int)), (Jvm.Cond.methodLink "DebtRowsLaw" (87 : Nat) ({ cls := "DebtRowsLaw", name := "pay", desc := "(LDebtRows;IJ[J)I" } : Jvm.MethodName)), (Jvm.Cond.static ({ cls := "DebtRowsLaw", name := "pay", desc := "(LDebtRows;IJ[J)I" } : Jvm.MethodName)), (Jvm.Cond.methodLink "DebtRowsLaw" (27 : Nat) ({ cls := "DebtRows", name := "pay", desc := "(IJ)I" } : Jvm.MethodName)), (Jvm.Cond.instanceMethod ({ cls := "DebtRows", name := "pay", desc := "(IJ)I" } : Jvm.MethodName)), (Jvm.Cond.selects "DebtRows" ({ cls := "DebtRows", name := "pay", desc := "(IJ)I" } : Jvm.MethodName) ({ cls := "DebtRows", name := "pay", desc := "(IJ)I" } : Jvm.MethodName)), (Jvm.Cond.code ({ cls := "DebtRows", name := "pay", desc := "(IJ)I" } : Jvm.MethodName) prog_1_method_6_code (9 : Nat) (Option.some Jvm.ClassFile.FieldType.int)), (Jvm.Cond.methodLink "DebtRows" (104 : Nat) ({ cls := "DebtRows$Debt", name := "isPayable", desc := "()Z" } : Jvm.MethodName)), (Jvm.Cond.instanceMethod ({ cls := "DebtRows$Debt", name := "isPayable", desc := "()Z" } : Jvm.MethodName)), (Jvm.Cond.selects "DebtRows$Debt" ({ cls := "DebtRows$Debt", name := "isPayable", desc := "()Z" } : Jvm.MethodName) ({ cls := "DebtRows$Debt", name := "isPayable", desc := "()Z" } : Jvm.MethodName)), (Jvm.Cond.code ({ cls := "DebtRows$Debt", name := "isPayable", desc := "()Z" } : Jvm.MethodName) prog_2_method_8_code (1 : Nat) (Option.some Jvm.ClassFile.FieldType.boolean)), (Jvm.Cond.methodLink "DebtRows" (108 : Nat) ({ cls := "DebtRows$Debt", name := "placeOf", desc := "(I)I" } : Jvm.MethodName)), (Jvm.Cond.methodLink "DebtRows" (112 : Nat) ({ cls := "DebtRows$Debt", name := "fixInterest", desc := "(LDebtRows$Rates;I)V" } : Jvm.MethodName)), (Jvm.Cond.instanceMethod ({ cls := "DebtRows$Debt", name := "fixInterest", desc := "(LDebtRows$Rates;I)V" } : Jvm.MethodName)), (Jvm.Cond.selects "DebtRows$Debt" ({ cls := "DebtRows$Debt", name := "fixInterest", desc := "(LDebtRows$Rates;I)V" } : Jvm.MethodName) ({ cls := "DebtRows$Debt", name := "fixInterest", desc := "(LDebtRows$Rates;I)V" } : Jvm.MethodName)), (Jvm.Cond.code ({ cls := "DebtRows$Debt", name := "fixInterest", desc := "(LDebtRows$Rates;I)V" } : Jvm.MethodName) prog_2_method_12_code (3 : Nat) (Option.none : Option Jvm.ClassFile.FieldType)), (Jvm.Cond.methodLink "DebtRows$Debt" (65 : Nat) ({ cls := "DebtRows$Debt", name := "runningInterest", desc := "(LDebtRows$Rates;I)J" } : Jvm.MethodName)), (Jvm.Cond.instanceMethod ({ cls := "DebtRows$Debt", name := "runningInterest", desc := "(LDebtRows$Rates;I)J" } : Jvm.MethodName)), (Jvm.Cond.selects "DebtRows$Debt" ({ cls := "DebtRows$Debt", name := "runningInterest", desc := "(LDebtRows$Rates;I)J" } : Jvm.MethodName) ({ cls := "DebtRows$Debt", name := "runningInterest", desc := "(LDebtRows$Rates;I)J" } : Jvm.MethodName)), (Jvm.Cond.code ({ cls := "DebtRows$Debt", name := "runningInterest", desc := "(LDebtRows$Rates;I)J" } : Jvm.MethodName) prog_2_method_11_code (3 : Nat) (Option.some Jvm.ClassFile.FieldType.long)), (Jvm.Cond.methodLink "DebtRows$Debt" (56 : Nat) ({ cls := "DebtRows$Rates", name := "interest", desc := "(JII)J" } : Jvm.MethodName)), (Jvm.Cond.instanceMethod ({ cls := "DebtRows$Rates", name := "interest", desc := "(JII)J" } : Jvm.MethodName)), (Jvm.Cond.selects "DebtRows$Rates" ({ cls := "DebtRows$Rates", name := "interest", desc := "(JII)J" } : Jvm.MethodName) ({ cls := "DebtRows$Rates", name := "interest", desc := "(JII)J" } : Jvm.MethodName)), (Jvm.Cond.code ({ cls := "DebtRows$Rates", name := "interest", desc := "(JII)J" } : Jvm.MethodName) prog_3_method_4_code (12 : Nat) (Option.some Jvm.ClassFile.FieldType.long)), (Jvm.Cond.methodLink "DebtRows$Rates" (25 : Nat) ({ cls := "java/lang/Math", name := "max", desc := "(II)I" } : Jvm.MethodName)), (Jvm.Cond.methodLink "DebtRows$Rates" (31 : Nat) ({ cls := "java/lang/Math", name := "min", desc := "(II)I" } : Jvm.MethodName)), (Jvm.Cond.static ({ cls := "java/lang/Math", name := "min", desc := "(II)I" } : Jvm.MethodName)), (Jvm.Cond.code ({ cls := "java/lang/Math", name := "min", desc := "(II)I" } : Jvm.MethodName) prog_11_method_69_code (2 : Nat) (Option.some Jvm.ClassFile.FieldType.int)), (Jvm.Cond.constantLong "DebtRows$Rates" (34 : Nat) (365 : Int64)), (Jvm.Cond.methodLink "DebtRows" (116 : Nat) ({ cls := "DebtRows$Debt", name := "take", desc := "(IJ)J" } : Jvm.MethodName)), (Jvm.Cond.instanceMethod ({ cls := "DebtRows$Debt", name := "take", desc := "(IJ)J" } : Jvm.MethodName)), (Jvm.Cond.selects "DebtRows$Debt" ({ cls := "DebtRows$Debt", name := "take", desc := "(IJ)J" } : Jvm.MethodName) ({ cls := "DebtRows$Debt", name := "take", desc := "(IJ)J" } : Jvm.MethodName)), (Jvm.Cond.code ({ cls := "DebtRows$Debt", name := "take", desc := "(IJ)J" } : Jvm.MethodName) prog_2_method_13_code (8 : Nat) (Option.some Jvm.ClassFile.FieldType.long))]
def big_5 : List Cond := [(Jvm.Cond.methodLink "DebtRows$Debt" (43 : Nat) ({ cls := "DebtRows$Debt", name := "hasPlace", desc := "(I)Z" } : Jvm.MethodName)), (Jvm.Cond.instanceMethod ({ cls := "DebtRows$Debt", name := "hasPlace", desc := "(I)Z" } : Jvm.MethodName)), (Jvm.Cond.selects "DebtRows$Debt" ({ cls := "DebtRows$Debt", name := "hasPlace", desc := "(I)Z" } : Jvm.MethodName) ({ cls := "DebtRows$Debt", name := "hasPlace", desc := "(I)Z" } : Jvm.MethodName)), (Jvm.Cond.code ({ cls := "DebtRows$Debt", name := "hasPlace", desc := "(I)Z" } : Jvm.MethodName) prog_2_method_4_code (2 : Nat) (Option.some Jvm.ClassFile.FieldType.boolean)), (Jvm.Cond.methodLink "DebtRows$Debt" (69 : Nat) ({ cls := "java/lang/Math", name := "min", desc := "(JJ)J" } : Jvm.MethodName)), (Jvm.Cond.static ({ cls := "java/lang/Math", name := "min", desc := "(JJ)J" } : Jvm.MethodName)), (Jvm.Cond.code ({ cls := "java/lang/Math", name := "min", desc := "(JJ)J" } : Jvm.MethodName) prog_11_method_70_code (4 : Nat) (Option.some Jvm.ClassFile.FieldType.long)), (Jvm.Cond.methodLink "DebtRows$Debt" (76 : Nat) ({ cls := "DebtRows$Debt", name := "settle", desc := "()V" } : Jvm.MethodName)), (Jvm.Cond.instanceMethod ({ cls := "DebtRows$Debt", name := "settle", desc := "()V" } : Jvm.MethodName)), (Jvm.Cond.selects "DebtRows$Debt" ({ cls := "DebtRows$Debt", name := "settle", desc := "()V" } : Jvm.MethodName) ({ cls := "DebtRows$Debt", name := "settle", desc := "()V" } : Jvm.MethodName)), (Jvm.Cond.code ({ cls := "DebtRows$Debt", name := "settle", desc := "()V" } : Jvm.MethodName) prog_2_method_14_code (1 : Nat) (Option.none : Option Jvm.ClassFile.FieldType)), (Jvm.Cond.constantLong "DebtRows$Debt" (79 : Nat) (10 : Int64)), (Jvm.Cond.methodLink "DebtRows$Debt" (81 : Nat) ({ cls := "DebtRows$Debt", name := "lose", desc := "(I)V" } : Jvm.MethodName)), (Jvm.Cond.instanceMethod ({ cls := "DebtRows$Debt", name := "lose", desc := "(I)V" } : Jvm.MethodName)), (Jvm.Cond.selects "DebtRows$Debt" ({ cls := "DebtRows$Debt", name := "lose", desc := "(I)V" } : Jvm.MethodName) ({ cls := "DebtRows$Debt", name := "lose", desc := "(I)V" } : Jvm.MethodName)), (Jvm.Cond.code ({ cls := "DebtRows$Debt", name := "lose", desc := "(I)V" } : Jvm.MethodName) prog_2_method_15_code (2 : Nat) (Option.none : Option Jvm.ClassFile.FieldType)), (Jvm.Cond.methodLink "DebtRowsLaw" (91 : Nat) ({ cls := "DebtRowsLaw", name := "instalments", desc := "(LDebtRows;II[J)I" } : Jvm.MethodName)), (Jvm.Cond.static ({ cls := "DebtRowsLaw", name := "instalments", desc := "(LDebtRows;II[J)I" } : Jvm.MethodName)), (Jvm.Cond.methodLink "DebtRowsLaw" (31 : Nat) ({ cls := "DebtRows", name := "instalments", desc := "(II)I" } : Jvm.MethodName)), (Jvm.Cond.instanceMethod ({ cls := "DebtRows", name := "instalments", desc := "(II)I" } : Jvm.MethodName)), (Jvm.Cond.selects "DebtRows" ({ cls := "DebtRows", name := "instalments", desc := "(II)I" } : Jvm.MethodName) ({ cls := "DebtRows", name := "instalments", desc := "(II)I" } : Jvm.MethodName)), (Jvm.Cond.code ({ cls := "DebtRows", name := "instalments", desc := "(II)I" } : Jvm.MethodName) prog_1_method_7_code (4 : Nat) (Option.some Jvm.ClassFile.FieldType.int)), (Jvm.Cond.methodLink "DebtRows" (122 : Nat) ({ cls := "DebtRows$Debt", name := "defer", desc := "(II)V" } : Jvm.MethodName)), (Jvm.Cond.instanceMethod ({ cls := "DebtRows$Debt", name := "defer", desc := "(II)V" } : Jvm.MethodName)), (Jvm.Cond.selects "DebtRows$Debt" ({ cls := "DebtRows$Debt", name := "defer", desc := "(II)V" } : Jvm.MethodName) ({ cls := "DebtRows$Debt", name := "defer", desc := "(II)V" } : Jvm.MethodName)), (Jvm.Cond.code ({ cls := "DebtRows$Debt", name := "defer", desc := "(II)V" } : Jvm.MethodName) prog_2_method_16_code (3 : Nat) (Option.none : Option Jvm.ClassFile.FieldType)), (Jvm.Cond.methodLink "DebtRowsLaw" (95 : Nat) ({ cls := "DebtRowsLaw", name := "appeal", desc := "(LDebtRows;I[J)I" } : Jvm.MethodName)), (Jvm.Cond.static ({ cls := "DebtRowsLaw", name := "appeal", desc := "(LDebtRows;I[J)I" } : Jvm.MethodName)), (Jvm.Cond.methodLink "DebtRowsLaw" (35 : Nat) ({ cls := "DebtRows", name := "appeal", desc := "(I)I" } : Jvm.MethodName)), (Jvm.Cond.instanceMethod ({ cls := "DebtRows", name := "appeal", desc := "(I)I" } : Jvm.MethodName)), (Jvm.Cond.selects "DebtRows" ({ cls := "DebtRows", name := "appeal", desc := "(I)I" } : Jvm.MethodName) ({ cls := "DebtRows", name := "appeal", desc := "(I)I" } : Jvm.MethodName)), (Jvm.Cond.code ({ cls := "DebtRows", name := "appeal", desc := "(I)I" } : Jvm.MethodName) prog_1_method_8_code (3 : Nat) (Option.some Jvm.ClassFile.FieldType.int)), (Jvm.Cond.methodLink "DebtRowsLaw" (98 : Nat) ({ cls := "DebtRowsLaw", name := "decide", desc := "(LDebtRows;IZ[J)I" } : Jvm.MethodName)), (Jvm.Cond.static ({ cls := "DebtRowsLaw", name := "decide", desc := "(LDebtRows;IZ[J)I" } : Jvm.MethodName)), (Jvm.Cond.methodLink "DebtRowsLaw" (38 : Nat) ({ cls := "DebtRows", name := "decide", desc := "(IZ)J" } : Jvm.MethodName)), (Jvm.Cond.instanceMethod ({ cls := "DebtRows", name := "decide", desc := "(IZ)J" } : Jvm.MethodName)), (Jvm.Cond.selects "DebtRows" ({ cls := "DebtRows", name := "decide", desc := "(IZ)J" } : Jvm.MethodName) ({ cls := "DebtRows", name := "decide", desc := "(IZ)J" } : Jvm.MethodName)), (Jvm.Cond.code ({ cls := "DebtRows", name := "decide", desc := "(IZ)J" } : Jvm.MethodName) prog_1_method_9_code (4 : Nat) (Option.some Jvm.ClassFile.FieldType.long)), (Jvm.Cond.methodLink "DebtRows" (128 : Nat) ({ cls := "DebtRows$Debt", name := "lose", desc := "(I)V" } : Jvm.MethodName)), (Jvm.Cond.methodLink "DebtRowsLaw" (102 : Nat) ({ cls := "DebtRowsLaw", name := "tick", desc := "(LDebtRows;I[J)I" } : Jvm.MethodName)), (Jvm.Cond.static ({ cls := "DebtRowsLaw", name := "tick", desc := "(LDebtRows;I[J)I" } : Jvm.MethodName)), (Jvm.Cond.methodLink "DebtRowsLaw" (42 : Nat) ({ cls := "DebtRows", name := "tick", desc := "(I)I" } : Jvm.MethodName)), (Jvm.Cond.instanceMethod ({ cls := "DebtRows", name := "tick", desc := "(I)I" } : Jvm.MethodName)), (Jvm.Cond.selects "DebtRows" ({ cls := "DebtRows", name := "tick", desc := "(I)I" } : Jvm.MethodName) ({ cls := "DebtRows", name := "tick", desc := "(I)I" } : Jvm.MethodName)), (Jvm.Cond.code ({ cls := "DebtRows", name := "tick", desc := "(I)I" } : Jvm.MethodName) prog_1_method_10_code (5 : Nat) (Option.some Jvm.ClassFile.FieldType.int)), (Jvm.Cond.methodLink "DebtRows" (137 : Nat) ({ cls := "DebtRows$Debt", name := "endsBy", desc := "(I)Z" } : Jvm.MethodName)), (Jvm.Cond.instanceMethod ({ cls := "DebtRows$Debt", name := "endsBy", desc := "(I)Z" } : Jvm.MethodName)), (Jvm.Cond.selects "DebtRows$Debt" ({ cls := "DebtRows$Debt", name := "endsBy", desc := "(I)Z" } : Jvm.MethodName) ({ cls := "DebtRows$Debt", name := "endsBy", desc := "(I)Z" } : Jvm.MethodName)), (Jvm.Cond.code ({ cls := "DebtRows$Debt", name := "endsBy", desc := "(I)Z" } : Jvm.MethodName) prog_2_method_17_code (3 : Nat) (Option.some Jvm.ClassFile.FieldType.boolean)), (Jvm.Cond.methodLink "DebtRows$Debt" (97 : Nat) ({ cls := "DebtRows$Debt", name := "isTooLate", desc := "(I)Z" } : Jvm.MethodName)), (Jvm.Cond.methodLink "DebtRows$Debt" (100 : Nat) ({ cls := "DebtRows$Debt", name := "firstMissedDay", desc := "()I" } : Jvm.MethodName)), (Jvm.Cond.instanceMethod ({ cls := "DebtRows$Debt", name := "firstMissedDay", desc := "()I" } : Jvm.MethodName)), (Jvm.Cond.selects "DebtRows$Debt" ({ cls := "DebtRows$Debt", name := "firstMissedDay", desc := "()I" } : Jvm.MethodName) ({ cls := "DebtRows$Debt", name := "firstMissedDay", desc := "()I" } : Jvm.MethodName)), (Jvm.Cond.code ({ cls := "DebtRows$Debt", name := "firstMissedDay", desc := "()I" } : Jvm.MethodName) prog_2_method_18_code (2 : Nat) (Option.some Jvm.ClassFile.FieldType.int)), (Jvm.Cond.methodLink "DebtRows$Debt" (107 : Nat) ({ cls := "DebtRows$Debt", name := "mayBeOpen", desc := "(I)J" } : Jvm.MethodName)), (Jvm.Cond.instanceMethod ({ cls := "DebtRows$Debt", name := "mayBeOpen", desc := "(I)J" } : Jvm.MethodName)), (Jvm.Cond.selects "DebtRows$Debt" ({ cls := "DebtRows$Debt", name := "mayBeOpen", desc := "(I)J" } : Jvm.MethodName) ({ cls := "DebtRows$Debt", name := "mayBeOpen", desc := "(I)J" } : Jvm.MethodName)), (Jvm.Cond.code ({ cls := "DebtRows$Debt", name := "mayBeOpen", desc := "(I)J" } : Jvm.MethodName) prog_2_method_19_code (2 : Nat) (Option.some Jvm.ClassFile.FieldType.long)), (Jvm.Cond.methodLink "DebtRows$Debt" (104 : Nat) ({ cls := "DebtRows$Debt", name := "runAgain", desc := "(I)V" } : Jvm.MethodName)), (Jvm.Cond.methodLink "DebtRowsLaw" (105 : Nat) ({ cls := "DebtRowsLaw", name := "due", desc := "(LDebtRows;II[J)I" } : Jvm.MethodName))]
def big_6 : List Cond := [(Jvm.Cond.static ({ cls := "DebtRowsLaw", name := "due", desc := "(LDebtRows;II[J)I" } : Jvm.MethodName)), (Jvm.Cond.methodLink "DebtRowsLaw" (45 : Nat) ({ cls := "DebtRows", name := "due", desc := "(II)J" } : Jvm.MethodName)), (Jvm.Cond.instanceMethod ({ cls := "DebtRows", name := "due", desc := "(II)J" } : Jvm.MethodName)), (Jvm.Cond.selects "DebtRows" ({ cls := "DebtRows", name := "due", desc := "(II)J" } : Jvm.MethodName) ({ cls := "DebtRows", name := "due", desc := "(II)J" } : Jvm.MethodName)), (Jvm.Cond.code ({ cls := "DebtRows", name := "due", desc := "(II)J" } : Jvm.MethodName) prog_1_method_11_code (4 : Nat) (Option.some Jvm.ClassFile.FieldType.long)), (Jvm.Cond.methodLink "DebtRows" (146 : Nat) ({ cls := "DebtRows$Debt", name := "runningInterest", desc := "(LDebtRows$Rates;I)J" } : Jvm.MethodName)), (Jvm.Cond.methodLink "DebtRowsLaw" (108 : Nat) ({ cls := "DebtRowsLaw", name := "recourse", desc := "(LDebtRows;III[J)I" } : Jvm.MethodName)), (Jvm.Cond.static ({ cls := "DebtRowsLaw", name := "recourse", desc := "(LDebtRows;III[J)I" } : Jvm.MethodName)), (Jvm.Cond.methodLink "DebtRowsLaw" (49 : Nat) ({ cls := "DebtRows", name := "recourse", desc := "(III)J" } : Jvm.MethodName)), (Jvm.Cond.instanceMethod ({ cls := "DebtRows", name := "recourse", desc := "(III)J" } : Jvm.MethodName)), (Jvm.Cond.selects "DebtRows" ({ cls := "DebtRows", name := "recourse", desc := "(III)J" } : Jvm.MethodName) ({ cls := "DebtRows", name := "recourse", desc := "(III)J" } : Jvm.MethodName)), (Jvm.Cond.code ({ cls := "DebtRows", name := "recourse", desc := "(III)J" } : Jvm.MethodName) prog_1_method_12_code (6 : Nat) (Option.some Jvm.ClassFile.FieldType.long)), (Jvm.Cond.methodLink "DebtRows" (160 : Nat) ({ cls := "DebtRows$Debt", name := "paidBy", desc := "(I)J" } : Jvm.MethodName)), (Jvm.Cond.instanceMethod ({ cls := "DebtRows$Debt", name := "paidBy", desc := "(I)J" } : Jvm.MethodName)), (Jvm.Cond.selects "DebtRows$Debt" ({ cls := "DebtRows$Debt", name := "paidBy", desc := "(I)J" } : Jvm.MethodName) ({ cls := "DebtRows$Debt", name := "paidBy", desc := "(I)J" } : Jvm.MethodName)), (Jvm.Cond.code ({ cls := "DebtRows$Debt", name := "paidBy", desc := "(I)J" } : Jvm.MethodName) prog_2_method_6_code (2 : Nat) (Option.some Jvm.ClassFile.FieldType.long)), (Jvm.Cond.methodLink "DebtRows" (164 : Nat) ({ cls := "DebtRows$Debt", name := "shareOf", desc := "(I)J" } : Jvm.MethodName)), (Jvm.Cond.instanceMethod ({ cls := "DebtRows$Debt", name := "shareOf", desc := "(I)J" } : Jvm.MethodName)), (Jvm.Cond.selects "DebtRows$Debt" ({ cls := "DebtRows$Debt", name := "shareOf", desc := "(I)J" } : Jvm.MethodName) ({ cls := "DebtRows$Debt", name := "shareOf", desc := "(I)J" } : Jvm.MethodName)), (Jvm.Cond.code ({ cls := "DebtRows$Debt", name := "shareOf", desc := "(I)J" } : Jvm.MethodName) prog_2_method_7_code (2 : Nat) (Option.some Jvm.ClassFile.FieldType.long)), (Jvm.Cond.methodLink "DebtRows" (167 : Nat) ({ cls := "java/lang/Math", name := "max", desc := "(JJ)J" } : Jvm.MethodName)), (Jvm.Cond.static ({ cls := "java/lang/Math", name := "max", desc := "(JJ)J" } : Jvm.MethodName)), (Jvm.Cond.code ({ cls := "java/lang/Math", name := "max", desc := "(JJ)J" } : Jvm.MethodName) prog_11_method_66_code (4 : Nat) (Option.some Jvm.ClassFile.FieldType.long)), (Jvm.Cond.methodLink "DebtRowsLaw" (111 : Nat) ({ cls := "DebtRowsLaw", name := "look", desc := "(LDebtRows;II[J)I" } : Jvm.MethodName)), (Jvm.Cond.static ({ cls := "DebtRowsLaw", name := "look", desc := "(LDebtRows;II[J)I" } : Jvm.MethodName)), (Jvm.Cond.classLink "DebtRowsLaw" (56 : Nat) "java/lang/IndexOutOfBoundsException"), (Jvm.Cond.methodLink "DebtRowsLaw" (53 : Nat) ({ cls := "DebtRows", name := "look", desc := "(II)I" } : Jvm.MethodName)), (Jvm.Cond.instanceMethod ({ cls := "DebtRows", name := "look", desc := "(II)I" } : Jvm.MethodName)), (Jvm.Cond.selects "DebtRows" ({ cls := "DebtRows", name := "look", desc := "(II)I" } : Jvm.MethodName) ({ cls := "DebtRows", name := "look", desc := "(II)I" } : Jvm.MethodName)), (Jvm.Cond.code ({ cls := "DebtRows", name := "look", desc := "(II)I" } : Jvm.MethodName) prog_1_method_13_code (4 : Nat) (Option.some Jvm.ClassFile.FieldType.int)), (Jvm.Cond.classLink "DebtRows" (173 : Nat) "java/lang/IndexOutOfBoundsException"), (Jvm.Cond.instantiable "java/lang/IndexOutOfBoundsException" (6 : Nat)), (Jvm.Cond.selects "java/lang/IndexOutOfBoundsException" ({ cls := "java/lang/Throwable", name := "fillInStackTrace", desc := "(I)Ljava/lang/Throwable;" } : Jvm.MethodName) ({ cls := "java/lang/Throwable", name := "fillInStackTrace", desc := "(I)Ljava/lang/Throwable;" } : Jvm.MethodName)), (Jvm.Cond.lays "java/lang/IndexOutOfBoundsException" "java/lang/Throwable" "cause" "Ljava/lang/Throwable;"), (Jvm.Cond.lays "java/lang/IndexOutOfBoundsException" "java/lang/Throwable" "stackTrace" "[Ljava/lang/StackTraceElement;"), (Jvm.Cond.lays "java/lang/IndexOutOfBoundsException" "java/lang/Throwable" "suppressedExceptions" "Ljava/util/List;"), (Jvm.Cond.lays "java/lang/IndexOutOfBoundsException" "java/lang/Throwable" "detailMessage" "Ljava/lang/String;"), (Jvm.Cond.lays "java/lang/IndexOutOfBoundsException" "java/lang/Throwable" "backtrace" "Ljava/lang/Object;"), (Jvm.Cond.methodLink "DebtRows" (177 : Nat) ({ cls := "java/lang/IndexOutOfBoundsException", name := "<init>", desc := "(Ljava/lang/String;)V" } : Jvm.MethodName)), (Jvm.Cond.instanceMethod ({ cls := "java/lang/IndexOutOfBoundsException", name := "<init>", desc := "(Ljava/lang/String;)V" } : Jvm.MethodName)), (Jvm.Cond.code ({ cls := "java/lang/IndexOutOfBoundsException", name := "<init>", desc := "(Ljava/lang/String;)V" } : Jvm.MethodName) prog_10_method_2_code (2 : Nat) (Option.none : Option Jvm.ClassFile.FieldType)), (Jvm.Cond.methodLink "java/lang/IndexOutOfBoundsException" (7 : Nat) ({ cls := "java/lang/RuntimeException", name := "<init>", desc := "(Ljava/lang/String;)V" } : Jvm.MethodName)), (Jvm.Cond.lays "java/lang/IndexOutOfBoundsException" "java/lang/Throwable" "depth" "I"), (Jvm.Cond.superclass "java/lang/IndexOutOfBoundsException" "java/lang/RuntimeException"), (Jvm.Cond.methodLink "DebtRows" (186 : Nat) ({ cls := "DebtRows$Debt", name := "personAt", desc := "(I)I" } : Jvm.MethodName)), (Jvm.Cond.instanceMethod ({ cls := "DebtRows$Debt", name := "personAt", desc := "(I)I" } : Jvm.MethodName)), (Jvm.Cond.selects "DebtRows$Debt" ({ cls := "DebtRows$Debt", name := "personAt", desc := "(I)I" } : Jvm.MethodName) ({ cls := "DebtRows$Debt", name := "personAt", desc := "(I)I" } : Jvm.MethodName)), (Jvm.Cond.code ({ cls := "DebtRows$Debt", name := "personAt", desc := "(I)I" } : Jvm.MethodName) prog_2_method_5_code (2 : Nat) (Option.some Jvm.ClassFile.FieldType.int)), (Jvm.Cond.classLink "DebtRowsLaw" (59 : Nat) "DebtRowsModel"), (Jvm.Cond.instantiable "DebtRowsModel" (23 : Nat)), (Jvm.Cond.methodLink "DebtRowsLaw" (61 : Nat) ({ cls := "DebtRowsModel", name := "<init>", desc := "()V" } : Jvm.MethodName)), (Jvm.Cond.instanceMethod ({ cls := "DebtRowsModel", name := "<init>", desc := "()V" } : Jvm.MethodName)), (Jvm.Cond.code ({ cls := "DebtRowsModel", name := "<init>", desc := "()V" } : Jvm.MethodName) prog_5_method_1_code (1 : Nat) (Option.none : Option Jvm.ClassFile.FieldType)), (Jvm.Cond.methodLink "DebtRowsModel" (1 : Nat) ({ cls := "java/lang/Object", name := "<init>", desc := "()V" } : Jvm.MethodName)), (Jvm.Cond.fieldLink "DebtRowsModel" (68 : Nat) "DebtRowsModel" "thrown" "I"), (Jvm.Cond.fieldLink "DebtRowsModel" (79 : Nat) "DebtRowsModel" "today" "I"), (Jvm.Cond.fieldLink "DebtRowsModel" (83 : Nat) "DebtRowsModel" "rates" "I"), (Jvm.Cond.fieldLink "DebtRowsModel" (7 : Nat) "DebtRowsModel" "from" "[I"), (Jvm.Cond.fieldLink "DebtRowsModel" (13 : Nat) "DebtRowsModel" "up" "[I"), (Jvm.Cond.fieldLink "DebtRowsModel" (16 : Nat) "DebtRowsModel" "down" "[I")]
def big_7 : List Cond := [(Jvm.Cond.fieldLink "DebtRowsModel" (72 : Nat) "DebtRowsModel" "debts" "I"), (Jvm.Cond.fieldLink "DebtRowsModel" (19 : Nat) "DebtRowsModel" "state" "[I"), (Jvm.Cond.fieldLink "DebtRowsModel" (22 : Nat) "DebtRowsModel" "born" "[I"), (Jvm.Cond.fieldLink "DebtRowsModel" (25 : Nat) "DebtRowsModel" "dueDay" "[I"), (Jvm.Cond.fieldLink "DebtRowsModel" (28 : Nat) "DebtRowsModel" "cents" "[J"), (Jvm.Cond.fieldLink "DebtRowsModel" (32 : Nat) "DebtRowsModel" "open" "[J"), (Jvm.Cond.fieldLink "DebtRowsModel" (35 : Nat) "DebtRowsModel" "lost" "[J"), (Jvm.Cond.fieldLink "DebtRowsModel" (38 : Nat) "DebtRowsModel" "fixed" "[J"), (Jvm.Cond.fieldLink "DebtRowsModel" (41 : Nat) "DebtRowsModel" "runsFrom" "[I"), (Jvm.Cond.fieldLink "DebtRowsModel" (44 : Nat) "DebtRowsModel" "interestPaid" "[J"), (Jvm.Cond.fieldLink "DebtRowsModel" (47 : Nat) "DebtRowsModel" "parts" "[I"), (Jvm.Cond.fieldLink "DebtRowsModel" (50 : Nat) "DebtRowsModel" "deferredOn" "[I"), (Jvm.Cond.fieldLink "DebtRowsModel" (53 : Nat) "DebtRowsModel" "deferred" "[J"), (Jvm.Cond.fieldLink "DebtRowsModel" (56 : Nat) "DebtRowsModel" "debtors" "[I"), (Jvm.Cond.fieldLink "DebtRowsModel" (59 : Nat) "DebtRowsModel" "debtor" "[I"), (Jvm.Cond.fieldLink "DebtRowsModel" (62 : Nat) "DebtRowsModel" "paidBy" "[J"), (Jvm.Cond.fieldLink "DebtRowsModel" (65 : Nat) "DebtRowsModel" "credit" "[J"), (Jvm.Cond.lays "DebtRowsModel" "DebtRowsModel" "thrown" "I"), (Jvm.Cond.lays "DebtRowsModel" "DebtRowsModel" "today" "I"), (Jvm.Cond.lays "DebtRowsModel" "DebtRowsModel" "rates" "I"), (Jvm.Cond.laysFinal "DebtRowsModel" "DebtRowsModel" "from" "[I"), (Jvm.Cond.laysFinal "DebtRowsModel" "DebtRowsModel" "up" "[I"), (Jvm.Cond.laysFinal "DebtRowsModel" "DebtRowsModel" "down" "[I"), (Jvm.Cond.lays "DebtRowsModel" "DebtRowsModel" "debts" "I"), (Jvm.Cond.laysFinal "DebtRowsModel" "DebtRowsModel" "state" "[I"), (Jvm.Cond.laysFinal "DebtRowsModel" "DebtRowsModel" "born" "[I"), (Jvm.Cond.laysFinal "DebtRowsModel" "DebtRowsModel" "dueDay" "[I"), (Jvm.Cond.laysFinal "DebtRowsModel" "DebtRowsModel" "cents" "[J"), (Jvm.Cond.laysFinal "DebtRowsModel" "DebtRowsModel" "open" "[J"), (Jvm.Cond.laysFinal "DebtRowsModel" "DebtRowsModel" "lost" "[J"), (Jvm.Cond.laysFinal "DebtRowsModel" "DebtRowsModel" "fixed" "[J"), (Jvm.Cond.laysFinal "DebtRowsModel" "DebtRowsModel" "runsFrom" "[I"), (Jvm.Cond.laysFinal "DebtRowsModel" "DebtRowsModel" "interestPaid" "[J"), (Jvm.Cond.laysFinal "DebtRowsModel" "DebtRowsModel" "parts" "[I"), (Jvm.Cond.laysFinal "DebtRowsModel" "DebtRowsModel" "deferredOn" "[I"), (Jvm.Cond.laysFinal "DebtRowsModel" "DebtRowsModel" "deferred" "[J"), (Jvm.Cond.laysFinal "DebtRowsModel" "DebtRowsModel" "debtors" "[I"), (Jvm.Cond.laysFinal "DebtRowsModel" "DebtRowsModel" "debtor" "[I"), (Jvm.Cond.laysFinal "DebtRowsModel" "DebtRowsModel" "paidBy" "[J"), (Jvm.Cond.laysFinal "DebtRowsModel" "DebtRowsModel" "credit" "[J"), (Jvm.Cond.superclass "DebtRowsModel" "java/lang/Object"), (Jvm.Cond.methodLink "DebtRowsLaw" (68 : Nat) ({ cls := "DebtRowsModel", name := "thrown", desc := "()I" } : Jvm.MethodName)), (Jvm.Cond.instanceMethod ({ cls := "DebtRowsModel", name := "thrown", desc := "()I" } : Jvm.MethodName)), (Jvm.Cond.selects "DebtRowsModel" ({ cls := "DebtRowsModel", name := "thrown", desc := "()I" } : Jvm.MethodName) ({ cls := "DebtRowsModel", name := "thrown", desc := "()I" } : Jvm.MethodName)), (Jvm.Cond.code ({ cls := "DebtRowsModel", name := "thrown", desc := "()I" } : Jvm.MethodName) prog_5_method_2_code (1 : Nat) (Option.some Jvm.ClassFile.FieldType.int)), (Jvm.Cond.methodLink "DebtRowsLaw" (67 : Nat) ({ cls := "DebtRowsModel", name := "rate", desc := "(III)I" } : Jvm.MethodName)), (Jvm.Cond.instanceMethod ({ cls := "DebtRowsModel", name := "rate", desc := "(III)I" } : Jvm.MethodName)), (Jvm.Cond.selects "DebtRowsModel" ({ cls := "DebtRowsModel", name := "rate", desc := "(III)I" } : Jvm.MethodName) ({ cls := "DebtRowsModel", name := "rate", desc := "(III)I" } : Jvm.MethodName)), (Jvm.Cond.code ({ cls := "DebtRowsModel", name := "rate", desc := "(III)I" } : Jvm.MethodName) prog_5_method_7_code (4 : Nat) (Option.some Jvm.ClassFile.FieldType.int)), (Jvm.Cond.methodLink "DebtRowsModel" (75 : Nat) ({ cls := "DebtRowsModel", name := "fails", desc := "(I)I" } : Jvm.MethodName)), (Jvm.Cond.instanceMethod ({ cls := "DebtRowsModel", name := "fails", desc := "(I)I" } : Jvm.MethodName)), (Jvm.Cond.code ({ cls := "DebtRowsModel", name := "fails", desc := "(I)I" } : Jvm.MethodName) prog_5_method_3_code (2 : Nat) (Option.some Jvm.ClassFile.FieldType.int)), (Jvm.Cond.constant "DebtRowsModel" (82 : Nat) (100000 : Int32)), (Jvm.Cond.methodLink "DebtRowsLaw" (77 : Nat) ({ cls := "DebtRowsModel", name := "debt", desc := "(JI)I" } : Jvm.MethodName)), (Jvm.Cond.instanceMethod ({ cls := "DebtRowsModel", name := "debt", desc := "(JI)I" } : Jvm.MethodName)), (Jvm.Cond.selects "DebtRowsModel" ({ cls := "DebtRowsModel", name := "debt", desc := "(JI)I" } : Jvm.MethodName) ({ cls := "DebtRowsModel", name := "debt", desc := "(JI)I" } : Jvm.MethodName)), (Jvm.Cond.code ({ cls := "DebtRowsModel", name := "debt", desc := "(JI)I" } : Jvm.MethodName) prog_5_method_8_code (4 : Nat) (Option.some Jvm.ClassFile.FieldType.int)), (Jvm.Cond.constantLong "DebtRowsModel" (86 : Nat) (1000000000 : Int64)), (Jvm.Cond.methodLink "DebtRowsModel" (88 : Nat) ({ cls := "DebtRowsModel", name := "in", desc := "(JJJ)Z" } : Jvm.MethodName)), (Jvm.Cond.static ({ cls := "DebtRowsModel", name := "in", desc := "(JJJ)Z" } : Jvm.MethodName))]
def big_8 : List Cond := [(Jvm.Cond.code ({ cls := "DebtRowsModel", name := "in", desc := "(JJJ)Z" } : Jvm.MethodName) prog_5_method_4_code (6 : Nat) (Option.some Jvm.ClassFile.FieldType.boolean)), (Jvm.Cond.methodLink "DebtRowsModel" (92 : Nat) ({ cls := "DebtRowsModel", name := "isPerson", desc := "(I)Z" } : Jvm.MethodName)), (Jvm.Cond.static ({ cls := "DebtRowsModel", name := "isPerson", desc := "(I)Z" } : Jvm.MethodName)), (Jvm.Cond.code ({ cls := "DebtRowsModel", name := "isPerson", desc := "(I)Z" } : Jvm.MethodName) prog_5_method_6_code (1 : Nat) (Option.some Jvm.ClassFile.FieldType.boolean)), (Jvm.Cond.methodLink "DebtRowsLaw" (82 : Nat) ({ cls := "DebtRowsModel", name := "debtor", desc := "(II)Z" } : Jvm.MethodName)), (Jvm.Cond.instanceMethod ({ cls := "DebtRowsModel", name := "debtor", desc := "(II)Z" } : Jvm.MethodName)), (Jvm.Cond.selects "DebtRowsModel" ({ cls := "DebtRowsModel", name := "debtor", desc := "(II)Z" } : Jvm.MethodName) ({ cls := "DebtRowsModel", name := "debtor", desc := "(II)Z" } : Jvm.MethodName)), (Jvm.Cond.code ({ cls := "DebtRowsModel", name := "debtor", desc := "(II)Z" } : Jvm.MethodName) prog_5_method_10_code (3 : Nat) (Option.some Jvm.ClassFile.FieldType.boolean)), (Jvm.Cond.methodLink "DebtRowsModel" (96 : Nat) ({ cls := "DebtRowsModel", name := "isDebt", desc := "(I)Z" } : Jvm.MethodName)), (Jvm.Cond.instanceMethod ({ cls := "DebtRowsModel", name := "isDebt", desc := "(I)Z" } : Jvm.MethodName)), (Jvm.Cond.code ({ cls := "DebtRowsModel", name := "isDebt", desc := "(I)Z" } : Jvm.MethodName) prog_5_method_5_code (2 : Nat) (Option.some Jvm.ClassFile.FieldType.boolean)), (Jvm.Cond.methodLink "DebtRowsModel" (99 : Nat) ({ cls := "DebtRowsModel", name := "debtorOf", desc := "(II)I" } : Jvm.MethodName)), (Jvm.Cond.instanceMethod ({ cls := "DebtRowsModel", name := "debtorOf", desc := "(II)I" } : Jvm.MethodName)), (Jvm.Cond.code ({ cls := "DebtRowsModel", name := "debtorOf", desc := "(II)I" } : Jvm.MethodName) prog_5_method_9_code (5 : Nat) (Option.some Jvm.ClassFile.FieldType.int)), (Jvm.Cond.methodLink "DebtRowsLaw" (86 : Nat) ({ cls := "DebtRowsModel", name := "notified", desc := "(I)I" } : Jvm.MethodName)), (Jvm.Cond.instanceMethod ({ cls := "DebtRowsModel", name := "notified", desc := "(I)I" } : Jvm.MethodName)), (Jvm.Cond.selects "DebtRowsModel" ({ cls := "DebtRowsModel", name := "notified", desc := "(I)I" } : Jvm.MethodName) ({ cls := "DebtRowsModel", name := "notified", desc := "(I)I" } : Jvm.MethodName)), (Jvm.Cond.code ({ cls := "DebtRowsModel", name := "notified", desc := "(I)I" } : Jvm.MethodName) prog_5_method_11_code (2 : Nat) (Option.some Jvm.ClassFile.FieldType.int)), (Jvm.Cond.methodLink "DebtRowsLaw" (90 : Nat) ({ cls := "DebtRowsModel", name := "pay", desc := "(IJ)I" } : Jvm.MethodName)), (Jvm.Cond.instanceMethod ({ cls := "DebtRowsModel", name := "pay", desc := "(IJ)I" } : Jvm.MethodName)), (Jvm.Cond.selects "DebtRowsModel" ({ cls := "DebtRowsModel", name := "pay", desc := "(IJ)I" } : Jvm.MethodName) ({ cls := "DebtRowsModel", name := "pay", desc := "(IJ)I" } : Jvm.MethodName)), (Jvm.Cond.code ({ cls := "DebtRowsModel", name := "pay", desc := "(IJ)I" } : Jvm.MethodName) prog_5_method_17_code (8 : Nat) (Option.some Jvm.ClassFile.FieldType.int)), (Jvm.Cond.methodLink "DebtRowsModel" (123 : Nat) ({ cls := "DebtRowsModel", name := "payOf", desc := "(IIJ)J" } : Jvm.MethodName)), (Jvm.Cond.instanceMethod ({ cls := "DebtRowsModel", name := "payOf", desc := "(IIJ)J" } : Jvm.MethodName)), (Jvm.Cond.code ({ cls := "DebtRowsModel", name := "payOf", desc := "(IIJ)J" } : Jvm.MethodName) prog_5_method_16_code (11 : Nat) (Option.some Jvm.ClassFile.FieldType.long)), (Jvm.Cond.methodLink "DebtRowsModel" (113 : Nat) ({ cls := "DebtRowsModel", name := "fix", desc := "(I)V" } : Jvm.MethodName)), (Jvm.Cond.instanceMethod ({ cls := "DebtRowsModel", name := "fix", desc := "(I)V" } : Jvm.MethodName)), (Jvm.Cond.code ({ cls := "DebtRowsModel", name := "fix", desc := "(I)V" } : Jvm.MethodName) prog_5_method_14_code (2 : Nat) (Option.none : Option Jvm.ClassFile.FieldType)), (Jvm.Cond.methodLink "DebtRowsModel" (109 : Nat) ({ cls := "DebtRowsModel", name := "running", desc := "(I)J" } : Jvm.MethodName)), (Jvm.Cond.instanceMethod ({ cls := "DebtRowsModel", name := "running", desc := "(I)J" } : Jvm.MethodName)), (Jvm.Cond.code ({ cls := "DebtRowsModel", name := "running", desc := "(I)J" } : Jvm.MethodName) prog_5_method_13_code (5 : Nat) (Option.some Jvm.ClassFile.FieldType.long)), (Jvm.Cond.methodLink "DebtRowsModel" (103 : Nat) ({ cls := "DebtRowsModel", name := "daysOf", desc := "(III)J" } : Jvm.MethodName)), (Jvm.Cond.instanceMethod ({ cls := "DebtRowsModel", name := "daysOf", desc := "(III)J" } : Jvm.MethodName)), (Jvm.Cond.code ({ cls := "DebtRowsModel", name := "daysOf", desc := "(III)J" } : Jvm.MethodName) prog_5_method_12_code (6 : Nat) (Option.some Jvm.ClassFile.FieldType.long)), (Jvm.Cond.constantLong "DebtRowsModel" (107 : Nat) (365 : Int64)), (Jvm.Cond.constantLong "DebtRowsModel" (117 : Nat) (10 : Int64)), (Jvm.Cond.methodLink "DebtRowsModel" (119 : Nat) ({ cls := "DebtRowsModel", name := "lose", desc := "(II)J" } : Jvm.MethodName)), (Jvm.Cond.instanceMethod ({ cls := "DebtRowsModel", name := "lose", desc := "(II)J" } : Jvm.MethodName)), (Jvm.Cond.code ({ cls := "DebtRowsModel", name := "lose", desc := "(II)J" } : Jvm.MethodName) prog_5_method_15_code (5 : Nat) (Option.some Jvm.ClassFile.FieldType.long)), (Jvm.Cond.methodLink "DebtRowsLaw" (94 : Nat) ({ cls := "DebtRowsModel", name := "instalments", desc := "(II)I" } : Jvm.MethodName)), (Jvm.Cond.instanceMethod ({ cls := "DebtRowsModel", name := "instalments", desc := "(II)I" } : Jvm.MethodName)), (Jvm.Cond.selects "DebtRowsModel" ({ cls := "DebtRowsModel", name := "instalments", desc := "(II)I" } : Jvm.MethodName) ({ cls := "DebtRowsModel", name := "instalments", desc := "(II)I" } : Jvm.MethodName)), (Jvm.Cond.code ({ cls := "DebtRowsModel", name := "instalments", desc := "(II)I" } : Jvm.MethodName) prog_5_method_18_code (3 : Nat) (Option.some Jvm.ClassFile.FieldType.int)), (Jvm.Cond.constantLong "DebtRowsModel" (127 : Nat) (2 : Int64)), (Jvm.Cond.constantLong "DebtRowsModel" (129 : Nat) (12 : Int64)), (Jvm.Cond.methodLink "DebtRowsLaw" (97 : Nat) ({ cls := "DebtRowsModel", name := "appeal", desc := "(I)I" } : Jvm.MethodName)), (Jvm.Cond.instanceMethod ({ cls := "DebtRowsModel", name := "appeal", desc := "(I)I" } : Jvm.MethodName)), (Jvm.Cond.selects "DebtRowsModel" ({ cls := "DebtRowsModel", name := "appeal", desc := "(I)I" } : Jvm.MethodName) ({ cls := "DebtRowsModel", name := "appeal", desc := "(I)I" } : Jvm.MethodName)), (Jvm.Cond.code ({ cls := "DebtRowsModel", name := "appeal", desc := "(I)I" } : Jvm.MethodName) prog_5_method_19_code (2 : Nat) (Option.some Jvm.ClassFile.FieldType.int)), (Jvm.Cond.methodLink "DebtRowsLaw" (101 : Nat) ({ cls := "DebtRowsModel", name := "decide", desc := "(IZ)J" } : Jvm.MethodName)), (Jvm.Cond.instanceMethod ({ cls := "DebtRowsModel", name := "decide", desc := "(IZ)J" } : Jvm.MethodName)), (Jvm.Cond.selects "DebtRowsModel" ({ cls := "DebtRowsModel", name := "decide", desc := "(IZ)J" } : Jvm.MethodName) ({ cls := "DebtRowsModel", name := "decide", desc := "(IZ)J" } : Jvm.MethodName)), (Jvm.Cond.code ({ cls := "DebtRowsModel", name := "decide", desc := "(IZ)J" } : Jvm.MethodName) prog_5_method_21_code (3 : Nat) (Option.some Jvm.ClassFile.FieldType.long)), (Jvm.Cond.constantLong "DebtRowsModel" (131 : Nat) (-1 : Int64)), (Jvm.Cond.methodLink "DebtRowsModel" (133 : Nat) ({ cls := "DebtRowsModel", name := "again", desc := "(II)V" } : Jvm.MethodName)), (Jvm.Cond.instanceMethod ({ cls := "DebtRowsModel", name := "again", desc := "(II)V" } : Jvm.MethodName)), (Jvm.Cond.code ({ cls := "DebtRowsModel", name := "again", desc := "(II)V" } : Jvm.MethodName) prog_5_method_20_code (3 : Nat) (Option.none : Option Jvm.ClassFile.FieldType)), (Jvm.Cond.methodLink "DebtRowsLaw" (104 : Nat) ({ cls := "DebtRowsModel", name := "tick", desc := "(I)I" } : Jvm.MethodName)), (Jvm.Cond.instanceMethod ({ cls := "DebtRowsModel", name := "tick", desc := "(I)I" } : Jvm.MethodName)), (Jvm.Cond.selects "DebtRowsModel" ({ cls := "DebtRowsModel", name := "tick", desc := "(I)I" } : Jvm.MethodName) ({ cls := "DebtRowsModel", name := "tick", desc := "(I)I" } : Jvm.MethodName))]
def big_9 : List Cond := [(Jvm.Cond.code ({ cls := "DebtRowsModel", name := "tick", desc := "(I)I" } : Jvm.MethodName) prog_5_method_23_code (6 : Nat) (Option.some Jvm.ClassFile.FieldType.int)), (Jvm.Cond.constantLong "DebtRowsModel" (138 : Nat) (100000 : Int64)), (Jvm.Cond.methodLink "DebtRowsModel" (140 : Nat) ({ cls := "DebtRowsModel", name := "missedOn", desc := "(I)I" } : Jvm.MethodName)), (Jvm.Cond.instanceMethod ({ cls := "DebtRowsModel", name := "missedOn", desc := "(I)I" } : Jvm.MethodName)), (Jvm.Cond.code ({ cls := "DebtRowsModel", name := "missedOn", desc := "(I)I" } : Jvm.MethodName) prog_5_method_22_code (3 : Nat) (Option.some Jvm.ClassFile.FieldType.int)), (Jvm.Cond.constant "DebtRowsModel" (137 : Nat) (100001 : Int32)), (Jvm.Cond.methodLink "DebtRowsLaw" (107 : Nat) ({ cls := "DebtRowsModel", name := "due", desc := "(II)J" } : Jvm.MethodName)), (Jvm.Cond.instanceMethod ({ cls := "DebtRowsModel", name := "due", desc := "(II)J" } : Jvm.MethodName)), (Jvm.Cond.selects "DebtRowsModel" ({ cls := "DebtRowsModel", name := "due", desc := "(II)J" } : Jvm.MethodName) ({ cls := "DebtRowsModel", name := "due", desc := "(II)J" } : Jvm.MethodName)), (Jvm.Cond.code ({ cls := "DebtRowsModel", name := "due", desc := "(II)J" } : Jvm.MethodName) prog_5_method_24_code (3 : Nat) (Option.some Jvm.ClassFile.FieldType.long)), (Jvm.Cond.constantLong "DebtRowsModel" (143 : Nat) (4 : Int64)), (Jvm.Cond.methodLink "DebtRowsLaw" (110 : Nat) ({ cls := "DebtRowsModel", name := "recourse", desc := "(III)J" } : Jvm.MethodName)), (Jvm.Cond.instanceMethod ({ cls := "DebtRowsModel", name := "recourse", desc := "(III)J" } : Jvm.MethodName)), (Jvm.Cond.selects "DebtRowsModel" ({ cls := "DebtRowsModel", name := "recourse", desc := "(III)J" } : Jvm.MethodName) ({ cls := "DebtRowsModel", name := "recourse", desc := "(III)J" } : Jvm.MethodName)), (Jvm.Cond.code ({ cls := "DebtRowsModel", name := "recourse", desc := "(III)J" } : Jvm.MethodName) prog_5_method_25_code (9 : Nat) (Option.some Jvm.ClassFile.FieldType.long)), (Jvm.Cond.methodLink "DebtRowsLaw" (113 : Nat) ({ cls := "DebtRowsModel", name := "look", desc := "(II)I" } : Jvm.MethodName)), (Jvm.Cond.instanceMethod ({ cls := "DebtRowsModel", name := "look", desc := "(II)I" } : Jvm.MethodName)), (Jvm.Cond.selects "DebtRowsModel" ({ cls := "DebtRowsModel", name := "look", desc := "(II)I" } : Jvm.MethodName) ({ cls := "DebtRowsModel", name := "look", desc := "(II)I" } : Jvm.MethodName)), (Jvm.Cond.code ({ cls := "DebtRowsModel", name := "look", desc := "(II)I" } : Jvm.MethodName) prog_5_method_26_code (3 : Nat) (Option.some Jvm.ClassFile.FieldType.int)), (Jvm.Cond.methodLink "DebtRowsLaw" (118 : Nat) ({ cls := "DebtRowsModel", name := "sum", desc := "(I)J" } : Jvm.MethodName)), (Jvm.Cond.instanceMethod ({ cls := "DebtRowsModel", name := "sum", desc := "(I)J" } : Jvm.MethodName)), (Jvm.Cond.selects "DebtRowsModel" ({ cls := "DebtRowsModel", name := "sum", desc := "(I)J" } : Jvm.MethodName) ({ cls := "DebtRowsModel", name := "sum", desc := "(I)J" } : Jvm.MethodName)), (Jvm.Cond.code ({ cls := "DebtRowsModel", name := "sum", desc := "(I)J" } : Jvm.MethodName) prog_5_method_27_code (14 : Nat) (Option.some Jvm.ClassFile.FieldType.long)), (Jvm.Cond.constantLong "DebtRowsLaw" (72 : Nat) (4294967295 : Int64)), (Jvm.Cond.sameMethod "java/lang/Throwable" "java/lang/Throwable" "fillInStackTrace" "(I)Ljava/lang/Throwable;")]
def BIG : List Cond := big_0 ++ (big_1 ++ (big_2 ++ (big_3 ++ (big_4 ++ (big_5 ++ (big_6 ++ (big_7 ++ (big_8 ++ (big_9)))))))))
theorem big_good : BIG.all goodWord = true := by decide +kernel
theorem inb_D : ∀ w ∈ u_ws R_D F_D 15, w ∈ BIG := by decide +kernel
theorem in_D (x : Cond) : ∀ w ∈ u_ws R_D F_D 15, w ∈ x :: BIG := fun w h => List.mem_cons_of_mem _ (inb_D w h)
theorem inb_S : ∀ w ∈ u_ws R_S F_S 4, w ∈ BIG := by decide +kernel
theorem in_S (x : Cond) : ∀ w ∈ u_ws R_S F_S 4, w ∈ x :: BIG := fun w h => List.mem_cons_of_mem _ (inb_S w h)
theorem inb_X : ∀ w ∈ u_ws R_X F_X 5, w ∈ BIG := by decide +kernel
theorem in_X (x : Cond) : ∀ w ∈ u_ws R_X F_X 5, w ∈ x :: BIG := fun w h => List.mem_cons_of_mem _ (inb_X w h)
theorem inb_M : ∀ w ∈ u_ws R_M F_M 23, w ∈ BIG := by decide +kernel
theorem in_M (x : Cond) : ∀ w ∈ u_ws R_M F_M 23, w ∈ x :: BIG := fun w h => List.mem_cons_of_mem _ (inb_M w h)
theorem gw {x w : Cond} (h : w ∈ BIG) : w ∈ x :: BIG ∧ ((w.onTables && w.keeps) = true ∨ ∃ ty, w = .arrayClass ty) := ⟨List.mem_cons_of_mem _ h, good_of_word (List.all_eq_true.mp big_good w h)⟩
theorem gI (x : Cond) {y : MethodName} {c : ByteArray} {n : Nat} {r : Option FieldType} (h : Cond.code y c n r ∈ BIG) : GoodIn (x :: BIG) (.code y c n r :: BIG) := fun w hw => (List.mem_cons.mp hw).elim (fun e => e ▸ gw h) gw
theorem gV (x : Cond) {own C : String} {i : Nat} {y : MethodName} {c : ByteArray} {n : Nat} {r : Option FieldType} (h1 : Cond.methodLink own i y ∈ BIG) (h2 : Cond.instanceMethod y ∈ BIG) (h3 : Cond.selects C y y ∈ BIG) (h4 : Cond.initialized C ∈ BIG) (h : Cond.code y c n r ∈ BIG) : GoodIn (x :: BIG) (wsV own i C y (.code y c n r :: BIG)) := by
  intro w hw
  rcases List.mem_append.mp hw with hw | hw
  · simp only [List.mem_cons, List.not_mem_nil, or_false] at hw
    rcases hw with rfl | rfl | rfl | rfl
    · exact gw h1
    · exact gw h2
    · exact gw h3
    · exact gw h4
  · exact gI x h w hw
theorem gS (x : Cond) {own : String} {i : Nat} {y : MethodName} {c : ByteArray} {n : Nat} {r : Option FieldType} (h1 : Cond.methodLink own i y ∈ BIG) (h2 : Cond.static y ∈ BIG) (h4 : Cond.initialized own ∈ BIG) (h : Cond.code y c n r ∈ BIG) : GoodIn (x :: BIG) (wsS own i y (.code y c n r :: BIG)) := by
  intro w hw
  rcases List.mem_append.mp hw with hw | hw
  · simp only [List.mem_cons, List.not_mem_nil, or_false] at hw
    rcases hw with rfl | rfl | rfl
    · exact gw h1
    · exact gw h2
    · exact gw h4
  · exact gI x h w hw
theorem mC_obj : Cond.code objectInit ⟨#[0xb1]⟩ 1 none ∈ BIG := List.mem_of_getElem? (i := 34) rfl
theorem mC_max : Cond.code Lib.Math.max.name Lib.Math.max.code 2 (some .int) ∈ BIG := List.mem_of_getElem? (i := 267) rfl
theorem mC_min : Cond.code Lib.Math.min.name Lib.Math.min.code 2 (some .int) ∈ BIG := List.mem_of_getElem? (i := 294) rfl
theorem mC_lmax : Cond.code Lib.MathLoose.max_long.x Lib.MathLoose.max_long.code 4 (some .long) ∈ BIG := List.mem_of_getElem? (i := 382) rfl
theorem mC_lmin : Cond.code Lib.MathLoose.min_long.x Lib.MathLoose.min_long.code 4 (some .long) ∈ BIG := List.mem_of_getElem? (i := 306) rfl
end
section
abbrev b_D_init : ByteArray := prog_2_method_1_code
def y_D_init : MethodName := ⟨R_D, "<init>", "(JI)V"⟩
def w_D_init : List Cond := .code y_D_init b_D_init 4 none :: BIG
theorem d_D_init_0 : decode b_D_init 0 = .ok (.aload_n 0, 1) := by decide +kernel
theorem d_D_init_1 : decode b_D_init 1 = .ok (.invokespecial 3, 3) := by decide +kernel
theorem d_D_init_4 : decode b_D_init 4 = .ok (.aload_n 0, 1) := by decide +kernel
theorem d_D_init_5 : decode b_D_init 5 = .ok (.lload_n 1, 1) := by decide +kernel
theorem d_D_init_6 : decode b_D_init 6 = .ok (.putfield 9, 3) := by decide +kernel
theorem d_D_init_9 : decode b_D_init 9 = .ok (.aload_n 0, 1) := by decide +kernel
theorem d_D_init_10 : decode b_D_init 10 = .ok (.iload_n 3, 1) := by decide +kernel
theorem d_D_init_11 : decode b_D_init 11 = .ok (.putfield 15, 3) := by decide +kernel
theorem d_D_init_14 : decode b_D_init 14 = .ok (.aload_n 0, 1) := by decide +kernel
theorem d_D_init_15 : decode b_D_init 15 = .ok (.iconst 4, 1) := by decide +kernel
theorem d_D_init_16 : decode b_D_init 16 = .ok (.newarray .int, 2) := by decide +kernel
theorem d_D_init_18 : decode b_D_init 18 = .ok (.putfield 19, 3) := by decide +kernel
theorem d_D_init_21 : decode b_D_init 21 = .ok (.aload_n 0, 1) := by decide +kernel
theorem d_D_init_22 : decode b_D_init 22 = .ok (.iconst 4, 1) := by decide +kernel
theorem d_D_init_23 : decode b_D_init 23 = .ok (.newarray .long, 2) := by decide +kernel
theorem d_D_init_25 : decode b_D_init 25 = .ok (.putfield 23, 3) := by decide +kernel
theorem d_D_init_28 : decode b_D_init 28 = .ok (.aload_n 0, 1) := by decide +kernel
theorem d_D_init_29 : decode b_D_init 29 = .ok (.iconst 0, 1) := by decide +kernel
theorem d_D_init_30 : decode b_D_init 30 = .ok (.putfield 27, 3) := by decide +kernel
theorem d_D_init_33 : decode b_D_init 33 = .ok (.aload_n 0, 1) := by decide +kernel
theorem d_D_init_34 : decode b_D_init 34 = .ok (.iconst (-1), 1) := by decide +kernel
theorem d_D_init_35 : decode b_D_init 35 = .ok (.putfield 30, 3) := by decide +kernel
theorem d_D_init_38 : decode b_D_init 38 = .ok (.aload_n 0, 1) := by decide +kernel
theorem d_D_init_39 : decode b_D_init 39 = .ok (.lload_n 1, 1) := by decide +kernel
theorem d_D_init_40 : decode b_D_init 40 = .ok (.putfield 33, 3) := by decide +kernel
theorem d_D_init_43 : decode b_D_init 43 = .ok (.return_, 1) := by decide +kernel
abbrev b_D_join : ByteArray := prog_2_method_2_code
def y_D_join : MethodName := ⟨R_D, "join", "(I)Z"⟩
def w_D_join : List Cond := .code y_D_join b_D_join 2 (some .boolean) :: BIG
theorem d_D_join_0 : decode b_D_join 0 = .ok (.aload_n 0, 1) := by decide +kernel
theorem d_D_join_1 : decode b_D_join 1 = .ok (.getfield 36, 3) := by decide +kernel
theorem d_D_join_4 : decode b_D_join 4 = .ok (.iconst 4, 1) := by decide +kernel
theorem d_D_join_5 : decode b_D_join 5 = .ok (.if_icmp .ge 12, 3) := by decide +kernel
theorem d_D_join_8 : decode b_D_join 8 = .ok (.aload_n 0, 1) := by decide +kernel
theorem d_D_join_9 : decode b_D_join 9 = .ok (.iload_n 1, 1) := by decide +kernel
theorem d_D_join_10 : decode b_D_join 10 = .ok (.invokevirtual 39, 3) := by decide +kernel
theorem d_D_join_13 : decode b_D_join 13 = .ok (.iconst (-1), 1) := by decide +kernel
theorem d_D_join_14 : decode b_D_join 14 = .ok (.if_icmp .eq 5, 3) := by decide +kernel
theorem d_D_join_17 : decode b_D_join 17 = .ok (.iconst 0, 1) := by decide +kernel
theorem d_D_join_18 : decode b_D_join 18 = .ok (.ireturn, 1) := by decide +kernel
theorem d_D_join_19 : decode b_D_join 19 = .ok (.aload_n 0, 1) := by decide +kernel
theorem d_D_join_20 : decode b_D_join 20 = .ok (.getfield 19, 3) := by decide +kernel
theorem d_D_join_23 : decode b_D_join 23 = .ok (.aload_n 0, 1) := by decide +kernel
theorem d_D_join_24 : decode b_D_join 24 = .ok (.getfield 36, 3) := by decide +kernel
theorem d_D_join_27 : decode b_D_join 27 = .ok (.iload_n 1, 1) := by decide +kernel
theorem d_D_join_28 : decode b_D_join 28 = .ok (.iastore, 1) := by decide +kernel
theorem d_D_join_29 : decode b_D_join 29 = .ok (.aload_n 0, 1) := by decide +kernel
theorem d_D_join_30 : decode b_D_join 30 = .ok (.dup, 1) := by decide +kernel
theorem d_D_join_31 : decode b_D_join 31 = .ok (.getfield 36, 3) := by decide +kernel
theorem d_D_join_34 : decode b_D_join 34 = .ok (.iconst 1, 1) := by decide +kernel
theorem d_D_join_35 : decode b_D_join 35 = .ok (.iadd, 1) := by decide +kernel
theorem d_D_join_36 : decode b_D_join 36 = .ok (.putfield 36, 3) := by decide +kernel
theorem d_D_join_39 : decode b_D_join 39 = .ok (.iconst 1, 1) := by decide +kernel
theorem d_D_join_40 : decode b_D_join 40 = .ok (.ireturn, 1) := by decide +kernel
abbrev b_D_placeOf : ByteArray := prog_2_method_3_code
def y_D_placeOf : MethodName := ⟨R_D, "placeOf", "(I)I"⟩
def w_D_placeOf : List Cond := .code y_D_placeOf b_D_placeOf 3 (some .int) :: BIG
theorem d_D_placeOf_0 : decode b_D_placeOf 0 = .ok (.iconst 0, 1) := by decide +kernel
theorem d_D_placeOf_1 : decode b_D_placeOf 1 = .ok (.istore_n 2, 1) := by decide +kernel
theorem d_D_placeOf_2 : decode b_D_placeOf 2 = .ok (.iload_n 2, 1) := by decide +kernel
theorem d_D_placeOf_3 : decode b_D_placeOf 3 = .ok (.aload_n 0, 1) := by decide +kernel
theorem d_D_placeOf_4 : decode b_D_placeOf 4 = .ok (.getfield 36, 3) := by decide +kernel
theorem d_D_placeOf_7 : decode b_D_placeOf 7 = .ok (.if_icmp .ge 21, 3) := by decide +kernel
theorem d_D_placeOf_10 : decode b_D_placeOf 10 = .ok (.aload_n 0, 1) := by decide +kernel
theorem d_D_placeOf_11 : decode b_D_placeOf 11 = .ok (.getfield 19, 3) := by decide +kernel
theorem d_D_placeOf_14 : decode b_D_placeOf 14 = .ok (.iload_n 2, 1) := by decide +kernel
theorem d_D_placeOf_15 : decode b_D_placeOf 15 = .ok (.iaload, 1) := by decide +kernel
theorem d_D_placeOf_16 : decode b_D_placeOf 16 = .ok (.iload_n 1, 1) := by decide +kernel
theorem d_D_placeOf_17 : decode b_D_placeOf 17 = .ok (.if_icmp .ne 5, 3) := by decide +kernel
theorem d_D_placeOf_20 : decode b_D_placeOf 20 = .ok (.iload_n 2, 1) := by decide +kernel
theorem d_D_placeOf_21 : decode b_D_placeOf 21 = .ok (.ireturn, 1) := by decide +kernel
theorem d_D_placeOf_22 : decode b_D_placeOf 22 = .ok (.iinc 2 1, 3) := by decide +kernel
theorem d_D_placeOf_25 : decode b_D_placeOf 25 = .ok (.goto (-23), 3) := by decide +kernel
theorem d_D_placeOf_28 : decode b_D_placeOf 28 = .ok (.iconst (-1), 1) := by decide +kernel
theorem d_D_placeOf_29 : decode b_D_placeOf 29 = .ok (.ireturn, 1) := by decide +kernel
abbrev b_D_hasPlace : ByteArray := prog_2_method_4_code
def y_D_hasPlace : MethodName := ⟨R_D, "hasPlace", "(I)Z"⟩
def w_D_hasPlace : List Cond := .code y_D_hasPlace b_D_hasPlace 2 (some .boolean) :: BIG
theorem d_D_hasPlace_0 : decode b_D_hasPlace 0 = .ok (.iload_n 1, 1) := by decide +kernel
theorem d_D_hasPlace_1 : decode b_D_hasPlace 1 = .ok (.ifCond .lt 15, 3) := by decide +kernel
theorem d_D_hasPlace_4 : decode b_D_hasPlace 4 = .ok (.iload_n 1, 1) := by decide +kernel
theorem d_D_hasPlace_5 : decode b_D_hasPlace 5 = .ok (.aload_n 0, 1) := by decide +kernel
theorem d_D_hasPlace_6 : decode b_D_hasPlace 6 = .ok (.getfield 36, 3) := by decide +kernel
theorem d_D_hasPlace_9 : decode b_D_hasPlace 9 = .ok (.if_icmp .ge 7, 3) := by decide +kernel
theorem d_D_hasPlace_12 : decode b_D_hasPlace 12 = .ok (.iconst 1, 1) := by decide +kernel
theorem d_D_hasPlace_13 : decode b_D_hasPlace 13 = .ok (.goto 4, 3) := by decide +kernel
theorem d_D_hasPlace_16 : decode b_D_hasPlace 16 = .ok (.iconst 0, 1) := by decide +kernel
theorem d_D_hasPlace_17 : decode b_D_hasPlace 17 = .ok (.ireturn, 1) := by decide +kernel
abbrev b_D_personAt : ByteArray := prog_2_method_5_code
def y_D_personAt : MethodName := ⟨R_D, "personAt", "(I)I"⟩
def w_D_personAt : List Cond := .code y_D_personAt b_D_personAt 2 (some .int) :: BIG
theorem d_D_personAt_0 : decode b_D_personAt 0 = .ok (.aload_n 0, 1) := by decide +kernel
theorem d_D_personAt_1 : decode b_D_personAt 1 = .ok (.iload_n 1, 1) := by decide +kernel
theorem d_D_personAt_2 : decode b_D_personAt 2 = .ok (.invokevirtual 43, 3) := by decide +kernel
theorem d_D_personAt_5 : decode b_D_personAt 5 = .ok (.ifCond .eq 12, 3) := by decide +kernel
theorem d_D_personAt_8 : decode b_D_personAt 8 = .ok (.aload_n 0, 1) := by decide +kernel
theorem d_D_personAt_9 : decode b_D_personAt 9 = .ok (.getfield 19, 3) := by decide +kernel
theorem d_D_personAt_12 : decode b_D_personAt 12 = .ok (.iload_n 1, 1) := by decide +kernel
theorem d_D_personAt_13 : decode b_D_personAt 13 = .ok (.iaload, 1) := by decide +kernel
theorem d_D_personAt_14 : decode b_D_personAt 14 = .ok (.goto 4, 3) := by decide +kernel
theorem d_D_personAt_17 : decode b_D_personAt 17 = .ok (.iconst (-1), 1) := by decide +kernel
theorem d_D_personAt_18 : decode b_D_personAt 18 = .ok (.ireturn, 1) := by decide +kernel
abbrev b_D_paidBy : ByteArray := prog_2_method_6_code
def y_D_paidBy : MethodName := ⟨R_D, "paidBy", "(I)J"⟩
def w_D_paidBy : List Cond := .code y_D_paidBy b_D_paidBy 2 (some .long) :: BIG
theorem d_D_paidBy_0 : decode b_D_paidBy 0 = .ok (.aload_n 0, 1) := by decide +kernel
theorem d_D_paidBy_1 : decode b_D_paidBy 1 = .ok (.iload_n 1, 1) := by decide +kernel
theorem d_D_paidBy_2 : decode b_D_paidBy 2 = .ok (.invokevirtual 43, 3) := by decide +kernel
theorem d_D_paidBy_5 : decode b_D_paidBy 5 = .ok (.ifCond .eq 12, 3) := by decide +kernel
theorem d_D_paidBy_8 : decode b_D_paidBy 8 = .ok (.aload_n 0, 1) := by decide +kernel
theorem d_D_paidBy_9 : decode b_D_paidBy 9 = .ok (.getfield 23, 3) := by decide +kernel
theorem d_D_paidBy_12 : decode b_D_paidBy 12 = .ok (.iload_n 1, 1) := by decide +kernel
theorem d_D_paidBy_13 : decode b_D_paidBy 13 = .ok (.laload, 1) := by decide +kernel
theorem d_D_paidBy_14 : decode b_D_paidBy 14 = .ok (.goto 4, 3) := by decide +kernel
theorem d_D_paidBy_17 : decode b_D_paidBy 17 = .ok (.lconst 0, 1) := by decide +kernel
theorem d_D_paidBy_18 : decode b_D_paidBy 18 = .ok (.lreturn, 1) := by decide +kernel
abbrev b_D_shareOf : ByteArray := prog_2_method_7_code
def y_D_shareOf : MethodName := ⟨R_D, "shareOf", "(I)J"⟩
def w_D_shareOf : List Cond := .code y_D_shareOf b_D_shareOf 2 (some .long) :: BIG
theorem d_D_shareOf_0 : decode b_D_shareOf 0 = .ok (.aload_n 0, 1) := by decide +kernel
theorem d_D_shareOf_1 : decode b_D_shareOf 1 = .ok (.getfield 36, 3) := by decide +kernel
theorem d_D_shareOf_4 : decode b_D_shareOf 4 = .ok (.iconst 1, 1) := by decide +kernel
theorem d_D_shareOf_5 : decode b_D_shareOf 5 = .ok (.if_icmp .ge 5, 3) := by decide +kernel
theorem d_D_shareOf_8 : decode b_D_shareOf 8 = .ok (.lconst 0, 1) := by decide +kernel
theorem d_D_shareOf_9 : decode b_D_shareOf 9 = .ok (.lreturn, 1) := by decide +kernel
theorem d_D_shareOf_10 : decode b_D_shareOf 10 = .ok (.aload_n 0, 1) := by decide +kernel
theorem d_D_shareOf_11 : decode b_D_shareOf 11 = .ok (.getfield 9, 3) := by decide +kernel
theorem d_D_shareOf_14 : decode b_D_shareOf 14 = .ok (.aload_n 0, 1) := by decide +kernel
theorem d_D_shareOf_15 : decode b_D_shareOf 15 = .ok (.getfield 36, 3) := by decide +kernel
theorem d_D_shareOf_18 : decode b_D_shareOf 18 = .ok (.i2l, 1) := by decide +kernel
theorem d_D_shareOf_19 : decode b_D_shareOf 19 = .ok (.ldiv, 1) := by decide +kernel
theorem d_D_shareOf_20 : decode b_D_shareOf 20 = .ok (.iload_n 1, 1) := by decide +kernel
theorem d_D_shareOf_21 : decode b_D_shareOf 21 = .ok (.i2l, 1) := by decide +kernel
theorem d_D_shareOf_22 : decode b_D_shareOf 22 = .ok (.aload_n 0, 1) := by decide +kernel
theorem d_D_shareOf_23 : decode b_D_shareOf 23 = .ok (.getfield 9, 3) := by decide +kernel
theorem d_D_shareOf_26 : decode b_D_shareOf 26 = .ok (.aload_n 0, 1) := by decide +kernel
theorem d_D_shareOf_27 : decode b_D_shareOf 27 = .ok (.getfield 36, 3) := by decide +kernel
theorem d_D_shareOf_30 : decode b_D_shareOf 30 = .ok (.i2l, 1) := by decide +kernel
theorem d_D_shareOf_31 : decode b_D_shareOf 31 = .ok (.lrem, 1) := by decide +kernel
theorem d_D_shareOf_32 : decode b_D_shareOf 32 = .ok (.lcmp, 1) := by decide +kernel
theorem d_D_shareOf_33 : decode b_D_shareOf 33 = .ok (.ifCond .ge 7, 3) := by decide +kernel
theorem d_D_shareOf_36 : decode b_D_shareOf 36 = .ok (.iconst 1, 1) := by decide +kernel
theorem d_D_shareOf_37 : decode b_D_shareOf 37 = .ok (.goto 4, 3) := by decide +kernel
theorem d_D_shareOf_40 : decode b_D_shareOf 40 = .ok (.iconst 0, 1) := by decide +kernel
theorem d_D_shareOf_41 : decode b_D_shareOf 41 = .ok (.i2l, 1) := by decide +kernel
theorem d_D_shareOf_42 : decode b_D_shareOf 42 = .ok (.ladd, 1) := by decide +kernel
theorem d_D_shareOf_43 : decode b_D_shareOf 43 = .ok (.lreturn, 1) := by decide +kernel
abbrev b_D_isPayable : ByteArray := prog_2_method_8_code
def y_D_isPayable : MethodName := ⟨R_D, "isPayable", "()Z"⟩
def w_D_isPayable : List Cond := .code y_D_isPayable b_D_isPayable 1 (some .boolean) :: BIG
theorem d_D_isPayable_0 : decode b_D_isPayable 0 = .ok (.aload_n 0, 1) := by decide +kernel
theorem d_D_isPayable_1 : decode b_D_isPayable 1 = .ok (.getfield 27, 3) := by decide +kernel
theorem d_D_isPayable_4 : decode b_D_isPayable 4 = .ok (.iconst 1, 1) := by decide +kernel
theorem d_D_isPayable_5 : decode b_D_isPayable 5 = .ok (.if_icmp .eq 11, 3) := by decide +kernel
theorem d_D_isPayable_8 : decode b_D_isPayable 8 = .ok (.aload_n 0, 1) := by decide +kernel
theorem d_D_isPayable_9 : decode b_D_isPayable 9 = .ok (.getfield 27, 3) := by decide +kernel
theorem d_D_isPayable_12 : decode b_D_isPayable 12 = .ok (.iconst 2, 1) := by decide +kernel
theorem d_D_isPayable_13 : decode b_D_isPayable 13 = .ok (.if_icmp .ne 7, 3) := by decide +kernel
theorem d_D_isPayable_16 : decode b_D_isPayable 16 = .ok (.iconst 1, 1) := by decide +kernel
theorem d_D_isPayable_17 : decode b_D_isPayable 17 = .ok (.goto 4, 3) := by decide +kernel
theorem d_D_isPayable_20 : decode b_D_isPayable 20 = .ok (.iconst 0, 1) := by decide +kernel
theorem d_D_isPayable_21 : decode b_D_isPayable 21 = .ok (.ireturn, 1) := by decide +kernel
abbrev b_D_isTooLate : ByteArray := prog_2_method_9_code
def y_D_isTooLate : MethodName := ⟨R_D, "isTooLate", "(I)Z"⟩
def w_D_isTooLate : List Cond := .code y_D_isTooLate b_D_isTooLate 2 (some .boolean) :: BIG
theorem d_D_isTooLate_0 : decode b_D_isTooLate 0 = .ok (.iload_n 1, 1) := by decide +kernel
theorem d_D_isTooLate_1 : decode b_D_isTooLate 1 = .ok (.aload_n 0, 1) := by decide +kernel
theorem d_D_isTooLate_2 : decode b_D_isTooLate 2 = .ok (.getfield 15, 3) := by decide +kernel
theorem d_D_isTooLate_5 : decode b_D_isTooLate 5 = .ok (.isub, 1) := by decide +kernel
theorem d_D_isTooLate_6 : decode b_D_isTooLate 6 = .ok (.sipush 1095, 3) := by decide +kernel
theorem d_D_isTooLate_9 : decode b_D_isTooLate 9 = .ok (.if_icmp .le 7, 3) := by decide +kernel
theorem d_D_isTooLate_12 : decode b_D_isTooLate 12 = .ok (.iconst 1, 1) := by decide +kernel
theorem d_D_isTooLate_13 : decode b_D_isTooLate 13 = .ok (.goto 4, 3) := by decide +kernel
theorem d_D_isTooLate_16 : decode b_D_isTooLate 16 = .ok (.iconst 0, 1) := by decide +kernel
theorem d_D_isTooLate_17 : decode b_D_isTooLate 17 = .ok (.ireturn, 1) := by decide +kernel
abbrev b_D_runAgain : ByteArray := prog_2_method_10_code
def y_D_runAgain : MethodName := ⟨R_D, "runAgain", "(I)V"⟩
def w_D_runAgain : List Cond := .code y_D_runAgain b_D_runAgain 2 none :: BIG
theorem d_D_runAgain_0 : decode b_D_runAgain 0 = .ok (.aload_n 0, 1) := by decide +kernel
theorem d_D_runAgain_1 : decode b_D_runAgain 1 = .ok (.iconst 1, 1) := by decide +kernel
theorem d_D_runAgain_2 : decode b_D_runAgain 2 = .ok (.putfield 27, 3) := by decide +kernel
theorem d_D_runAgain_5 : decode b_D_runAgain 5 = .ok (.aload_n 0, 1) := by decide +kernel
theorem d_D_runAgain_6 : decode b_D_runAgain 6 = .ok (.aload_n 0, 1) := by decide +kernel
theorem d_D_runAgain_7 : decode b_D_runAgain 7 = .ok (.getfield 30, 3) := by decide +kernel
theorem d_D_runAgain_10 : decode b_D_runAgain 10 = .ok (.iload_n 1, 1) := by decide +kernel
theorem d_D_runAgain_11 : decode b_D_runAgain 11 = .ok (.invokestatic 47, 3) := by decide +kernel
theorem d_D_runAgain_14 : decode b_D_runAgain 14 = .ok (.putfield 53, 3) := by decide +kernel
theorem d_D_runAgain_17 : decode b_D_runAgain 17 = .ok (.return_, 1) := by decide +kernel
abbrev b_D_runningInterest : ByteArray := prog_2_method_11_code
def y_D_runningInterest : MethodName := ⟨R_D, "runningInterest", "(LDebtRows$Rates;I)J"⟩
def w_D_runningInterest : List Cond := .code y_D_runningInterest b_D_runningInterest 3 (some .long) :: BIG
theorem d_D_runningInterest_0 : decode b_D_runningInterest 0 = .ok (.aload_n 0, 1) := by decide +kernel
theorem d_D_runningInterest_1 : decode b_D_runningInterest 1 = .ok (.getfield 27, 3) := by decide +kernel
theorem d_D_runningInterest_4 : decode b_D_runningInterest 4 = .ok (.iconst 1, 1) := by decide +kernel
theorem d_D_runningInterest_5 : decode b_D_runningInterest 5 = .ok (.if_icmp .ne 19, 3) := by decide +kernel
theorem d_D_runningInterest_8 : decode b_D_runningInterest 8 = .ok (.aload_n 1, 1) := by decide +kernel
theorem d_D_runningInterest_9 : decode b_D_runningInterest 9 = .ok (.aload_n 0, 1) := by decide +kernel
theorem d_D_runningInterest_10 : decode b_D_runningInterest 10 = .ok (.getfield 33, 3) := by decide +kernel
theorem d_D_runningInterest_13 : decode b_D_runningInterest 13 = .ok (.aload_n 0, 1) := by decide +kernel
theorem d_D_runningInterest_14 : decode b_D_runningInterest 14 = .ok (.getfield 53, 3) := by decide +kernel
theorem d_D_runningInterest_17 : decode b_D_runningInterest 17 = .ok (.iload_n 2, 1) := by decide +kernel
theorem d_D_runningInterest_18 : decode b_D_runningInterest 18 = .ok (.invokevirtual 56, 3) := by decide +kernel
theorem d_D_runningInterest_21 : decode b_D_runningInterest 21 = .ok (.goto 4, 3) := by decide +kernel
theorem d_D_runningInterest_24 : decode b_D_runningInterest 24 = .ok (.lconst 0, 1) := by decide +kernel
theorem d_D_runningInterest_25 : decode b_D_runningInterest 25 = .ok (.lreturn, 1) := by decide +kernel
abbrev b_D_fixInterest : ByteArray := prog_2_method_12_code
def y_D_fixInterest : MethodName := ⟨R_D, "fixInterest", "(LDebtRows$Rates;I)V"⟩
def w_D_fixInterest : List Cond := .code y_D_fixInterest b_D_fixInterest 3 none :: BIG
theorem d_D_fixInterest_0 : decode b_D_fixInterest 0 = .ok (.aload_n 0, 1) := by decide +kernel
theorem d_D_fixInterest_1 : decode b_D_fixInterest 1 = .ok (.dup, 1) := by decide +kernel
theorem d_D_fixInterest_2 : decode b_D_fixInterest 2 = .ok (.getfield 62, 3) := by decide +kernel
theorem d_D_fixInterest_5 : decode b_D_fixInterest 5 = .ok (.aload_n 0, 1) := by decide +kernel
theorem d_D_fixInterest_6 : decode b_D_fixInterest 6 = .ok (.aload_n 1, 1) := by decide +kernel
theorem d_D_fixInterest_7 : decode b_D_fixInterest 7 = .ok (.iload_n 2, 1) := by decide +kernel
theorem d_D_fixInterest_8 : decode b_D_fixInterest 8 = .ok (.invokevirtual 65, 3) := by decide +kernel
theorem d_D_fixInterest_11 : decode b_D_fixInterest 11 = .ok (.ladd, 1) := by decide +kernel
theorem d_D_fixInterest_12 : decode b_D_fixInterest 12 = .ok (.putfield 62, 3) := by decide +kernel
theorem d_D_fixInterest_15 : decode b_D_fixInterest 15 = .ok (.aload_n 0, 1) := by decide +kernel
theorem d_D_fixInterest_16 : decode b_D_fixInterest 16 = .ok (.aload_n 0, 1) := by decide +kernel
theorem d_D_fixInterest_17 : decode b_D_fixInterest 17 = .ok (.getfield 53, 3) := by decide +kernel
theorem d_D_fixInterest_20 : decode b_D_fixInterest 20 = .ok (.iload_n 2, 1) := by decide +kernel
theorem d_D_fixInterest_21 : decode b_D_fixInterest 21 = .ok (.invokestatic 47, 3) := by decide +kernel
theorem d_D_fixInterest_24 : decode b_D_fixInterest 24 = .ok (.putfield 53, 3) := by decide +kernel
theorem d_D_fixInterest_27 : decode b_D_fixInterest 27 = .ok (.return_, 1) := by decide +kernel
abbrev b_D_take : ByteArray := prog_2_method_13_code
def y_D_take : MethodName := ⟨R_D, "take", "(IJ)J"⟩
def w_D_take : List Cond := .code y_D_take b_D_take 8 (some .long) :: BIG
theorem d_D_take_0 : decode b_D_take 0 = .ok (.aload_n 0, 1) := by decide +kernel
theorem d_D_take_1 : decode b_D_take 1 = .ok (.iload_n 1, 1) := by decide +kernel
theorem d_D_take_2 : decode b_D_take 2 = .ok (.invokevirtual 43, 3) := by decide +kernel
theorem d_D_take_5 : decode b_D_take 5 = .ok (.ifCond .ne 5, 3) := by decide +kernel
theorem d_D_take_8 : decode b_D_take 8 = .ok (.lconst 0, 1) := by decide +kernel
theorem d_D_take_9 : decode b_D_take 9 = .ok (.lreturn, 1) := by decide +kernel
theorem d_D_take_10 : decode b_D_take 10 = .ok (.lload_n 2, 1) := by decide +kernel
theorem d_D_take_11 : decode b_D_take 11 = .ok (.aload_n 0, 1) := by decide +kernel
theorem d_D_take_12 : decode b_D_take 12 = .ok (.getfield 62, 3) := by decide +kernel
theorem d_D_take_15 : decode b_D_take 15 = .ok (.invokestatic 69, 3) := by decide +kernel
theorem d_D_take_18 : decode b_D_take 18 = .ok (.lstore 4, 2) := by decide +kernel
theorem d_D_take_20 : decode b_D_take 20 = .ok (.lload_n 2, 1) := by decide +kernel
theorem d_D_take_21 : decode b_D_take 21 = .ok (.lload 4, 2) := by decide +kernel
theorem d_D_take_23 : decode b_D_take 23 = .ok (.lsub, 1) := by decide +kernel
theorem d_D_take_24 : decode b_D_take 24 = .ok (.aload_n 0, 1) := by decide +kernel
theorem d_D_take_25 : decode b_D_take 25 = .ok (.getfield 33, 3) := by decide +kernel
theorem d_D_take_28 : decode b_D_take 28 = .ok (.invokestatic 69, 3) := by decide +kernel
theorem d_D_take_31 : decode b_D_take 31 = .ok (.lstore 6, 2) := by decide +kernel
theorem d_D_take_33 : decode b_D_take 33 = .ok (.aload_n 0, 1) := by decide +kernel
theorem d_D_take_34 : decode b_D_take 34 = .ok (.dup, 1) := by decide +kernel
theorem d_D_take_35 : decode b_D_take 35 = .ok (.getfield 62, 3) := by decide +kernel
theorem d_D_take_38 : decode b_D_take 38 = .ok (.lload 4, 2) := by decide +kernel
theorem d_D_take_40 : decode b_D_take 40 = .ok (.lsub, 1) := by decide +kernel
theorem d_D_take_41 : decode b_D_take 41 = .ok (.putfield 62, 3) := by decide +kernel
theorem d_D_take_44 : decode b_D_take 44 = .ok (.aload_n 0, 1) := by decide +kernel
theorem d_D_take_45 : decode b_D_take 45 = .ok (.dup, 1) := by decide +kernel
theorem d_D_take_46 : decode b_D_take 46 = .ok (.getfield 73, 3) := by decide +kernel
theorem d_D_take_49 : decode b_D_take 49 = .ok (.lload 4, 2) := by decide +kernel
theorem d_D_take_51 : decode b_D_take 51 = .ok (.ladd, 1) := by decide +kernel
theorem d_D_take_52 : decode b_D_take 52 = .ok (.putfield 73, 3) := by decide +kernel
theorem d_D_take_55 : decode b_D_take 55 = .ok (.aload_n 0, 1) := by decide +kernel
theorem d_D_take_56 : decode b_D_take 56 = .ok (.dup, 1) := by decide +kernel
theorem d_D_take_57 : decode b_D_take 57 = .ok (.getfield 33, 3) := by decide +kernel
theorem d_D_take_60 : decode b_D_take 60 = .ok (.lload 6, 2) := by decide +kernel
theorem d_D_take_62 : decode b_D_take 62 = .ok (.lsub, 1) := by decide +kernel
theorem d_D_take_63 : decode b_D_take 63 = .ok (.putfield 33, 3) := by decide +kernel
theorem d_D_take_66 : decode b_D_take 66 = .ok (.aload_n 0, 1) := by decide +kernel
theorem d_D_take_67 : decode b_D_take 67 = .ok (.getfield 23, 3) := by decide +kernel
theorem d_D_take_70 : decode b_D_take 70 = .ok (.iload_n 1, 1) := by decide +kernel
theorem d_D_take_71 : decode b_D_take 71 = .ok (.dup2, 1) := by decide +kernel
theorem d_D_take_72 : decode b_D_take 72 = .ok (.laload, 1) := by decide +kernel
theorem d_D_take_73 : decode b_D_take 73 = .ok (.lload 6, 2) := by decide +kernel
theorem d_D_take_75 : decode b_D_take 75 = .ok (.ladd, 1) := by decide +kernel
theorem d_D_take_76 : decode b_D_take 76 = .ok (.lastore, 1) := by decide +kernel
theorem d_D_take_77 : decode b_D_take 77 = .ok (.aload_n 0, 1) := by decide +kernel
theorem d_D_take_78 : decode b_D_take 78 = .ok (.invokevirtual 76, 3) := by decide +kernel
theorem d_D_take_81 : decode b_D_take 81 = .ok (.lload 4, 2) := by decide +kernel
theorem d_D_take_83 : decode b_D_take 83 = .ok (.lload 6, 2) := by decide +kernel
theorem d_D_take_85 : decode b_D_take 85 = .ok (.ladd, 1) := by decide +kernel
theorem d_D_take_86 : decode b_D_take 86 = .ok (.lreturn, 1) := by decide +kernel
abbrev b_D_settle : ByteArray := prog_2_method_14_code
def y_D_settle : MethodName := ⟨R_D, "settle", "()V"⟩
def w_D_settle : List Cond := .code y_D_settle b_D_settle 1 none :: BIG
theorem d_D_settle_0 : decode b_D_settle 0 = .ok (.aload_n 0, 1) := by decide +kernel
theorem d_D_settle_1 : decode b_D_settle 1 = .ok (.getfield 62, 3) := by decide +kernel
theorem d_D_settle_4 : decode b_D_settle 4 = .ok (.lconst 0, 1) := by decide +kernel
theorem d_D_settle_5 : decode b_D_settle 5 = .ok (.lcmp, 1) := by decide +kernel
theorem d_D_settle_6 : decode b_D_settle 6 = .ok (.ifCond .gt 14, 3) := by decide +kernel
theorem d_D_settle_9 : decode b_D_settle 9 = .ok (.aload_n 0, 1) := by decide +kernel
theorem d_D_settle_10 : decode b_D_settle 10 = .ok (.getfield 33, 3) := by decide +kernel
theorem d_D_settle_13 : decode b_D_settle 13 = .ok (.ldc2_w 79, 3) := by decide +kernel
theorem d_D_settle_16 : decode b_D_settle 16 = .ok (.lcmp, 1) := by decide +kernel
theorem d_D_settle_17 : decode b_D_settle 17 = .ok (.ifCond .le 4, 3) := by decide +kernel
theorem d_D_settle_20 : decode b_D_settle 20 = .ok (.return_, 1) := by decide +kernel
theorem d_D_settle_21 : decode b_D_settle 21 = .ok (.aload_n 0, 1) := by decide +kernel
theorem d_D_settle_22 : decode b_D_settle 22 = .ok (.getfield 33, 3) := by decide +kernel
theorem d_D_settle_25 : decode b_D_settle 25 = .ok (.lconst 0, 1) := by decide +kernel
theorem d_D_settle_26 : decode b_D_settle 26 = .ok (.lcmp, 1) := by decide +kernel
theorem d_D_settle_27 : decode b_D_settle 27 = .ok (.ifCond .ne 11, 3) := by decide +kernel
theorem d_D_settle_30 : decode b_D_settle 30 = .ok (.aload_n 0, 1) := by decide +kernel
theorem d_D_settle_31 : decode b_D_settle 31 = .ok (.iconst 4, 1) := by decide +kernel
theorem d_D_settle_32 : decode b_D_settle 32 = .ok (.putfield 27, 3) := by decide +kernel
theorem d_D_settle_35 : decode b_D_settle 35 = .ok (.goto 9, 3) := by decide +kernel
theorem d_D_settle_38 : decode b_D_settle 38 = .ok (.aload_n 0, 1) := by decide +kernel
theorem d_D_settle_39 : decode b_D_settle 39 = .ok (.bipush 7, 2) := by decide +kernel
theorem d_D_settle_41 : decode b_D_settle 41 = .ok (.invokevirtual 81, 3) := by decide +kernel
theorem d_D_settle_44 : decode b_D_settle 44 = .ok (.return_, 1) := by decide +kernel
abbrev b_D_lose : ByteArray := prog_2_method_15_code
def y_D_lose : MethodName := ⟨R_D, "lose", "(I)V"⟩
def w_D_lose : List Cond := .code y_D_lose b_D_lose 2 none :: BIG
theorem d_D_lose_0 : decode b_D_lose 0 = .ok (.aload_n 0, 1) := by decide +kernel
theorem d_D_lose_1 : decode b_D_lose 1 = .ok (.iload_n 1, 1) := by decide +kernel
theorem d_D_lose_2 : decode b_D_lose 2 = .ok (.putfield 27, 3) := by decide +kernel
theorem d_D_lose_5 : decode b_D_lose 5 = .ok (.aload_n 0, 1) := by decide +kernel
theorem d_D_lose_6 : decode b_D_lose 6 = .ok (.aload_n 0, 1) := by decide +kernel
theorem d_D_lose_7 : decode b_D_lose 7 = .ok (.getfield 33, 3) := by decide +kernel
theorem d_D_lose_10 : decode b_D_lose 10 = .ok (.putfield 85, 3) := by decide +kernel
theorem d_D_lose_13 : decode b_D_lose 13 = .ok (.aload_n 0, 1) := by decide +kernel
theorem d_D_lose_14 : decode b_D_lose 14 = .ok (.lconst 0, 1) := by decide +kernel
theorem d_D_lose_15 : decode b_D_lose 15 = .ok (.putfield 33, 3) := by decide +kernel
theorem d_D_lose_18 : decode b_D_lose 18 = .ok (.return_, 1) := by decide +kernel
abbrev b_D_defer : ByteArray := prog_2_method_16_code
def y_D_defer : MethodName := ⟨R_D, "defer", "(II)V"⟩
def w_D_defer : List Cond := .code y_D_defer b_D_defer 3 none :: BIG
theorem d_D_defer_0 : decode b_D_defer 0 = .ok (.aload_n 0, 1) := by decide +kernel
theorem d_D_defer_1 : decode b_D_defer 1 = .ok (.iconst 2, 1) := by decide +kernel
theorem d_D_defer_2 : decode b_D_defer 2 = .ok (.putfield 27, 3) := by decide +kernel
theorem d_D_defer_5 : decode b_D_defer 5 = .ok (.aload_n 0, 1) := by decide +kernel
theorem d_D_defer_6 : decode b_D_defer 6 = .ok (.iload_n 1, 1) := by decide +kernel
theorem d_D_defer_7 : decode b_D_defer 7 = .ok (.putfield 88, 3) := by decide +kernel
theorem d_D_defer_10 : decode b_D_defer 10 = .ok (.aload_n 0, 1) := by decide +kernel
theorem d_D_defer_11 : decode b_D_defer 11 = .ok (.iload_n 2, 1) := by decide +kernel
theorem d_D_defer_12 : decode b_D_defer 12 = .ok (.putfield 91, 3) := by decide +kernel
theorem d_D_defer_15 : decode b_D_defer 15 = .ok (.aload_n 0, 1) := by decide +kernel
theorem d_D_defer_16 : decode b_D_defer 16 = .ok (.aload_n 0, 1) := by decide +kernel
theorem d_D_defer_17 : decode b_D_defer 17 = .ok (.getfield 33, 3) := by decide +kernel
theorem d_D_defer_20 : decode b_D_defer 20 = .ok (.putfield 94, 3) := by decide +kernel
theorem d_D_defer_23 : decode b_D_defer 23 = .ok (.return_, 1) := by decide +kernel
abbrev b_D_endsBy : ByteArray := prog_2_method_17_code
def y_D_endsBy : MethodName := ⟨R_D, "endsBy", "(I)Z"⟩
def w_D_endsBy : List Cond := .code y_D_endsBy b_D_endsBy 3 (some .boolean) :: BIG
theorem d_D_endsBy_0 : decode b_D_endsBy 0 = .ok (.aload_n 0, 1) := by decide +kernel
theorem d_D_endsBy_1 : decode b_D_endsBy 1 = .ok (.getfield 27, 3) := by decide +kernel
theorem d_D_endsBy_4 : decode b_D_endsBy 4 = .ok (.ifCond .ne 19, 3) := by decide +kernel
theorem d_D_endsBy_7 : decode b_D_endsBy 7 = .ok (.aload_n 0, 1) := by decide +kernel
theorem d_D_endsBy_8 : decode b_D_endsBy 8 = .ok (.iload_n 1, 1) := by decide +kernel
theorem d_D_endsBy_9 : decode b_D_endsBy 9 = .ok (.invokevirtual 97, 3) := by decide +kernel
theorem d_D_endsBy_12 : decode b_D_endsBy 12 = .ok (.ifCond .eq 11, 3) := by decide +kernel
theorem d_D_endsBy_15 : decode b_D_endsBy 15 = .ok (.aload_n 0, 1) := by decide +kernel
theorem d_D_endsBy_16 : decode b_D_endsBy 16 = .ok (.bipush 6, 2) := by decide +kernel
theorem d_D_endsBy_18 : decode b_D_endsBy 18 = .ok (.invokevirtual 81, 3) := by decide +kernel
theorem d_D_endsBy_21 : decode b_D_endsBy 21 = .ok (.iconst 1, 1) := by decide +kernel
theorem d_D_endsBy_22 : decode b_D_endsBy 22 = .ok (.ireturn, 1) := by decide +kernel
theorem d_D_endsBy_23 : decode b_D_endsBy 23 = .ok (.aload_n 0, 1) := by decide +kernel
theorem d_D_endsBy_24 : decode b_D_endsBy 24 = .ok (.getfield 27, 3) := by decide +kernel
theorem d_D_endsBy_27 : decode b_D_endsBy 27 = .ok (.iconst 2, 1) := by decide +kernel
theorem d_D_endsBy_28 : decode b_D_endsBy 28 = .ok (.if_icmp .eq 5, 3) := by decide +kernel
theorem d_D_endsBy_31 : decode b_D_endsBy 31 = .ok (.iconst 0, 1) := by decide +kernel
theorem d_D_endsBy_32 : decode b_D_endsBy 32 = .ok (.ireturn, 1) := by decide +kernel
theorem d_D_endsBy_33 : decode b_D_endsBy 33 = .ok (.aload_n 0, 1) := by decide +kernel
theorem d_D_endsBy_34 : decode b_D_endsBy 34 = .ok (.invokevirtual 100, 3) := by decide +kernel
theorem d_D_endsBy_37 : decode b_D_endsBy 37 = .ok (.istore_n 2, 1) := by decide +kernel
theorem d_D_endsBy_38 : decode b_D_endsBy 38 = .ok (.iload_n 2, 1) := by decide +kernel
theorem d_D_endsBy_39 : decode b_D_endsBy 39 = .ok (.iload_n 1, 1) := by decide +kernel
theorem d_D_endsBy_40 : decode b_D_endsBy 40 = .ok (.if_icmp .lt 5, 3) := by decide +kernel
theorem d_D_endsBy_43 : decode b_D_endsBy 43 = .ok (.iconst 0, 1) := by decide +kernel
theorem d_D_endsBy_44 : decode b_D_endsBy 44 = .ok (.ireturn, 1) := by decide +kernel
theorem d_D_endsBy_45 : decode b_D_endsBy 45 = .ok (.aload_n 0, 1) := by decide +kernel
theorem d_D_endsBy_46 : decode b_D_endsBy 46 = .ok (.iload_n 2, 1) := by decide +kernel
theorem d_D_endsBy_47 : decode b_D_endsBy 47 = .ok (.iconst 1, 1) := by decide +kernel
theorem d_D_endsBy_48 : decode b_D_endsBy 48 = .ok (.iadd, 1) := by decide +kernel
theorem d_D_endsBy_49 : decode b_D_endsBy 49 = .ok (.invokevirtual 104, 3) := by decide +kernel
theorem d_D_endsBy_52 : decode b_D_endsBy 52 = .ok (.iconst 1, 1) := by decide +kernel
theorem d_D_endsBy_53 : decode b_D_endsBy 53 = .ok (.ireturn, 1) := by decide +kernel
abbrev b_D_firstMissedDay : ByteArray := prog_2_method_18_code
def y_D_firstMissedDay : MethodName := ⟨R_D, "firstMissedDay", "()I"⟩
def w_D_firstMissedDay : List Cond := .code y_D_firstMissedDay b_D_firstMissedDay 2 (some .int) :: BIG
theorem d_D_firstMissedDay_0 : decode b_D_firstMissedDay 0 = .ok (.iconst 1, 1) := by decide +kernel
theorem d_D_firstMissedDay_1 : decode b_D_firstMissedDay 1 = .ok (.istore_n 1, 1) := by decide +kernel
theorem d_D_firstMissedDay_2 : decode b_D_firstMissedDay 2 = .ok (.iload_n 1, 1) := by decide +kernel
theorem d_D_firstMissedDay_3 : decode b_D_firstMissedDay 3 = .ok (.aload_n 0, 1) := by decide +kernel
theorem d_D_firstMissedDay_4 : decode b_D_firstMissedDay 4 = .ok (.getfield 91, 3) := by decide +kernel
theorem d_D_firstMissedDay_7 : decode b_D_firstMissedDay 7 = .ok (.if_icmp .ge 22, 3) := by decide +kernel
theorem d_D_firstMissedDay_10 : decode b_D_firstMissedDay 10 = .ok (.aload_n 0, 1) := by decide +kernel
theorem d_D_firstMissedDay_11 : decode b_D_firstMissedDay 11 = .ok (.getfield 33, 3) := by decide +kernel
theorem d_D_firstMissedDay_14 : decode b_D_firstMissedDay 14 = .ok (.aload_n 0, 1) := by decide +kernel
theorem d_D_firstMissedDay_15 : decode b_D_firstMissedDay 15 = .ok (.iload_n 1, 1) := by decide +kernel
theorem d_D_firstMissedDay_16 : decode b_D_firstMissedDay 16 = .ok (.invokevirtual 107, 3) := by decide +kernel
theorem d_D_firstMissedDay_19 : decode b_D_firstMissedDay 19 = .ok (.lcmp, 1) := by decide +kernel
theorem d_D_firstMissedDay_20 : decode b_D_firstMissedDay 20 = .ok (.ifCond .gt 9, 3) := by decide +kernel
theorem d_D_firstMissedDay_23 : decode b_D_firstMissedDay 23 = .ok (.iinc 1 1, 3) := by decide +kernel
theorem d_D_firstMissedDay_26 : decode b_D_firstMissedDay 26 = .ok (.goto (-24), 3) := by decide +kernel
theorem d_D_firstMissedDay_29 : decode b_D_firstMissedDay 29 = .ok (.aload_n 0, 1) := by decide +kernel
theorem d_D_firstMissedDay_30 : decode b_D_firstMissedDay 30 = .ok (.getfield 88, 3) := by decide +kernel
theorem d_D_firstMissedDay_33 : decode b_D_firstMissedDay 33 = .ok (.bipush 30, 2) := by decide +kernel
theorem d_D_firstMissedDay_35 : decode b_D_firstMissedDay 35 = .ok (.iload_n 1, 1) := by decide +kernel
theorem d_D_firstMissedDay_36 : decode b_D_firstMissedDay 36 = .ok (.imul, 1) := by decide +kernel
theorem d_D_firstMissedDay_37 : decode b_D_firstMissedDay 37 = .ok (.iadd, 1) := by decide +kernel
theorem d_D_firstMissedDay_38 : decode b_D_firstMissedDay 38 = .ok (.ireturn, 1) := by decide +kernel
abbrev b_D_mayBeOpen : ByteArray := prog_2_method_19_code
def y_D_mayBeOpen : MethodName := ⟨R_D, "mayBeOpen", "(I)J"⟩
def w_D_mayBeOpen : List Cond := .code y_D_mayBeOpen b_D_mayBeOpen 2 (some .long) :: BIG
theorem d_D_mayBeOpen_0 : decode b_D_mayBeOpen 0 = .ok (.aload_n 0, 1) := by decide +kernel
theorem d_D_mayBeOpen_1 : decode b_D_mayBeOpen 1 = .ok (.getfield 91, 3) := by decide +kernel
theorem d_D_mayBeOpen_4 : decode b_D_mayBeOpen 4 = .ok (.iconst 1, 1) := by decide +kernel
theorem d_D_mayBeOpen_5 : decode b_D_mayBeOpen 5 = .ok (.if_icmp .ge 7, 3) := by decide +kernel
theorem d_D_mayBeOpen_8 : decode b_D_mayBeOpen 8 = .ok (.lconst 0, 1) := by decide +kernel
theorem d_D_mayBeOpen_9 : decode b_D_mayBeOpen 9 = .ok (.goto 21, 3) := by decide +kernel
theorem d_D_mayBeOpen_12 : decode b_D_mayBeOpen 12 = .ok (.aload_n 0, 1) := by decide +kernel
theorem d_D_mayBeOpen_13 : decode b_D_mayBeOpen 13 = .ok (.getfield 94, 3) := by decide +kernel
theorem d_D_mayBeOpen_16 : decode b_D_mayBeOpen 16 = .ok (.aload_n 0, 1) := by decide +kernel
theorem d_D_mayBeOpen_17 : decode b_D_mayBeOpen 17 = .ok (.getfield 91, 3) := by decide +kernel
theorem d_D_mayBeOpen_20 : decode b_D_mayBeOpen 20 = .ok (.iload_n 1, 1) := by decide +kernel
theorem d_D_mayBeOpen_21 : decode b_D_mayBeOpen 21 = .ok (.isub, 1) := by decide +kernel
theorem d_D_mayBeOpen_22 : decode b_D_mayBeOpen 22 = .ok (.i2l, 1) := by decide +kernel
theorem d_D_mayBeOpen_23 : decode b_D_mayBeOpen 23 = .ok (.lmul, 1) := by decide +kernel
theorem d_D_mayBeOpen_24 : decode b_D_mayBeOpen 24 = .ok (.aload_n 0, 1) := by decide +kernel
theorem d_D_mayBeOpen_25 : decode b_D_mayBeOpen 25 = .ok (.getfield 91, 3) := by decide +kernel
theorem d_D_mayBeOpen_28 : decode b_D_mayBeOpen 28 = .ok (.i2l, 1) := by decide +kernel
theorem d_D_mayBeOpen_29 : decode b_D_mayBeOpen 29 = .ok (.ldiv, 1) := by decide +kernel
theorem d_D_mayBeOpen_30 : decode b_D_mayBeOpen 30 = .ok (.lreturn, 1) := by decide +kernel
abbrev b_D_part : ByteArray := prog_2_method_20_code
def y_D_part : MethodName := ⟨R_D, "part", "(I)J"⟩
def w_D_part : List Cond := .code y_D_part b_D_part 2 (some .long) :: BIG
theorem d_D_part_0 : decode b_D_part 0 = .ok (.iload_n 1, 1) := by decide +kernel
theorem d_D_part_1 : decode b_D_part 1 = .ok (.tableswitch 61 0 3 #[31, 36, 41, 56], 31) := by decide +kernel
theorem d_D_part_32 : decode b_D_part 32 = .ok (.aload_n 0, 1) := by decide +kernel
theorem d_D_part_33 : decode b_D_part 33 = .ok (.getfield 9, 3) := by decide +kernel
theorem d_D_part_36 : decode b_D_part 36 = .ok (.lreturn, 1) := by decide +kernel
theorem d_D_part_37 : decode b_D_part 37 = .ok (.aload_n 0, 1) := by decide +kernel
theorem d_D_part_38 : decode b_D_part 38 = .ok (.getfield 33, 3) := by decide +kernel
theorem d_D_part_41 : decode b_D_part 41 = .ok (.lreturn, 1) := by decide +kernel
theorem d_D_part_42 : decode b_D_part 42 = .ok (.aload_n 0, 1) := by decide +kernel
theorem d_D_part_43 : decode b_D_part 43 = .ok (.getfield 9, 3) := by decide +kernel
theorem d_D_part_46 : decode b_D_part 46 = .ok (.aload_n 0, 1) := by decide +kernel
theorem d_D_part_47 : decode b_D_part 47 = .ok (.getfield 33, 3) := by decide +kernel
theorem d_D_part_50 : decode b_D_part 50 = .ok (.lsub, 1) := by decide +kernel
theorem d_D_part_51 : decode b_D_part 51 = .ok (.aload_n 0, 1) := by decide +kernel
theorem d_D_part_52 : decode b_D_part 52 = .ok (.getfield 85, 3) := by decide +kernel
theorem d_D_part_55 : decode b_D_part 55 = .ok (.lsub, 1) := by decide +kernel
theorem d_D_part_56 : decode b_D_part 56 = .ok (.lreturn, 1) := by decide +kernel
theorem d_D_part_57 : decode b_D_part 57 = .ok (.aload_n 0, 1) := by decide +kernel
theorem d_D_part_58 : decode b_D_part 58 = .ok (.getfield 85, 3) := by decide +kernel
theorem d_D_part_61 : decode b_D_part 61 = .ok (.lreturn, 1) := by decide +kernel
theorem d_D_part_62 : decode b_D_part 62 = .ok (.aload_n 0, 1) := by decide +kernel
theorem d_D_part_63 : decode b_D_part 63 = .ok (.getfield 73, 3) := by decide +kernel
theorem d_D_part_66 : decode b_D_part 66 = .ok (.lreturn, 1) := by decide +kernel
abbrev b_S_init : ByteArray := prog_3_method_1_code
def y_S_init : MethodName := ⟨R_S, "<init>", "()V"⟩
def w_S_init : List Cond := .code y_S_init b_S_init 1 none :: BIG
theorem d_S_init_0 : decode b_S_init 0 = .ok (.aload_n 0, 1) := by decide +kernel
theorem d_S_init_1 : decode b_S_init 1 = .ok (.invokespecial 3, 3) := by decide +kernel
theorem d_S_init_4 : decode b_S_init 4 = .ok (.aload_n 0, 1) := by decide +kernel
theorem d_S_init_5 : decode b_S_init 5 = .ok (.bipush 20, 2) := by decide +kernel
theorem d_S_init_7 : decode b_S_init 7 = .ok (.newarray .int, 2) := by decide +kernel
theorem d_S_init_9 : decode b_S_init 9 = .ok (.putfield 9, 3) := by decide +kernel
theorem d_S_init_12 : decode b_S_init 12 = .ok (.aload_n 0, 1) := by decide +kernel
theorem d_S_init_13 : decode b_S_init 13 = .ok (.bipush 20, 2) := by decide +kernel
theorem d_S_init_15 : decode b_S_init 15 = .ok (.newarray .int, 2) := by decide +kernel
theorem d_S_init_17 : decode b_S_init 17 = .ok (.putfield 15, 3) := by decide +kernel
theorem d_S_init_20 : decode b_S_init 20 = .ok (.aload_n 0, 1) := by decide +kernel
theorem d_S_init_21 : decode b_S_init 21 = .ok (.bipush 20, 2) := by decide +kernel
theorem d_S_init_23 : decode b_S_init 23 = .ok (.newarray .int, 2) := by decide +kernel
theorem d_S_init_25 : decode b_S_init 25 = .ok (.putfield 18, 3) := by decide +kernel
theorem d_S_init_28 : decode b_S_init 28 = .ok (.aload_n 0, 1) := by decide +kernel
theorem d_S_init_29 : decode b_S_init 29 = .ok (.iconst 0, 1) := by decide +kernel
theorem d_S_init_30 : decode b_S_init 30 = .ok (.putfield 21, 3) := by decide +kernel
theorem d_S_init_33 : decode b_S_init 33 = .ok (.return_, 1) := by decide +kernel
abbrev b_S_latestDay : ByteArray := prog_3_method_2_code
def y_S_latestDay : MethodName := ⟨R_S, "latestDay", "()I"⟩
def w_S_latestDay : List Cond := .code y_S_latestDay b_S_latestDay 1 (some .int) :: BIG
theorem d_S_latestDay_0 : decode b_S_latestDay 0 = .ok (.aload_n 0, 1) := by decide +kernel
theorem d_S_latestDay_1 : decode b_S_latestDay 1 = .ok (.getfield 21, 3) := by decide +kernel
theorem d_S_latestDay_4 : decode b_S_latestDay 4 = .ok (.iconst 1, 1) := by decide +kernel
theorem d_S_latestDay_5 : decode b_S_latestDay 5 = .ok (.if_icmp .ge 7, 3) := by decide +kernel
theorem d_S_latestDay_8 : decode b_S_latestDay 8 = .ok (.iconst 0, 1) := by decide +kernel
theorem d_S_latestDay_9 : decode b_S_latestDay 9 = .ok (.goto 14, 3) := by decide +kernel
theorem d_S_latestDay_12 : decode b_S_latestDay 12 = .ok (.aload_n 0, 1) := by decide +kernel
theorem d_S_latestDay_13 : decode b_S_latestDay 13 = .ok (.getfield 9, 3) := by decide +kernel
theorem d_S_latestDay_16 : decode b_S_latestDay 16 = .ok (.aload_n 0, 1) := by decide +kernel
theorem d_S_latestDay_17 : decode b_S_latestDay 17 = .ok (.getfield 21, 3) := by decide +kernel
theorem d_S_latestDay_20 : decode b_S_latestDay 20 = .ok (.iconst 1, 1) := by decide +kernel
theorem d_S_latestDay_21 : decode b_S_latestDay 21 = .ok (.isub, 1) := by decide +kernel
theorem d_S_latestDay_22 : decode b_S_latestDay 22 = .ok (.iaload, 1) := by decide +kernel
theorem d_S_latestDay_23 : decode b_S_latestDay 23 = .ok (.ireturn, 1) := by decide +kernel
abbrev b_S_append : ByteArray := prog_3_method_3_code
def y_S_append : MethodName := ⟨R_S, "append", "(III)V"⟩
def w_S_append : List Cond := .code y_S_append b_S_append 4 none :: BIG
theorem d_S_append_0 : decode b_S_append 0 = .ok (.aload_n 0, 1) := by decide +kernel
theorem d_S_append_1 : decode b_S_append 1 = .ok (.getfield 21, 3) := by decide +kernel
theorem d_S_append_4 : decode b_S_append 4 = .ok (.bipush 20, 2) := by decide +kernel
theorem d_S_append_6 : decode b_S_append 6 = .ok (.if_icmp .lt 4, 3) := by decide +kernel
theorem d_S_append_9 : decode b_S_append 9 = .ok (.return_, 1) := by decide +kernel
theorem d_S_append_10 : decode b_S_append 10 = .ok (.aload_n 0, 1) := by decide +kernel
theorem d_S_append_11 : decode b_S_append 11 = .ok (.getfield 9, 3) := by decide +kernel
theorem d_S_append_14 : decode b_S_append 14 = .ok (.aload_n 0, 1) := by decide +kernel
theorem d_S_append_15 : decode b_S_append 15 = .ok (.getfield 21, 3) := by decide +kernel
theorem d_S_append_18 : decode b_S_append 18 = .ok (.iload_n 1, 1) := by decide +kernel
theorem d_S_append_19 : decode b_S_append 19 = .ok (.iastore, 1) := by decide +kernel
theorem d_S_append_20 : decode b_S_append 20 = .ok (.aload_n 0, 1) := by decide +kernel
theorem d_S_append_21 : decode b_S_append 21 = .ok (.getfield 15, 3) := by decide +kernel
theorem d_S_append_24 : decode b_S_append 24 = .ok (.aload_n 0, 1) := by decide +kernel
theorem d_S_append_25 : decode b_S_append 25 = .ok (.getfield 21, 3) := by decide +kernel
theorem d_S_append_28 : decode b_S_append 28 = .ok (.iload_n 2, 1) := by decide +kernel
theorem d_S_append_29 : decode b_S_append 29 = .ok (.iastore, 1) := by decide +kernel
theorem d_S_append_30 : decode b_S_append 30 = .ok (.aload_n 0, 1) := by decide +kernel
theorem d_S_append_31 : decode b_S_append 31 = .ok (.getfield 18, 3) := by decide +kernel
theorem d_S_append_34 : decode b_S_append 34 = .ok (.aload_n 0, 1) := by decide +kernel
theorem d_S_append_35 : decode b_S_append 35 = .ok (.getfield 21, 3) := by decide +kernel
theorem d_S_append_38 : decode b_S_append 38 = .ok (.iload_n 3, 1) := by decide +kernel
theorem d_S_append_39 : decode b_S_append 39 = .ok (.iastore, 1) := by decide +kernel
theorem d_S_append_40 : decode b_S_append 40 = .ok (.aload_n 0, 1) := by decide +kernel
theorem d_S_append_41 : decode b_S_append 41 = .ok (.dup, 1) := by decide +kernel
theorem d_S_append_42 : decode b_S_append 42 = .ok (.getfield 21, 3) := by decide +kernel
theorem d_S_append_45 : decode b_S_append 45 = .ok (.iconst 1, 1) := by decide +kernel
theorem d_S_append_46 : decode b_S_append 46 = .ok (.iadd, 1) := by decide +kernel
theorem d_S_append_47 : decode b_S_append 47 = .ok (.putfield 21, 3) := by decide +kernel
theorem d_S_append_50 : decode b_S_append 50 = .ok (.return_, 1) := by decide +kernel
abbrev b_S_interest : ByteArray := prog_3_method_4_code
def y_S_interest : MethodName := ⟨R_S, "interest", "(JII)J"⟩
def w_S_interest : List Cond := .code y_S_interest b_S_interest 12 (some .long) :: BIG
theorem d_S_interest_0 : decode b_S_interest 0 = .ok (.lconst 0, 1) := by decide +kernel
theorem d_S_interest_1 : decode b_S_interest 1 = .ok (.lstore 5, 2) := by decide +kernel
theorem d_S_interest_3 : decode b_S_interest 3 = .ok (.iconst 0, 1) := by decide +kernel
theorem d_S_interest_4 : decode b_S_interest 4 = .ok (.istore 7, 2) := by decide +kernel
theorem d_S_interest_6 : decode b_S_interest 6 = .ok (.iload 7, 2) := by decide +kernel
theorem d_S_interest_8 : decode b_S_interest 8 = .ok (.aload_n 0, 1) := by decide +kernel
theorem d_S_interest_9 : decode b_S_interest 9 = .ok (.getfield 21, 3) := by decide +kernel
theorem d_S_interest_12 : decode b_S_interest 12 = .ok (.if_icmp .ge 116, 3) := by decide +kernel
theorem d_S_interest_15 : decode b_S_interest 15 = .ok (.aload_n 0, 1) := by decide +kernel
theorem d_S_interest_16 : decode b_S_interest 16 = .ok (.getfield 9, 3) := by decide +kernel
theorem d_S_interest_19 : decode b_S_interest 19 = .ok (.iload 7, 2) := by decide +kernel
theorem d_S_interest_21 : decode b_S_interest 21 = .ok (.iaload, 1) := by decide +kernel
theorem d_S_interest_22 : decode b_S_interest 22 = .ok (.iload_n 3, 1) := by decide +kernel
theorem d_S_interest_23 : decode b_S_interest 23 = .ok (.iconst 1, 1) := by decide +kernel
theorem d_S_interest_24 : decode b_S_interest 24 = .ok (.iadd, 1) := by decide +kernel
theorem d_S_interest_25 : decode b_S_interest 25 = .ok (.invokestatic 25, 3) := by decide +kernel
theorem d_S_interest_28 : decode b_S_interest 28 = .ok (.istore 8, 2) := by decide +kernel
theorem d_S_interest_30 : decode b_S_interest 30 = .ok (.iload 7, 2) := by decide +kernel
theorem d_S_interest_32 : decode b_S_interest 32 = .ok (.iconst 1, 1) := by decide +kernel
theorem d_S_interest_33 : decode b_S_interest 33 = .ok (.iadd, 1) := by decide +kernel
theorem d_S_interest_34 : decode b_S_interest 34 = .ok (.aload_n 0, 1) := by decide +kernel
theorem d_S_interest_35 : decode b_S_interest 35 = .ok (.getfield 21, 3) := by decide +kernel
theorem d_S_interest_38 : decode b_S_interest 38 = .ok (.if_icmp .ge 22, 3) := by decide +kernel
theorem d_S_interest_41 : decode b_S_interest 41 = .ok (.iload 4, 2) := by decide +kernel
theorem d_S_interest_43 : decode b_S_interest 43 = .ok (.aload_n 0, 1) := by decide +kernel
theorem d_S_interest_44 : decode b_S_interest 44 = .ok (.getfield 9, 3) := by decide +kernel
theorem d_S_interest_47 : decode b_S_interest 47 = .ok (.iload 7, 2) := by decide +kernel
theorem d_S_interest_49 : decode b_S_interest 49 = .ok (.iconst 1, 1) := by decide +kernel
theorem d_S_interest_50 : decode b_S_interest 50 = .ok (.iadd, 1) := by decide +kernel
theorem d_S_interest_51 : decode b_S_interest 51 = .ok (.iaload, 1) := by decide +kernel
theorem d_S_interest_52 : decode b_S_interest 52 = .ok (.iconst 1, 1) := by decide +kernel
theorem d_S_interest_53 : decode b_S_interest 53 = .ok (.isub, 1) := by decide +kernel
theorem d_S_interest_54 : decode b_S_interest 54 = .ok (.invokestatic 31, 3) := by decide +kernel
theorem d_S_interest_57 : decode b_S_interest 57 = .ok (.goto 5, 3) := by decide +kernel
theorem d_S_interest_60 : decode b_S_interest 60 = .ok (.iload 4, 2) := by decide +kernel
theorem d_S_interest_62 : decode b_S_interest 62 = .ok (.istore 9, 2) := by decide +kernel
theorem d_S_interest_64 : decode b_S_interest 64 = .ok (.iload 8, 2) := by decide +kernel
theorem d_S_interest_66 : decode b_S_interest 66 = .ok (.iload 9, 2) := by decide +kernel
theorem d_S_interest_68 : decode b_S_interest 68 = .ok (.if_icmp .gt 54, 3) := by decide +kernel
theorem d_S_interest_71 : decode b_S_interest 71 = .ok (.aload_n 0, 1) := by decide +kernel
theorem d_S_interest_72 : decode b_S_interest 72 = .ok (.getfield 18, 3) := by decide +kernel
theorem d_S_interest_75 : decode b_S_interest 75 = .ok (.iload 7, 2) := by decide +kernel
theorem d_S_interest_77 : decode b_S_interest 77 = .ok (.iaload, 1) := by decide +kernel
theorem d_S_interest_78 : decode b_S_interest 78 = .ok (.ifCond .le 44, 3) := by decide +kernel
theorem d_S_interest_81 : decode b_S_interest 81 = .ok (.iload 9, 2) := by decide +kernel
theorem d_S_interest_83 : decode b_S_interest 83 = .ok (.iload 8, 2) := by decide +kernel
theorem d_S_interest_85 : decode b_S_interest 85 = .ok (.isub, 1) := by decide +kernel
theorem d_S_interest_86 : decode b_S_interest 86 = .ok (.iconst 1, 1) := by decide +kernel
theorem d_S_interest_87 : decode b_S_interest 87 = .ok (.iadd, 1) := by decide +kernel
theorem d_S_interest_88 : decode b_S_interest 88 = .ok (.i2l, 1) := by decide +kernel
theorem d_S_interest_89 : decode b_S_interest 89 = .ok (.lstore 10, 2) := by decide +kernel
theorem d_S_interest_91 : decode b_S_interest 91 = .ok (.lload 5, 2) := by decide +kernel
theorem d_S_interest_93 : decode b_S_interest 93 = .ok (.lload_n 1, 1) := by decide +kernel
theorem d_S_interest_94 : decode b_S_interest 94 = .ok (.lload 10, 2) := by decide +kernel
theorem d_S_interest_96 : decode b_S_interest 96 = .ok (.lmul, 1) := by decide +kernel
theorem d_S_interest_97 : decode b_S_interest 97 = .ok (.aload_n 0, 1) := by decide +kernel
theorem d_S_interest_98 : decode b_S_interest 98 = .ok (.getfield 15, 3) := by decide +kernel
theorem d_S_interest_101 : decode b_S_interest 101 = .ok (.iload 7, 2) := by decide +kernel
theorem d_S_interest_103 : decode b_S_interest 103 = .ok (.iaload, 1) := by decide +kernel
theorem d_S_interest_104 : decode b_S_interest 104 = .ok (.i2l, 1) := by decide +kernel
theorem d_S_interest_105 : decode b_S_interest 105 = .ok (.lmul, 1) := by decide +kernel
theorem d_S_interest_106 : decode b_S_interest 106 = .ok (.aload_n 0, 1) := by decide +kernel
theorem d_S_interest_107 : decode b_S_interest 107 = .ok (.getfield 18, 3) := by decide +kernel
theorem d_S_interest_110 : decode b_S_interest 110 = .ok (.iload 7, 2) := by decide +kernel
theorem d_S_interest_112 : decode b_S_interest 112 = .ok (.iaload, 1) := by decide +kernel
theorem d_S_interest_113 : decode b_S_interest 113 = .ok (.i2l, 1) := by decide +kernel
theorem d_S_interest_114 : decode b_S_interest 114 = .ok (.ldc2_w 34, 3) := by decide +kernel
theorem d_S_interest_117 : decode b_S_interest 117 = .ok (.lmul, 1) := by decide +kernel
theorem d_S_interest_118 : decode b_S_interest 118 = .ok (.ldiv, 1) := by decide +kernel
theorem d_S_interest_119 : decode b_S_interest 119 = .ok (.ladd, 1) := by decide +kernel
theorem d_S_interest_120 : decode b_S_interest 120 = .ok (.lstore 5, 2) := by decide +kernel
theorem d_S_interest_122 : decode b_S_interest 122 = .ok (.iinc 7 1, 3) := by decide +kernel
theorem d_S_interest_125 : decode b_S_interest 125 = .ok (.goto (-119), 3) := by decide +kernel
theorem d_S_interest_128 : decode b_S_interest 128 = .ok (.lload 5, 2) := by decide +kernel
theorem d_S_interest_130 : decode b_S_interest 130 = .ok (.lreturn, 1) := by decide +kernel
end
section
abbrev b_X_init : ByteArray := prog_1_method_1_code
def y_X_init : MethodName := ⟨R_X, "<init>", "()V"⟩
def w_X_init : List Cond := .code y_X_init b_X_init 1 none :: BIG
theorem d_X_init_0 : decode b_X_init 0 = .ok (.aload_n 0, 1) := by decide +kernel
theorem d_X_init_1 : decode b_X_init 1 = .ok (.invokespecial 1, 3) := by decide +kernel
theorem d_X_init_4 : decode b_X_init 4 = .ok (.aload_n 0, 1) := by decide +kernel
theorem d_X_init_5 : decode b_X_init 5 = .ok (.new 7, 3) := by decide +kernel
theorem d_X_init_8 : decode b_X_init 8 = .ok (.dup, 1) := by decide +kernel
theorem d_X_init_9 : decode b_X_init 9 = .ok (.invokespecial 9, 3) := by decide +kernel
theorem d_X_init_12 : decode b_X_init 12 = .ok (.putfield 10, 3) := by decide +kernel
theorem d_X_init_15 : decode b_X_init 15 = .ok (.aload_n 0, 1) := by decide +kernel
theorem d_X_init_16 : decode b_X_init 16 = .ok (.bipush 40, 2) := by decide +kernel
theorem d_X_init_18 : decode b_X_init 18 = .ok (.anewarray 16, 3) := by decide +kernel
theorem d_X_init_21 : decode b_X_init 21 = .ok (.putfield 18, 3) := by decide +kernel
theorem d_X_init_24 : decode b_X_init 24 = .ok (.aload_n 0, 1) := by decide +kernel
theorem d_X_init_25 : decode b_X_init 25 = .ok (.bipush 16, 2) := by decide +kernel
theorem d_X_init_27 : decode b_X_init 27 = .ok (.newarray .long, 2) := by decide +kernel
theorem d_X_init_29 : decode b_X_init 29 = .ok (.putfield 22, 3) := by decide +kernel
theorem d_X_init_32 : decode b_X_init 32 = .ok (.aload_n 0, 1) := by decide +kernel
theorem d_X_init_33 : decode b_X_init 33 = .ok (.iconst 0, 1) := by decide +kernel
theorem d_X_init_34 : decode b_X_init 34 = .ok (.putfield 26, 3) := by decide +kernel
theorem d_X_init_37 : decode b_X_init 37 = .ok (.aload_n 0, 1) := by decide +kernel
theorem d_X_init_38 : decode b_X_init 38 = .ok (.iconst 0, 1) := by decide +kernel
theorem d_X_init_39 : decode b_X_init 39 = .ok (.putfield 30, 3) := by decide +kernel
theorem d_X_init_42 : decode b_X_init 42 = .ok (.return_, 1) := by decide +kernel
abbrev b_X_rate : ByteArray := prog_1_method_2_code
def y_X_rate : MethodName := ⟨R_X, "rate", "(III)I"⟩
def w_X_rate : List Cond := .code y_X_rate b_X_rate 4 (some .int) :: BIG
theorem d_X_rate_0 : decode b_X_rate 0 = .ok (.iload_n 3, 1) := by decide +kernel
theorem d_X_rate_1 : decode b_X_rate 1 = .ok (.ifCond .ne 13, 3) := by decide +kernel
theorem d_X_rate_4 : decode b_X_rate 4 = .ok (.new 33, 3) := by decide +kernel
theorem d_X_rate_7 : decode b_X_rate 7 = .ok (.dup, 1) := by decide +kernel
theorem d_X_rate_8 : decode b_X_rate 8 = .ok (.ldc 35, 2) := by decide +kernel
theorem d_X_rate_10 : decode b_X_rate 10 = .ok (.invokespecial 37, 3) := by decide +kernel
theorem d_X_rate_13 : decode b_X_rate 13 = .ok (.athrow, 1) := by decide +kernel
theorem d_X_rate_14 : decode b_X_rate 14 = .ok (.iload_n 1, 1) := by decide +kernel
theorem d_X_rate_15 : decode b_X_rate 15 = .ok (.aload_n 0, 1) := by decide +kernel
theorem d_X_rate_16 : decode b_X_rate 16 = .ok (.getfield 30, 3) := by decide +kernel
theorem d_X_rate_19 : decode b_X_rate 19 = .ok (.if_icmp .le 20, 3) := by decide +kernel
theorem d_X_rate_22 : decode b_X_rate 22 = .ok (.iload_n 1, 1) := by decide +kernel
theorem d_X_rate_23 : decode b_X_rate 23 = .ok (.aload_n 0, 1) := by decide +kernel
theorem d_X_rate_24 : decode b_X_rate 24 = .ok (.getfield 10, 3) := by decide +kernel
theorem d_X_rate_27 : decode b_X_rate 27 = .ok (.invokevirtual 40, 3) := by decide +kernel
theorem d_X_rate_30 : decode b_X_rate 30 = .ok (.if_icmp .lt 9, 3) := by decide +kernel
theorem d_X_rate_33 : decode b_X_rate 33 = .ok (.iload_n 1, 1) := by decide +kernel
theorem d_X_rate_34 : decode b_X_rate 34 = .ok (.ldc 44, 2) := by decide +kernel
theorem d_X_rate_36 : decode b_X_rate 36 = .ok (.if_icmp .le 13, 3) := by decide +kernel
theorem d_X_rate_39 : decode b_X_rate 39 = .ok (.new 45, 3) := by decide +kernel
theorem d_X_rate_42 : decode b_X_rate 42 = .ok (.dup, 1) := by decide +kernel
theorem d_X_rate_43 : decode b_X_rate 43 = .ok (.ldc 47, 2) := by decide +kernel
theorem d_X_rate_45 : decode b_X_rate 45 = .ok (.invokespecial 49, 3) := by decide +kernel
theorem d_X_rate_48 : decode b_X_rate 48 = .ok (.athrow, 1) := by decide +kernel
theorem d_X_rate_49 : decode b_X_rate 49 = .ok (.iload_n 3, 1) := by decide +kernel
theorem d_X_rate_50 : decode b_X_rate 50 = .ok (.ifCond .lt 19, 3) := by decide +kernel
theorem d_X_rate_53 : decode b_X_rate 53 = .ok (.iload_n 3, 1) := by decide +kernel
theorem d_X_rate_54 : decode b_X_rate 54 = .ok (.sipush 1000, 3) := by decide +kernel
theorem d_X_rate_57 : decode b_X_rate 57 = .ok (.if_icmp .gt 12, 3) := by decide +kernel
theorem d_X_rate_60 : decode b_X_rate 60 = .ok (.iload_n 2, 1) := by decide +kernel
theorem d_X_rate_61 : decode b_X_rate 61 = .ok (.ifCond .lt 8, 3) := by decide +kernel
theorem d_X_rate_64 : decode b_X_rate 64 = .ok (.iload_n 2, 1) := by decide +kernel
theorem d_X_rate_65 : decode b_X_rate 65 = .ok (.iload_n 3, 1) := by decide +kernel
theorem d_X_rate_66 : decode b_X_rate 66 = .ok (.if_icmp .le 13, 3) := by decide +kernel
theorem d_X_rate_69 : decode b_X_rate 69 = .ok (.new 45, 3) := by decide +kernel
theorem d_X_rate_72 : decode b_X_rate 72 = .ok (.dup, 1) := by decide +kernel
theorem d_X_rate_73 : decode b_X_rate 73 = .ok (.ldc 50, 2) := by decide +kernel
theorem d_X_rate_75 : decode b_X_rate 75 = .ok (.invokespecial 49, 3) := by decide +kernel
theorem d_X_rate_78 : decode b_X_rate 78 = .ok (.athrow, 1) := by decide +kernel
theorem d_X_rate_79 : decode b_X_rate 79 = .ok (.aload_n 0, 1) := by decide +kernel
theorem d_X_rate_80 : decode b_X_rate 80 = .ok (.getfield 10, 3) := by decide +kernel
theorem d_X_rate_83 : decode b_X_rate 83 = .ok (.getfield 52, 3) := by decide +kernel
theorem d_X_rate_86 : decode b_X_rate 86 = .ok (.bipush 20, 2) := by decide +kernel
theorem d_X_rate_88 : decode b_X_rate 88 = .ok (.if_icmp .lt 13, 3) := by decide +kernel
theorem d_X_rate_91 : decode b_X_rate 91 = .ok (.new 55, 3) := by decide +kernel
theorem d_X_rate_94 : decode b_X_rate 94 = .ok (.dup, 1) := by decide +kernel
theorem d_X_rate_95 : decode b_X_rate 95 = .ok (.ldc 57, 2) := by decide +kernel
theorem d_X_rate_97 : decode b_X_rate 97 = .ok (.invokespecial 59, 3) := by decide +kernel
theorem d_X_rate_100 : decode b_X_rate 100 = .ok (.athrow, 1) := by decide +kernel
theorem d_X_rate_101 : decode b_X_rate 101 = .ok (.aload_n 0, 1) := by decide +kernel
theorem d_X_rate_102 : decode b_X_rate 102 = .ok (.getfield 10, 3) := by decide +kernel
theorem d_X_rate_105 : decode b_X_rate 105 = .ok (.iload_n 1, 1) := by decide +kernel
theorem d_X_rate_106 : decode b_X_rate 106 = .ok (.iload_n 2, 1) := by decide +kernel
theorem d_X_rate_107 : decode b_X_rate 107 = .ok (.iload_n 3, 1) := by decide +kernel
theorem d_X_rate_108 : decode b_X_rate 108 = .ok (.invokevirtual 60, 3) := by decide +kernel
theorem d_X_rate_111 : decode b_X_rate 111 = .ok (.aload_n 0, 1) := by decide +kernel
theorem d_X_rate_112 : decode b_X_rate 112 = .ok (.getfield 10, 3) := by decide +kernel
theorem d_X_rate_115 : decode b_X_rate 115 = .ok (.getfield 52, 3) := by decide +kernel
theorem d_X_rate_118 : decode b_X_rate 118 = .ok (.ireturn, 1) := by decide +kernel
abbrev b_X_debt : ByteArray := prog_1_method_3_code
def y_X_debt : MethodName := ⟨R_X, "debt", "(JI)I"⟩
def w_X_debt : List Cond := .code y_X_debt b_X_debt 5 (some .int) :: BIG
theorem d_X_debt_0 : decode b_X_debt 0 = .ok (.lload_n 1, 1) := by decide +kernel
theorem d_X_debt_1 : decode b_X_debt 1 = .ok (.invokestatic 64, 3) := by decide +kernel
theorem d_X_debt_4 : decode b_X_debt 4 = .ok (.ifCond .ne 13, 3) := by decide +kernel
theorem d_X_debt_7 : decode b_X_debt 7 = .ok (.new 45, 3) := by decide +kernel
theorem d_X_debt_10 : decode b_X_debt 10 = .ok (.dup, 1) := by decide +kernel
theorem d_X_debt_11 : decode b_X_debt 11 = .ok (.ldc 68, 2) := by decide +kernel
theorem d_X_debt_13 : decode b_X_debt 13 = .ok (.invokespecial 49, 3) := by decide +kernel
theorem d_X_debt_16 : decode b_X_debt 16 = .ok (.athrow, 1) := by decide +kernel
theorem d_X_debt_17 : decode b_X_debt 17 = .ok (.iload_n 3, 1) := by decide +kernel
theorem d_X_debt_18 : decode b_X_debt 18 = .ok (.invokestatic 70, 3) := by decide +kernel
theorem d_X_debt_21 : decode b_X_debt 21 = .ok (.ifCond .ne 13, 3) := by decide +kernel
theorem d_X_debt_24 : decode b_X_debt 24 = .ok (.new 45, 3) := by decide +kernel
theorem d_X_debt_27 : decode b_X_debt 27 = .ok (.dup, 1) := by decide +kernel
theorem d_X_debt_28 : decode b_X_debt 28 = .ok (.ldc 74, 2) := by decide +kernel
theorem d_X_debt_30 : decode b_X_debt 30 = .ok (.invokespecial 49, 3) := by decide +kernel
theorem d_X_debt_33 : decode b_X_debt 33 = .ok (.athrow, 1) := by decide +kernel
theorem d_X_debt_34 : decode b_X_debt 34 = .ok (.aload_n 0, 1) := by decide +kernel
theorem d_X_debt_35 : decode b_X_debt 35 = .ok (.getfield 26, 3) := by decide +kernel
theorem d_X_debt_38 : decode b_X_debt 38 = .ok (.bipush 40, 2) := by decide +kernel
theorem d_X_debt_40 : decode b_X_debt 40 = .ok (.if_icmp .lt 13, 3) := by decide +kernel
theorem d_X_debt_43 : decode b_X_debt 43 = .ok (.new 55, 3) := by decide +kernel
theorem d_X_debt_46 : decode b_X_debt 46 = .ok (.dup, 1) := by decide +kernel
theorem d_X_debt_47 : decode b_X_debt 47 = .ok (.ldc 76, 2) := by decide +kernel
theorem d_X_debt_49 : decode b_X_debt 49 = .ok (.invokespecial 59, 3) := by decide +kernel
theorem d_X_debt_52 : decode b_X_debt 52 = .ok (.athrow, 1) := by decide +kernel
theorem d_X_debt_53 : decode b_X_debt 53 = .ok (.new 16, 3) := by decide +kernel
theorem d_X_debt_56 : decode b_X_debt 56 = .ok (.dup, 1) := by decide +kernel
theorem d_X_debt_57 : decode b_X_debt 57 = .ok (.lload_n 1, 1) := by decide +kernel
theorem d_X_debt_58 : decode b_X_debt 58 = .ok (.aload_n 0, 1) := by decide +kernel
theorem d_X_debt_59 : decode b_X_debt 59 = .ok (.getfield 30, 3) := by decide +kernel
theorem d_X_debt_62 : decode b_X_debt 62 = .ok (.invokespecial 78, 3) := by decide +kernel
theorem d_X_debt_65 : decode b_X_debt 65 = .ok (.astore 4, 2) := by decide +kernel
theorem d_X_debt_67 : decode b_X_debt 67 = .ok (.aload 4, 2) := by decide +kernel
theorem d_X_debt_69 : decode b_X_debt 69 = .ok (.iload_n 3, 1) := by decide +kernel
theorem d_X_debt_70 : decode b_X_debt 70 = .ok (.invokevirtual 81, 3) := by decide +kernel
theorem d_X_debt_73 : decode b_X_debt 73 = .ok (.pop, 1) := by decide +kernel
theorem d_X_debt_74 : decode b_X_debt 74 = .ok (.aload_n 0, 1) := by decide +kernel
theorem d_X_debt_75 : decode b_X_debt 75 = .ok (.getfield 18, 3) := by decide +kernel
theorem d_X_debt_78 : decode b_X_debt 78 = .ok (.aload_n 0, 1) := by decide +kernel
theorem d_X_debt_79 : decode b_X_debt 79 = .ok (.getfield 26, 3) := by decide +kernel
theorem d_X_debt_82 : decode b_X_debt 82 = .ok (.aload 4, 2) := by decide +kernel
theorem d_X_debt_84 : decode b_X_debt 84 = .ok (.aastore, 1) := by decide +kernel
theorem d_X_debt_85 : decode b_X_debt 85 = .ok (.aload_n 0, 1) := by decide +kernel
theorem d_X_debt_86 : decode b_X_debt 86 = .ok (.dup, 1) := by decide +kernel
theorem d_X_debt_87 : decode b_X_debt 87 = .ok (.getfield 26, 3) := by decide +kernel
theorem d_X_debt_90 : decode b_X_debt 90 = .ok (.iconst 1, 1) := by decide +kernel
theorem d_X_debt_91 : decode b_X_debt 91 = .ok (.iadd, 1) := by decide +kernel
theorem d_X_debt_92 : decode b_X_debt 92 = .ok (.putfield 26, 3) := by decide +kernel
theorem d_X_debt_95 : decode b_X_debt 95 = .ok (.aload_n 0, 1) := by decide +kernel
theorem d_X_debt_96 : decode b_X_debt 96 = .ok (.getfield 26, 3) := by decide +kernel
theorem d_X_debt_99 : decode b_X_debt 99 = .ok (.ireturn, 1) := by decide +kernel
abbrev b_X_debtor : ByteArray := prog_1_method_4_code
def y_X_debtor : MethodName := ⟨R_X, "debtor", "(II)Z"⟩
def w_X_debtor : List Cond := .code y_X_debtor b_X_debtor 4 (some .boolean) :: BIG
theorem d_X_debtor_0 : decode b_X_debtor 0 = .ok (.aload_n 0, 1) := by decide +kernel
theorem d_X_debtor_1 : decode b_X_debtor 1 = .ok (.iload_n 1, 1) := by decide +kernel
theorem d_X_debtor_2 : decode b_X_debtor 2 = .ok (.invokevirtual 84, 3) := by decide +kernel
theorem d_X_debtor_5 : decode b_X_debtor 5 = .ok (.astore_n 3, 1) := by decide +kernel
theorem d_X_debtor_6 : decode b_X_debtor 6 = .ok (.aload_n 3, 1) := by decide +kernel
theorem d_X_debtor_7 : decode b_X_debtor 7 = .ok (.ifnull 10, 3) := by decide +kernel
theorem d_X_debtor_10 : decode b_X_debtor 10 = .ok (.iload_n 2, 1) := by decide +kernel
theorem d_X_debtor_11 : decode b_X_debtor 11 = .ok (.invokestatic 70, 3) := by decide +kernel
theorem d_X_debtor_14 : decode b_X_debtor 14 = .ok (.ifCond .ne 5, 3) := by decide +kernel
theorem d_X_debtor_17 : decode b_X_debtor 17 = .ok (.iconst 0, 1) := by decide +kernel
theorem d_X_debtor_18 : decode b_X_debtor 18 = .ok (.ireturn, 1) := by decide +kernel
theorem d_X_debtor_19 : decode b_X_debtor 19 = .ok (.aload_n 3, 1) := by decide +kernel
theorem d_X_debtor_20 : decode b_X_debtor 20 = .ok (.getfield 88, 3) := by decide +kernel
theorem d_X_debtor_23 : decode b_X_debtor 23 = .ok (.ifCond .ne 15, 3) := by decide +kernel
theorem d_X_debtor_26 : decode b_X_debtor 26 = .ok (.aload_n 3, 1) := by decide +kernel
theorem d_X_debtor_27 : decode b_X_debtor 27 = .ok (.iload_n 2, 1) := by decide +kernel
theorem d_X_debtor_28 : decode b_X_debtor 28 = .ok (.invokevirtual 81, 3) := by decide +kernel
theorem d_X_debtor_31 : decode b_X_debtor 31 = .ok (.ifCond .eq 7, 3) := by decide +kernel
theorem d_X_debtor_34 : decode b_X_debtor 34 = .ok (.iconst 1, 1) := by decide +kernel
theorem d_X_debtor_35 : decode b_X_debtor 35 = .ok (.goto 4, 3) := by decide +kernel
theorem d_X_debtor_38 : decode b_X_debtor 38 = .ok (.iconst 0, 1) := by decide +kernel
theorem d_X_debtor_39 : decode b_X_debtor 39 = .ok (.ireturn, 1) := by decide +kernel
abbrev b_X_notified : ByteArray := prog_1_method_5_code
def y_X_notified : MethodName := ⟨R_X, "notified", "(I)I"⟩
def w_X_notified : List Cond := .code y_X_notified b_X_notified 3 (some .int) :: BIG
theorem d_X_notified_0 : decode b_X_notified 0 = .ok (.aload_n 0, 1) := by decide +kernel
theorem d_X_notified_1 : decode b_X_notified 1 = .ok (.iload_n 1, 1) := by decide +kernel
theorem d_X_notified_2 : decode b_X_notified 2 = .ok (.invokevirtual 91, 3) := by decide +kernel
theorem d_X_notified_5 : decode b_X_notified 5 = .ok (.astore_n 2, 1) := by decide +kernel
theorem d_X_notified_6 : decode b_X_notified 6 = .ok (.aload_n 2, 1) := by decide +kernel
theorem d_X_notified_7 : decode b_X_notified 7 = .ok (.getfield 88, 3) := by decide +kernel
theorem d_X_notified_10 : decode b_X_notified 10 = .ok (.ifCond .ne 14, 3) := by decide +kernel
theorem d_X_notified_13 : decode b_X_notified 13 = .ok (.aload_n 2, 1) := by decide +kernel
theorem d_X_notified_14 : decode b_X_notified 14 = .ok (.aload_n 0, 1) := by decide +kernel
theorem d_X_notified_15 : decode b_X_notified 15 = .ok (.getfield 30, 3) := by decide +kernel
theorem d_X_notified_18 : decode b_X_notified 18 = .ok (.invokevirtual 94, 3) := by decide +kernel
theorem d_X_notified_21 : decode b_X_notified 21 = .ok (.ifCond .eq 5, 3) := by decide +kernel
theorem d_X_notified_24 : decode b_X_notified 24 = .ok (.iconst 0, 1) := by decide +kernel
theorem d_X_notified_25 : decode b_X_notified 25 = .ok (.ireturn, 1) := by decide +kernel
theorem d_X_notified_26 : decode b_X_notified 26 = .ok (.aload_n 2, 1) := by decide +kernel
theorem d_X_notified_27 : decode b_X_notified 27 = .ok (.aload_n 0, 1) := by decide +kernel
theorem d_X_notified_28 : decode b_X_notified 28 = .ok (.getfield 30, 3) := by decide +kernel
theorem d_X_notified_31 : decode b_X_notified 31 = .ok (.bipush 10, 2) := by decide +kernel
theorem d_X_notified_33 : decode b_X_notified 33 = .ok (.iadd, 1) := by decide +kernel
theorem d_X_notified_34 : decode b_X_notified 34 = .ok (.putfield 97, 3) := by decide +kernel
theorem d_X_notified_37 : decode b_X_notified 37 = .ok (.aload_n 2, 1) := by decide +kernel
theorem d_X_notified_38 : decode b_X_notified 38 = .ok (.aload_n 0, 1) := by decide +kernel
theorem d_X_notified_39 : decode b_X_notified 39 = .ok (.getfield 30, 3) := by decide +kernel
theorem d_X_notified_42 : decode b_X_notified 42 = .ok (.invokevirtual 100, 3) := by decide +kernel
theorem d_X_notified_45 : decode b_X_notified 45 = .ok (.aload_n 2, 1) := by decide +kernel
theorem d_X_notified_46 : decode b_X_notified 46 = .ok (.getfield 97, 3) := by decide +kernel
theorem d_X_notified_49 : decode b_X_notified 49 = .ok (.ireturn, 1) := by decide +kernel
abbrev b_X_pay : ByteArray := prog_1_method_6_code
def y_X_pay : MethodName := ⟨R_X, "pay", "(IJ)I"⟩
def w_X_pay : List Cond := .code y_X_pay b_X_pay 9 (some .int) :: BIG
theorem d_X_pay_0 : decode b_X_pay 0 = .ok (.iload_n 1, 1) := by decide +kernel
theorem d_X_pay_1 : decode b_X_pay 1 = .ok (.invokestatic 70, 3) := by decide +kernel
theorem d_X_pay_4 : decode b_X_pay 4 = .ok (.ifCond .ne 13, 3) := by decide +kernel
theorem d_X_pay_7 : decode b_X_pay 7 = .ok (.new 45, 3) := by decide +kernel
theorem d_X_pay_10 : decode b_X_pay 10 = .ok (.dup, 1) := by decide +kernel
theorem d_X_pay_11 : decode b_X_pay 11 = .ok (.ldc 74, 2) := by decide +kernel
theorem d_X_pay_13 : decode b_X_pay 13 = .ok (.invokespecial 49, 3) := by decide +kernel
theorem d_X_pay_16 : decode b_X_pay 16 = .ok (.athrow, 1) := by decide +kernel
theorem d_X_pay_17 : decode b_X_pay 17 = .ok (.lload_n 2, 1) := by decide +kernel
theorem d_X_pay_18 : decode b_X_pay 18 = .ok (.invokestatic 64, 3) := by decide +kernel
theorem d_X_pay_21 : decode b_X_pay 21 = .ok (.ifCond .ne 13, 3) := by decide +kernel
theorem d_X_pay_24 : decode b_X_pay 24 = .ok (.new 45, 3) := by decide +kernel
theorem d_X_pay_27 : decode b_X_pay 27 = .ok (.dup, 1) := by decide +kernel
theorem d_X_pay_28 : decode b_X_pay 28 = .ok (.ldc 68, 2) := by decide +kernel
theorem d_X_pay_30 : decode b_X_pay 30 = .ok (.invokespecial 49, 3) := by decide +kernel
theorem d_X_pay_33 : decode b_X_pay 33 = .ok (.athrow, 1) := by decide +kernel
theorem d_X_pay_34 : decode b_X_pay 34 = .ok (.lload_n 2, 1) := by decide +kernel
theorem d_X_pay_35 : decode b_X_pay 35 = .ok (.lstore 4, 2) := by decide +kernel
theorem d_X_pay_37 : decode b_X_pay 37 = .ok (.iconst 0, 1) := by decide +kernel
theorem d_X_pay_38 : decode b_X_pay 38 = .ok (.istore 6, 2) := by decide +kernel
theorem d_X_pay_40 : decode b_X_pay 40 = .ok (.iconst 0, 1) := by decide +kernel
theorem d_X_pay_41 : decode b_X_pay 41 = .ok (.istore 7, 2) := by decide +kernel
theorem d_X_pay_43 : decode b_X_pay 43 = .ok (.iload 7, 2) := by decide +kernel
theorem d_X_pay_45 : decode b_X_pay 45 = .ok (.aload_n 0, 1) := by decide +kernel
theorem d_X_pay_46 : decode b_X_pay 46 = .ok (.getfield 26, 3) := by decide +kernel
theorem d_X_pay_49 : decode b_X_pay 49 = .ok (.if_icmp .ge 82, 3) := by decide +kernel
theorem d_X_pay_52 : decode b_X_pay 52 = .ok (.lload 4, 2) := by decide +kernel
theorem d_X_pay_54 : decode b_X_pay 54 = .ok (.lconst 0, 1) := by decide +kernel
theorem d_X_pay_55 : decode b_X_pay 55 = .ok (.lcmp, 1) := by decide +kernel
theorem d_X_pay_56 : decode b_X_pay 56 = .ok (.ifCond .le 75, 3) := by decide +kernel
theorem d_X_pay_59 : decode b_X_pay 59 = .ok (.aload_n 0, 1) := by decide +kernel
theorem d_X_pay_60 : decode b_X_pay 60 = .ok (.getfield 18, 3) := by decide +kernel
theorem d_X_pay_63 : decode b_X_pay 63 = .ok (.iload 7, 2) := by decide +kernel
theorem d_X_pay_65 : decode b_X_pay 65 = .ok (.aaload, 1) := by decide +kernel
theorem d_X_pay_66 : decode b_X_pay 66 = .ok (.astore 8, 2) := by decide +kernel
theorem d_X_pay_68 : decode b_X_pay 68 = .ok (.aload 8, 2) := by decide +kernel
theorem d_X_pay_70 : decode b_X_pay 70 = .ok (.ifnull 55, 3) := by decide +kernel
theorem d_X_pay_73 : decode b_X_pay 73 = .ok (.aload 8, 2) := by decide +kernel
theorem d_X_pay_75 : decode b_X_pay 75 = .ok (.invokevirtual 104, 3) := by decide +kernel
theorem d_X_pay_78 : decode b_X_pay 78 = .ok (.ifCond .eq 47, 3) := by decide +kernel
theorem d_X_pay_81 : decode b_X_pay 81 = .ok (.aload 8, 2) := by decide +kernel
theorem d_X_pay_83 : decode b_X_pay 83 = .ok (.iload_n 1, 1) := by decide +kernel
theorem d_X_pay_84 : decode b_X_pay 84 = .ok (.invokevirtual 108, 3) := by decide +kernel
theorem d_X_pay_87 : decode b_X_pay 87 = .ok (.iconst (-1), 1) := by decide +kernel
theorem d_X_pay_88 : decode b_X_pay 88 = .ok (.if_icmp .eq 37, 3) := by decide +kernel
theorem d_X_pay_91 : decode b_X_pay 91 = .ok (.aload 8, 2) := by decide +kernel
theorem d_X_pay_93 : decode b_X_pay 93 = .ok (.aload_n 0, 1) := by decide +kernel
theorem d_X_pay_94 : decode b_X_pay 94 = .ok (.getfield 10, 3) := by decide +kernel
theorem d_X_pay_97 : decode b_X_pay 97 = .ok (.aload_n 0, 1) := by decide +kernel
theorem d_X_pay_98 : decode b_X_pay 98 = .ok (.getfield 30, 3) := by decide +kernel
theorem d_X_pay_101 : decode b_X_pay 101 = .ok (.invokevirtual 112, 3) := by decide +kernel
theorem d_X_pay_104 : decode b_X_pay 104 = .ok (.lload 4, 2) := by decide +kernel
theorem d_X_pay_106 : decode b_X_pay 106 = .ok (.aload 8, 2) := by decide +kernel
theorem d_X_pay_108 : decode b_X_pay 108 = .ok (.aload 8, 2) := by decide +kernel
theorem d_X_pay_110 : decode b_X_pay 110 = .ok (.iload_n 1, 1) := by decide +kernel
theorem d_X_pay_111 : decode b_X_pay 111 = .ok (.invokevirtual 108, 3) := by decide +kernel
theorem d_X_pay_114 : decode b_X_pay 114 = .ok (.lload 4, 2) := by decide +kernel
theorem d_X_pay_116 : decode b_X_pay 116 = .ok (.invokevirtual 116, 3) := by decide +kernel
theorem d_X_pay_119 : decode b_X_pay 119 = .ok (.lsub, 1) := by decide +kernel
theorem d_X_pay_120 : decode b_X_pay 120 = .ok (.lstore 4, 2) := by decide +kernel
theorem d_X_pay_122 : decode b_X_pay 122 = .ok (.iinc 6 1, 3) := by decide +kernel
theorem d_X_pay_125 : decode b_X_pay 125 = .ok (.iinc 7 1, 3) := by decide +kernel
theorem d_X_pay_128 : decode b_X_pay 128 = .ok (.goto (-85), 3) := by decide +kernel
theorem d_X_pay_131 : decode b_X_pay 131 = .ok (.aload_n 0, 1) := by decide +kernel
theorem d_X_pay_132 : decode b_X_pay 132 = .ok (.getfield 22, 3) := by decide +kernel
theorem d_X_pay_135 : decode b_X_pay 135 = .ok (.iload_n 1, 1) := by decide +kernel
theorem d_X_pay_136 : decode b_X_pay 136 = .ok (.dup2, 1) := by decide +kernel
theorem d_X_pay_137 : decode b_X_pay 137 = .ok (.laload, 1) := by decide +kernel
theorem d_X_pay_138 : decode b_X_pay 138 = .ok (.lload 4, 2) := by decide +kernel
theorem d_X_pay_140 : decode b_X_pay 140 = .ok (.ladd, 1) := by decide +kernel
theorem d_X_pay_141 : decode b_X_pay 141 = .ok (.lastore, 1) := by decide +kernel
theorem d_X_pay_142 : decode b_X_pay 142 = .ok (.iload 6, 2) := by decide +kernel
theorem d_X_pay_144 : decode b_X_pay 144 = .ok (.ireturn, 1) := by decide +kernel
abbrev b_X_instalments : ByteArray := prog_1_method_7_code
def y_X_instalments : MethodName := ⟨R_X, "instalments", "(II)I"⟩
def w_X_instalments : List Cond := .code y_X_instalments b_X_instalments 4 (some .int) :: BIG
theorem d_X_instalments_0 : decode b_X_instalments 0 = .ok (.aload_n 0, 1) := by decide +kernel
theorem d_X_instalments_1 : decode b_X_instalments 1 = .ok (.iload_n 1, 1) := by decide +kernel
theorem d_X_instalments_2 : decode b_X_instalments 2 = .ok (.invokevirtual 91, 3) := by decide +kernel
theorem d_X_instalments_5 : decode b_X_instalments 5 = .ok (.astore_n 3, 1) := by decide +kernel
theorem d_X_instalments_6 : decode b_X_instalments 6 = .ok (.iload_n 2, 1) := by decide +kernel
theorem d_X_instalments_7 : decode b_X_instalments 7 = .ok (.iconst 2, 1) := by decide +kernel
theorem d_X_instalments_8 : decode b_X_instalments 8 = .ok (.if_icmp .lt 9, 3) := by decide +kernel
theorem d_X_instalments_11 : decode b_X_instalments 11 = .ok (.iload_n 2, 1) := by decide +kernel
theorem d_X_instalments_12 : decode b_X_instalments 12 = .ok (.bipush 12, 2) := by decide +kernel
theorem d_X_instalments_14 : decode b_X_instalments 14 = .ok (.if_icmp .le 13, 3) := by decide +kernel
theorem d_X_instalments_17 : decode b_X_instalments 17 = .ok (.new 45, 3) := by decide +kernel
theorem d_X_instalments_20 : decode b_X_instalments 20 = .ok (.dup, 1) := by decide +kernel
theorem d_X_instalments_21 : decode b_X_instalments 21 = .ok (.ldc 120, 2) := by decide +kernel
theorem d_X_instalments_23 : decode b_X_instalments 23 = .ok (.invokespecial 49, 3) := by decide +kernel
theorem d_X_instalments_26 : decode b_X_instalments 26 = .ok (.athrow, 1) := by decide +kernel
theorem d_X_instalments_27 : decode b_X_instalments 27 = .ok (.aload_n 3, 1) := by decide +kernel
theorem d_X_instalments_28 : decode b_X_instalments 28 = .ok (.getfield 88, 3) := by decide +kernel
theorem d_X_instalments_31 : decode b_X_instalments 31 = .ok (.iconst 1, 1) := by decide +kernel
theorem d_X_instalments_32 : decode b_X_instalments 32 = .ok (.if_icmp .eq 5, 3) := by decide +kernel
theorem d_X_instalments_35 : decode b_X_instalments 35 = .ok (.iconst 0, 1) := by decide +kernel
theorem d_X_instalments_36 : decode b_X_instalments 36 = .ok (.ireturn, 1) := by decide +kernel
theorem d_X_instalments_37 : decode b_X_instalments 37 = .ok (.aload_n 3, 1) := by decide +kernel
theorem d_X_instalments_38 : decode b_X_instalments 38 = .ok (.aload_n 0, 1) := by decide +kernel
theorem d_X_instalments_39 : decode b_X_instalments 39 = .ok (.getfield 10, 3) := by decide +kernel
theorem d_X_instalments_42 : decode b_X_instalments 42 = .ok (.aload_n 0, 1) := by decide +kernel
theorem d_X_instalments_43 : decode b_X_instalments 43 = .ok (.getfield 30, 3) := by decide +kernel
theorem d_X_instalments_46 : decode b_X_instalments 46 = .ok (.invokevirtual 112, 3) := by decide +kernel
theorem d_X_instalments_49 : decode b_X_instalments 49 = .ok (.aload_n 3, 1) := by decide +kernel
theorem d_X_instalments_50 : decode b_X_instalments 50 = .ok (.aload_n 0, 1) := by decide +kernel
theorem d_X_instalments_51 : decode b_X_instalments 51 = .ok (.getfield 30, 3) := by decide +kernel
theorem d_X_instalments_54 : decode b_X_instalments 54 = .ok (.iload_n 2, 1) := by decide +kernel
theorem d_X_instalments_55 : decode b_X_instalments 55 = .ok (.invokevirtual 122, 3) := by decide +kernel
theorem d_X_instalments_58 : decode b_X_instalments 58 = .ok (.iconst 1, 1) := by decide +kernel
theorem d_X_instalments_59 : decode b_X_instalments 59 = .ok (.ireturn, 1) := by decide +kernel
abbrev b_X_appeal : ByteArray := prog_1_method_8_code
def y_X_appeal : MethodName := ⟨R_X, "appeal", "(I)I"⟩
def w_X_appeal : List Cond := .code y_X_appeal b_X_appeal 3 (some .int) :: BIG
theorem d_X_appeal_0 : decode b_X_appeal 0 = .ok (.aload_n 0, 1) := by decide +kernel
theorem d_X_appeal_1 : decode b_X_appeal 1 = .ok (.iload_n 1, 1) := by decide +kernel
theorem d_X_appeal_2 : decode b_X_appeal 2 = .ok (.invokevirtual 91, 3) := by decide +kernel
theorem d_X_appeal_5 : decode b_X_appeal 5 = .ok (.astore_n 2, 1) := by decide +kernel
theorem d_X_appeal_6 : decode b_X_appeal 6 = .ok (.aload_n 2, 1) := by decide +kernel
theorem d_X_appeal_7 : decode b_X_appeal 7 = .ok (.invokevirtual 104, 3) := by decide +kernel
theorem d_X_appeal_10 : decode b_X_appeal 10 = .ok (.ifCond .ne 5, 3) := by decide +kernel
theorem d_X_appeal_13 : decode b_X_appeal 13 = .ok (.iconst 0, 1) := by decide +kernel
theorem d_X_appeal_14 : decode b_X_appeal 14 = .ok (.ireturn, 1) := by decide +kernel
theorem d_X_appeal_15 : decode b_X_appeal 15 = .ok (.aload_n 2, 1) := by decide +kernel
theorem d_X_appeal_16 : decode b_X_appeal 16 = .ok (.aload_n 0, 1) := by decide +kernel
theorem d_X_appeal_17 : decode b_X_appeal 17 = .ok (.getfield 10, 3) := by decide +kernel
theorem d_X_appeal_20 : decode b_X_appeal 20 = .ok (.aload_n 0, 1) := by decide +kernel
theorem d_X_appeal_21 : decode b_X_appeal 21 = .ok (.getfield 30, 3) := by decide +kernel
theorem d_X_appeal_24 : decode b_X_appeal 24 = .ok (.invokevirtual 112, 3) := by decide +kernel
theorem d_X_appeal_27 : decode b_X_appeal 27 = .ok (.aload_n 2, 1) := by decide +kernel
theorem d_X_appeal_28 : decode b_X_appeal 28 = .ok (.iconst 3, 1) := by decide +kernel
theorem d_X_appeal_29 : decode b_X_appeal 29 = .ok (.putfield 88, 3) := by decide +kernel
theorem d_X_appeal_32 : decode b_X_appeal 32 = .ok (.iconst 1, 1) := by decide +kernel
theorem d_X_appeal_33 : decode b_X_appeal 33 = .ok (.ireturn, 1) := by decide +kernel
abbrev b_X_decide : ByteArray := prog_1_method_9_code
def y_X_decide : MethodName := ⟨R_X, "decide", "(IZ)J"⟩
def w_X_decide : List Cond := .code y_X_decide b_X_decide 4 (some .long) :: BIG
theorem d_X_decide_0 : decode b_X_decide 0 = .ok (.aload_n 0, 1) := by decide +kernel
theorem d_X_decide_1 : decode b_X_decide 1 = .ok (.iload_n 1, 1) := by decide +kernel
theorem d_X_decide_2 : decode b_X_decide 2 = .ok (.invokevirtual 91, 3) := by decide +kernel
theorem d_X_decide_5 : decode b_X_decide 5 = .ok (.astore_n 3, 1) := by decide +kernel
theorem d_X_decide_6 : decode b_X_decide 6 = .ok (.aload_n 3, 1) := by decide +kernel
theorem d_X_decide_7 : decode b_X_decide 7 = .ok (.getfield 88, 3) := by decide +kernel
theorem d_X_decide_10 : decode b_X_decide 10 = .ok (.iconst 3, 1) := by decide +kernel
theorem d_X_decide_11 : decode b_X_decide 11 = .ok (.if_icmp .eq 7, 3) := by decide +kernel
theorem d_X_decide_14 : decode b_X_decide 14 = .ok (.ldc2_w 126, 3) := by decide +kernel
theorem d_X_decide_17 : decode b_X_decide 17 = .ok (.lreturn, 1) := by decide +kernel
theorem d_X_decide_18 : decode b_X_decide 18 = .ok (.iload_n 2, 1) := by decide +kernel
theorem d_X_decide_19 : decode b_X_decide 19 = .ok (.ifCond .ne 13, 3) := by decide +kernel
theorem d_X_decide_22 : decode b_X_decide 22 = .ok (.aload_n 3, 1) := by decide +kernel
theorem d_X_decide_23 : decode b_X_decide 23 = .ok (.aload_n 0, 1) := by decide +kernel
theorem d_X_decide_24 : decode b_X_decide 24 = .ok (.getfield 30, 3) := by decide +kernel
theorem d_X_decide_27 : decode b_X_decide 27 = .ok (.invokevirtual 100, 3) := by decide +kernel
theorem d_X_decide_30 : decode b_X_decide 30 = .ok (.lconst 0, 1) := by decide +kernel
theorem d_X_decide_31 : decode b_X_decide 31 = .ok (.lreturn, 1) := by decide +kernel
theorem d_X_decide_32 : decode b_X_decide 32 = .ok (.aload_n 3, 1) := by decide +kernel
theorem d_X_decide_33 : decode b_X_decide 33 = .ok (.iconst 5, 1) := by decide +kernel
theorem d_X_decide_34 : decode b_X_decide 34 = .ok (.invokevirtual 128, 3) := by decide +kernel
theorem d_X_decide_37 : decode b_X_decide 37 = .ok (.aload_n 3, 1) := by decide +kernel
theorem d_X_decide_38 : decode b_X_decide 38 = .ok (.getfield 131, 3) := by decide +kernel
theorem d_X_decide_41 : decode b_X_decide 41 = .ok (.lreturn, 1) := by decide +kernel
abbrev b_X_tick : ByteArray := prog_1_method_10_code
def y_X_tick : MethodName := ⟨R_X, "tick", "(I)I"⟩
def w_X_tick : List Cond := .code y_X_tick b_X_tick 5 (some .int) :: BIG
theorem d_X_tick_0 : decode b_X_tick 0 = .ok (.iload_n 1, 1) := by decide +kernel
theorem d_X_tick_1 : decode b_X_tick 1 = .ok (.aload_n 0, 1) := by decide +kernel
theorem d_X_tick_2 : decode b_X_tick 2 = .ok (.getfield 30, 3) := by decide +kernel
theorem d_X_tick_5 : decode b_X_tick 5 = .ok (.if_icmp .lt 9, 3) := by decide +kernel
theorem d_X_tick_8 : decode b_X_tick 8 = .ok (.iload_n 1, 1) := by decide +kernel
theorem d_X_tick_9 : decode b_X_tick 9 = .ok (.ldc 44, 2) := by decide +kernel
theorem d_X_tick_11 : decode b_X_tick 11 = .ok (.if_icmp .le 13, 3) := by decide +kernel
theorem d_X_tick_14 : decode b_X_tick 14 = .ok (.new 45, 3) := by decide +kernel
theorem d_X_tick_17 : decode b_X_tick 17 = .ok (.dup, 1) := by decide +kernel
theorem d_X_tick_18 : decode b_X_tick 18 = .ok (.ldc 135, 2) := by decide +kernel
theorem d_X_tick_20 : decode b_X_tick 20 = .ok (.invokespecial 49, 3) := by decide +kernel
theorem d_X_tick_23 : decode b_X_tick 23 = .ok (.athrow, 1) := by decide +kernel
theorem d_X_tick_24 : decode b_X_tick 24 = .ok (.aload_n 0, 1) := by decide +kernel
theorem d_X_tick_25 : decode b_X_tick 25 = .ok (.iload_n 1, 1) := by decide +kernel
theorem d_X_tick_26 : decode b_X_tick 26 = .ok (.putfield 30, 3) := by decide +kernel
theorem d_X_tick_29 : decode b_X_tick 29 = .ok (.iconst 0, 1) := by decide +kernel
theorem d_X_tick_30 : decode b_X_tick 30 = .ok (.istore_n 2, 1) := by decide +kernel
theorem d_X_tick_31 : decode b_X_tick 31 = .ok (.iconst 0, 1) := by decide +kernel
theorem d_X_tick_32 : decode b_X_tick 32 = .ok (.istore_n 3, 1) := by decide +kernel
theorem d_X_tick_33 : decode b_X_tick 33 = .ok (.iload_n 3, 1) := by decide +kernel
theorem d_X_tick_34 : decode b_X_tick 34 = .ok (.aload_n 0, 1) := by decide +kernel
theorem d_X_tick_35 : decode b_X_tick 35 = .ok (.getfield 26, 3) := by decide +kernel
theorem d_X_tick_38 : decode b_X_tick 38 = .ok (.if_icmp .ge 34, 3) := by decide +kernel
theorem d_X_tick_41 : decode b_X_tick 41 = .ok (.aload_n 0, 1) := by decide +kernel
theorem d_X_tick_42 : decode b_X_tick 42 = .ok (.getfield 18, 3) := by decide +kernel
theorem d_X_tick_45 : decode b_X_tick 45 = .ok (.iload_n 3, 1) := by decide +kernel
theorem d_X_tick_46 : decode b_X_tick 46 = .ok (.aaload, 1) := by decide +kernel
theorem d_X_tick_47 : decode b_X_tick 47 = .ok (.astore 4, 2) := by decide +kernel
theorem d_X_tick_49 : decode b_X_tick 49 = .ok (.aload 4, 2) := by decide +kernel
theorem d_X_tick_51 : decode b_X_tick 51 = .ok (.ifnull 15, 3) := by decide +kernel
theorem d_X_tick_54 : decode b_X_tick 54 = .ok (.aload 4, 2) := by decide +kernel
theorem d_X_tick_56 : decode b_X_tick 56 = .ok (.iload_n 1, 1) := by decide +kernel
theorem d_X_tick_57 : decode b_X_tick 57 = .ok (.invokevirtual 137, 3) := by decide +kernel
theorem d_X_tick_60 : decode b_X_tick 60 = .ok (.ifCond .eq 6, 3) := by decide +kernel
theorem d_X_tick_63 : decode b_X_tick 63 = .ok (.iinc 2 1, 3) := by decide +kernel
theorem d_X_tick_66 : decode b_X_tick 66 = .ok (.iinc 3 1, 3) := by decide +kernel
theorem d_X_tick_69 : decode b_X_tick 69 = .ok (.goto (-36), 3) := by decide +kernel
theorem d_X_tick_72 : decode b_X_tick 72 = .ok (.iload_n 2, 1) := by decide +kernel
theorem d_X_tick_73 : decode b_X_tick 73 = .ok (.ireturn, 1) := by decide +kernel
abbrev b_X_due : ByteArray := prog_1_method_11_code
def y_X_due : MethodName := ⟨R_X, "due", "(II)J"⟩
def w_X_due : List Cond := .code y_X_due b_X_due 4 (some .long) :: BIG
theorem d_X_due_0 : decode b_X_due 0 = .ok (.aload_n 0, 1) := by decide +kernel
theorem d_X_due_1 : decode b_X_due 1 = .ok (.iload_n 1, 1) := by decide +kernel
theorem d_X_due_2 : decode b_X_due 2 = .ok (.invokevirtual 91, 3) := by decide +kernel
theorem d_X_due_5 : decode b_X_due 5 = .ok (.astore_n 3, 1) := by decide +kernel
theorem d_X_due_6 : decode b_X_due 6 = .ok (.iload_n 2, 1) := by decide +kernel
theorem d_X_due_7 : decode b_X_due 7 = .ok (.tableswitch 71 0 4 #[33, 38, 56, 61, 66], 33) := by decide +kernel
theorem d_X_due_40 : decode b_X_due 40 = .ok (.aload_n 3, 1) := by decide +kernel
theorem d_X_due_41 : decode b_X_due 41 = .ok (.getfield 140, 3) := by decide +kernel
theorem d_X_due_44 : decode b_X_due 44 = .ok (.lreturn, 1) := by decide +kernel
theorem d_X_due_45 : decode b_X_due 45 = .ok (.aload_n 3, 1) := by decide +kernel
theorem d_X_due_46 : decode b_X_due 46 = .ok (.getfield 143, 3) := by decide +kernel
theorem d_X_due_49 : decode b_X_due 49 = .ok (.aload_n 3, 1) := by decide +kernel
theorem d_X_due_50 : decode b_X_due 50 = .ok (.aload_n 0, 1) := by decide +kernel
theorem d_X_due_51 : decode b_X_due 51 = .ok (.getfield 10, 3) := by decide +kernel
theorem d_X_due_54 : decode b_X_due 54 = .ok (.aload_n 0, 1) := by decide +kernel
theorem d_X_due_55 : decode b_X_due 55 = .ok (.getfield 30, 3) := by decide +kernel
theorem d_X_due_58 : decode b_X_due 58 = .ok (.invokevirtual 146, 3) := by decide +kernel
theorem d_X_due_61 : decode b_X_due 61 = .ok (.ladd, 1) := by decide +kernel
theorem d_X_due_62 : decode b_X_due 62 = .ok (.lreturn, 1) := by decide +kernel
theorem d_X_due_63 : decode b_X_due 63 = .ok (.aload_n 3, 1) := by decide +kernel
theorem d_X_due_64 : decode b_X_due 64 = .ok (.getfield 150, 3) := by decide +kernel
theorem d_X_due_67 : decode b_X_due 67 = .ok (.lreturn, 1) := by decide +kernel
theorem d_X_due_68 : decode b_X_due 68 = .ok (.aload_n 3, 1) := by decide +kernel
theorem d_X_due_69 : decode b_X_due 69 = .ok (.getfield 131, 3) := by decide +kernel
theorem d_X_due_72 : decode b_X_due 72 = .ok (.lreturn, 1) := by decide +kernel
theorem d_X_due_73 : decode b_X_due 73 = .ok (.aload_n 3, 1) := by decide +kernel
theorem d_X_due_74 : decode b_X_due 74 = .ok (.getfield 153, 3) := by decide +kernel
theorem d_X_due_77 : decode b_X_due 77 = .ok (.lreturn, 1) := by decide +kernel
theorem d_X_due_78 : decode b_X_due 78 = .ok (.new 45, 3) := by decide +kernel
theorem d_X_due_81 : decode b_X_due 81 = .ok (.dup, 1) := by decide +kernel
theorem d_X_due_82 : decode b_X_due 82 = .ok (.ldc 156, 2) := by decide +kernel
theorem d_X_due_84 : decode b_X_due 84 = .ok (.invokespecial 49, 3) := by decide +kernel
theorem d_X_due_87 : decode b_X_due 87 = .ok (.athrow, 1) := by decide +kernel
abbrev b_X_recourse : ByteArray := prog_1_method_12_code
def y_X_recourse : MethodName := ⟨R_X, "recourse", "(III)J"⟩
def w_X_recourse : List Cond := .code y_X_recourse b_X_recourse 6 (some .long) :: BIG
theorem d_X_recourse_0 : decode b_X_recourse 0 = .ok (.aload_n 0, 1) := by decide +kernel
theorem d_X_recourse_1 : decode b_X_recourse 1 = .ok (.iload_n 1, 1) := by decide +kernel
theorem d_X_recourse_2 : decode b_X_recourse 2 = .ok (.invokevirtual 91, 3) := by decide +kernel
theorem d_X_recourse_5 : decode b_X_recourse 5 = .ok (.astore 4, 2) := by decide +kernel
theorem d_X_recourse_7 : decode b_X_recourse 7 = .ok (.aload 4, 2) := by decide +kernel
theorem d_X_recourse_9 : decode b_X_recourse 9 = .ok (.iload_n 2, 1) := by decide +kernel
theorem d_X_recourse_10 : decode b_X_recourse 10 = .ok (.invokevirtual 108, 3) := by decide +kernel
theorem d_X_recourse_13 : decode b_X_recourse 13 = .ok (.istore 5, 2) := by decide +kernel
theorem d_X_recourse_15 : decode b_X_recourse 15 = .ok (.iload 5, 2) := by decide +kernel
theorem d_X_recourse_17 : decode b_X_recourse 17 = .ok (.iconst (-1), 1) := by decide +kernel
theorem d_X_recourse_18 : decode b_X_recourse 18 = .ok (.if_icmp .ne 13, 3) := by decide +kernel
theorem d_X_recourse_21 : decode b_X_recourse 21 = .ok (.new 45, 3) := by decide +kernel
theorem d_X_recourse_24 : decode b_X_recourse 24 = .ok (.dup, 1) := by decide +kernel
theorem d_X_recourse_25 : decode b_X_recourse 25 = .ok (.ldc 158, 2) := by decide +kernel
theorem d_X_recourse_27 : decode b_X_recourse 27 = .ok (.invokespecial 49, 3) := by decide +kernel
theorem d_X_recourse_30 : decode b_X_recourse 30 = .ok (.athrow, 1) := by decide +kernel
theorem d_X_recourse_31 : decode b_X_recourse 31 = .ok (.iload_n 3, 1) := by decide +kernel
theorem d_X_recourse_32 : decode b_X_recourse 32 = .ok (.tableswitch 64 0 2 #[28, 36, 44], 28) := by decide +kernel
theorem d_X_recourse_60 : decode b_X_recourse 60 = .ok (.aload 4, 2) := by decide +kernel
theorem d_X_recourse_62 : decode b_X_recourse 62 = .ok (.iload 5, 2) := by decide +kernel
theorem d_X_recourse_64 : decode b_X_recourse 64 = .ok (.invokevirtual 160, 3) := by decide +kernel
theorem d_X_recourse_67 : decode b_X_recourse 67 = .ok (.lreturn, 1) := by decide +kernel
theorem d_X_recourse_68 : decode b_X_recourse 68 = .ok (.aload 4, 2) := by decide +kernel
theorem d_X_recourse_70 : decode b_X_recourse 70 = .ok (.iload 5, 2) := by decide +kernel
theorem d_X_recourse_72 : decode b_X_recourse 72 = .ok (.invokevirtual 164, 3) := by decide +kernel
theorem d_X_recourse_75 : decode b_X_recourse 75 = .ok (.lreturn, 1) := by decide +kernel
theorem d_X_recourse_76 : decode b_X_recourse 76 = .ok (.lconst 0, 1) := by decide +kernel
theorem d_X_recourse_77 : decode b_X_recourse 77 = .ok (.aload 4, 2) := by decide +kernel
theorem d_X_recourse_79 : decode b_X_recourse 79 = .ok (.iload 5, 2) := by decide +kernel
theorem d_X_recourse_81 : decode b_X_recourse 81 = .ok (.invokevirtual 160, 3) := by decide +kernel
theorem d_X_recourse_84 : decode b_X_recourse 84 = .ok (.aload 4, 2) := by decide +kernel
theorem d_X_recourse_86 : decode b_X_recourse 86 = .ok (.iload 5, 2) := by decide +kernel
theorem d_X_recourse_88 : decode b_X_recourse 88 = .ok (.invokevirtual 164, 3) := by decide +kernel
theorem d_X_recourse_91 : decode b_X_recourse 91 = .ok (.lsub, 1) := by decide +kernel
theorem d_X_recourse_92 : decode b_X_recourse 92 = .ok (.invokestatic 167, 3) := by decide +kernel
theorem d_X_recourse_95 : decode b_X_recourse 95 = .ok (.lreturn, 1) := by decide +kernel
theorem d_X_recourse_96 : decode b_X_recourse 96 = .ok (.new 45, 3) := by decide +kernel
theorem d_X_recourse_99 : decode b_X_recourse 99 = .ok (.dup, 1) := by decide +kernel
theorem d_X_recourse_100 : decode b_X_recourse 100 = .ok (.ldc 156, 2) := by decide +kernel
theorem d_X_recourse_102 : decode b_X_recourse 102 = .ok (.invokespecial 49, 3) := by decide +kernel
theorem d_X_recourse_105 : decode b_X_recourse 105 = .ok (.athrow, 1) := by decide +kernel
abbrev b_X_look : ByteArray := prog_1_method_13_code
def y_X_look : MethodName := ⟨R_X, "look", "(II)I"⟩
def w_X_look : List Cond := .code y_X_look b_X_look 4 (some .int) :: BIG
theorem d_X_look_0 : decode b_X_look 0 = .ok (.aload_n 0, 1) := by decide +kernel
theorem d_X_look_1 : decode b_X_look 1 = .ok (.iload_n 1, 1) := by decide +kernel
theorem d_X_look_2 : decode b_X_look 2 = .ok (.invokevirtual 84, 3) := by decide +kernel
theorem d_X_look_5 : decode b_X_look 5 = .ok (.astore_n 3, 1) := by decide +kernel
theorem d_X_look_6 : decode b_X_look 6 = .ok (.aload_n 3, 1) := by decide +kernel
theorem d_X_look_7 : decode b_X_look 7 = .ok (.ifnonnull 13, 3) := by decide +kernel
theorem d_X_look_10 : decode b_X_look 10 = .ok (.new 173, 3) := by decide +kernel
theorem d_X_look_13 : decode b_X_look 13 = .ok (.dup, 1) := by decide +kernel
theorem d_X_look_14 : decode b_X_look 14 = .ok (.ldc 175, 2) := by decide +kernel
theorem d_X_look_16 : decode b_X_look 16 = .ok (.invokespecial 177, 3) := by decide +kernel
theorem d_X_look_19 : decode b_X_look 19 = .ok (.athrow, 1) := by decide +kernel
theorem d_X_look_20 : decode b_X_look 20 = .ok (.iload_n 2, 1) := by decide +kernel
theorem d_X_look_21 : decode b_X_look 21 = .ok (.tableswitch 51 0 3 #[31, 36, 41, 46], 31) := by decide +kernel
theorem d_X_look_52 : decode b_X_look 52 = .ok (.aload_n 3, 1) := by decide +kernel
theorem d_X_look_53 : decode b_X_look 53 = .ok (.getfield 88, 3) := by decide +kernel
theorem d_X_look_56 : decode b_X_look 56 = .ok (.ireturn, 1) := by decide +kernel
theorem d_X_look_57 : decode b_X_look 57 = .ok (.aload_n 3, 1) := by decide +kernel
theorem d_X_look_58 : decode b_X_look 58 = .ok (.getfield 178, 3) := by decide +kernel
theorem d_X_look_61 : decode b_X_look 61 = .ok (.ireturn, 1) := by decide +kernel
theorem d_X_look_62 : decode b_X_look 62 = .ok (.aload_n 3, 1) := by decide +kernel
theorem d_X_look_63 : decode b_X_look 63 = .ok (.getfield 97, 3) := by decide +kernel
theorem d_X_look_66 : decode b_X_look 66 = .ok (.ireturn, 1) := by decide +kernel
theorem d_X_look_67 : decode b_X_look 67 = .ok (.aload_n 3, 1) := by decide +kernel
theorem d_X_look_68 : decode b_X_look 68 = .ok (.getfield 181, 3) := by decide +kernel
theorem d_X_look_71 : decode b_X_look 71 = .ok (.ireturn, 1) := by decide +kernel
theorem d_X_look_72 : decode b_X_look 72 = .ok (.iload_n 2, 1) := by decide +kernel
theorem d_X_look_73 : decode b_X_look 73 = .ok (.iconst 4, 1) := by decide +kernel
theorem d_X_look_74 : decode b_X_look 74 = .ok (.if_icmp .lt 13, 3) := by decide +kernel
theorem d_X_look_77 : decode b_X_look 77 = .ok (.iload_n 2, 1) := by decide +kernel
theorem d_X_look_78 : decode b_X_look 78 = .ok (.iconst 4, 1) := by decide +kernel
theorem d_X_look_79 : decode b_X_look 79 = .ok (.aload_n 3, 1) := by decide +kernel
theorem d_X_look_80 : decode b_X_look 80 = .ok (.getfield 181, 3) := by decide +kernel
theorem d_X_look_83 : decode b_X_look 83 = .ok (.iadd, 1) := by decide +kernel
theorem d_X_look_84 : decode b_X_look 84 = .ok (.if_icmp .lt 13, 3) := by decide +kernel
theorem d_X_look_87 : decode b_X_look 87 = .ok (.new 173, 3) := by decide +kernel
theorem d_X_look_90 : decode b_X_look 90 = .ok (.dup, 1) := by decide +kernel
theorem d_X_look_91 : decode b_X_look 91 = .ok (.ldc 184, 2) := by decide +kernel
theorem d_X_look_93 : decode b_X_look 93 = .ok (.invokespecial 177, 3) := by decide +kernel
theorem d_X_look_96 : decode b_X_look 96 = .ok (.athrow, 1) := by decide +kernel
theorem d_X_look_97 : decode b_X_look 97 = .ok (.aload_n 3, 1) := by decide +kernel
theorem d_X_look_98 : decode b_X_look 98 = .ok (.iload_n 2, 1) := by decide +kernel
theorem d_X_look_99 : decode b_X_look 99 = .ok (.iconst 4, 1) := by decide +kernel
theorem d_X_look_100 : decode b_X_look 100 = .ok (.isub, 1) := by decide +kernel
theorem d_X_look_101 : decode b_X_look 101 = .ok (.invokevirtual 186, 3) := by decide +kernel
theorem d_X_look_104 : decode b_X_look 104 = .ok (.ireturn, 1) := by decide +kernel
abbrev b_X_sum : ByteArray := prog_1_method_14_code
def y_X_sum : MethodName := ⟨R_X, "sum", "(I)J"⟩
def w_X_sum : List Cond := .code y_X_sum b_X_sum 2 (some .long) :: BIG
theorem d_X_sum_0 : decode b_X_sum 0 = .ok (.iload_n 1, 1) := by decide +kernel
theorem d_X_sum_1 : decode b_X_sum 1 = .ok (.bipush 20, 2) := by decide +kernel
theorem d_X_sum_3 : decode b_X_sum 3 = .ok (.if_icmp .lt 19, 3) := by decide +kernel
theorem d_X_sum_6 : decode b_X_sum 6 = .ok (.iload_n 1, 1) := by decide +kernel
theorem d_X_sum_7 : decode b_X_sum 7 = .ok (.bipush 36, 2) := by decide +kernel
theorem d_X_sum_9 : decode b_X_sum 9 = .ok (.if_icmp .ge 13, 3) := by decide +kernel
theorem d_X_sum_12 : decode b_X_sum 12 = .ok (.aload_n 0, 1) := by decide +kernel
theorem d_X_sum_13 : decode b_X_sum 13 = .ok (.getfield 22, 3) := by decide +kernel
theorem d_X_sum_16 : decode b_X_sum 16 = .ok (.iload_n 1, 1) := by decide +kernel
theorem d_X_sum_17 : decode b_X_sum 17 = .ok (.bipush 20, 2) := by decide +kernel
theorem d_X_sum_19 : decode b_X_sum 19 = .ok (.isub, 1) := by decide +kernel
theorem d_X_sum_20 : decode b_X_sum 20 = .ok (.laload, 1) := by decide +kernel
theorem d_X_sum_21 : decode b_X_sum 21 = .ok (.lreturn, 1) := by decide +kernel
theorem d_X_sum_22 : decode b_X_sum 22 = .ok (.iload_n 1, 1) := by decide +kernel
theorem d_X_sum_23 : decode b_X_sum 23 = .ok (.tableswitch 72 0 7 #[45, 45, 45, 45, 45, 51, 57, 63], 45) := by decide +kernel
theorem d_X_sum_68 : decode b_X_sum 68 = .ok (.aload_n 0, 1) := by decide +kernel
theorem d_X_sum_69 : decode b_X_sum 69 = .ok (.iload_n 1, 1) := by decide +kernel
theorem d_X_sum_70 : decode b_X_sum 70 = .ok (.invokevirtual 189, 3) := by decide +kernel
theorem d_X_sum_73 : decode b_X_sum 73 = .ok (.lreturn, 1) := by decide +kernel
theorem d_X_sum_74 : decode b_X_sum 74 = .ok (.aload_n 0, 1) := by decide +kernel
theorem d_X_sum_75 : decode b_X_sum 75 = .ok (.getfield 26, 3) := by decide +kernel
theorem d_X_sum_78 : decode b_X_sum 78 = .ok (.i2l, 1) := by decide +kernel
theorem d_X_sum_79 : decode b_X_sum 79 = .ok (.lreturn, 1) := by decide +kernel
theorem d_X_sum_80 : decode b_X_sum 80 = .ok (.aload_n 0, 1) := by decide +kernel
theorem d_X_sum_81 : decode b_X_sum 81 = .ok (.getfield 30, 3) := by decide +kernel
theorem d_X_sum_84 : decode b_X_sum 84 = .ok (.i2l, 1) := by decide +kernel
theorem d_X_sum_85 : decode b_X_sum 85 = .ok (.lreturn, 1) := by decide +kernel
theorem d_X_sum_86 : decode b_X_sum 86 = .ok (.aload_n 0, 1) := by decide +kernel
theorem d_X_sum_87 : decode b_X_sum 87 = .ok (.getfield 10, 3) := by decide +kernel
theorem d_X_sum_90 : decode b_X_sum 90 = .ok (.getfield 52, 3) := by decide +kernel
theorem d_X_sum_93 : decode b_X_sum 93 = .ok (.i2l, 1) := by decide +kernel
theorem d_X_sum_94 : decode b_X_sum 94 = .ok (.lreturn, 1) := by decide +kernel
theorem d_X_sum_95 : decode b_X_sum 95 = .ok (.ldc2_w 126, 3) := by decide +kernel
theorem d_X_sum_98 : decode b_X_sum 98 = .ok (.lreturn, 1) := by decide +kernel
abbrev b_X_overAllDebts : ByteArray := prog_1_method_15_code
def y_X_overAllDebts : MethodName := ⟨R_X, "overAllDebts", "(I)J"⟩
def w_X_overAllDebts : List Cond := .code y_X_overAllDebts b_X_overAllDebts 6 (some .long) :: BIG
theorem d_X_overAllDebts_0 : decode b_X_overAllDebts 0 = .ok (.lconst 0, 1) := by decide +kernel
theorem d_X_overAllDebts_1 : decode b_X_overAllDebts 1 = .ok (.lstore_n 2, 1) := by decide +kernel
theorem d_X_overAllDebts_2 : decode b_X_overAllDebts 2 = .ok (.iconst 0, 1) := by decide +kernel
theorem d_X_overAllDebts_3 : decode b_X_overAllDebts 3 = .ok (.istore 4, 2) := by decide +kernel
theorem d_X_overAllDebts_5 : decode b_X_overAllDebts 5 = .ok (.iload 4, 2) := by decide +kernel
theorem d_X_overAllDebts_7 : decode b_X_overAllDebts 7 = .ok (.aload_n 0, 1) := by decide +kernel
theorem d_X_overAllDebts_8 : decode b_X_overAllDebts 8 = .ok (.getfield 26, 3) := by decide +kernel
theorem d_X_overAllDebts_11 : decode b_X_overAllDebts 11 = .ok (.if_icmp .ge 32, 3) := by decide +kernel
theorem d_X_overAllDebts_14 : decode b_X_overAllDebts 14 = .ok (.aload_n 0, 1) := by decide +kernel
theorem d_X_overAllDebts_15 : decode b_X_overAllDebts 15 = .ok (.getfield 18, 3) := by decide +kernel
theorem d_X_overAllDebts_18 : decode b_X_overAllDebts 18 = .ok (.iload 4, 2) := by decide +kernel
theorem d_X_overAllDebts_20 : decode b_X_overAllDebts 20 = .ok (.aaload, 1) := by decide +kernel
theorem d_X_overAllDebts_21 : decode b_X_overAllDebts 21 = .ok (.astore 5, 2) := by decide +kernel
theorem d_X_overAllDebts_23 : decode b_X_overAllDebts 23 = .ok (.aload 5, 2) := by decide +kernel
theorem d_X_overAllDebts_25 : decode b_X_overAllDebts 25 = .ok (.ifnull 12, 3) := by decide +kernel
theorem d_X_overAllDebts_28 : decode b_X_overAllDebts 28 = .ok (.lload_n 2, 1) := by decide +kernel
theorem d_X_overAllDebts_29 : decode b_X_overAllDebts 29 = .ok (.aload 5, 2) := by decide +kernel
theorem d_X_overAllDebts_31 : decode b_X_overAllDebts 31 = .ok (.iload_n 1, 1) := by decide +kernel
theorem d_X_overAllDebts_32 : decode b_X_overAllDebts 32 = .ok (.invokevirtual 192, 3) := by decide +kernel
theorem d_X_overAllDebts_35 : decode b_X_overAllDebts 35 = .ok (.ladd, 1) := by decide +kernel
theorem d_X_overAllDebts_36 : decode b_X_overAllDebts 36 = .ok (.lstore_n 2, 1) := by decide +kernel
theorem d_X_overAllDebts_37 : decode b_X_overAllDebts 37 = .ok (.iinc 4 1, 3) := by decide +kernel
theorem d_X_overAllDebts_40 : decode b_X_overAllDebts 40 = .ok (.goto (-35), 3) := by decide +kernel
theorem d_X_overAllDebts_43 : decode b_X_overAllDebts 43 = .ok (.lload_n 2, 1) := by decide +kernel
theorem d_X_overAllDebts_44 : decode b_X_overAllDebts 44 = .ok (.lreturn, 1) := by decide +kernel
abbrev b_X_find : ByteArray := prog_1_method_16_code
def y_X_find : MethodName := ⟨R_X, "find", "(I)LDebtRows$Debt;"⟩
def w_X_find : List Cond := .code y_X_find b_X_find 2 (some (.object "DebtRows$Debt")) :: BIG
theorem d_X_find_0 : decode b_X_find 0 = .ok (.iload_n 1, 1) := by decide +kernel
theorem d_X_find_1 : decode b_X_find 1 = .ok (.iconst 1, 1) := by decide +kernel
theorem d_X_find_2 : decode b_X_find 2 = .ok (.if_icmp .lt 11, 3) := by decide +kernel
theorem d_X_find_5 : decode b_X_find 5 = .ok (.iload_n 1, 1) := by decide +kernel
theorem d_X_find_6 : decode b_X_find 6 = .ok (.aload_n 0, 1) := by decide +kernel
theorem d_X_find_7 : decode b_X_find 7 = .ok (.getfield 26, 3) := by decide +kernel
theorem d_X_find_10 : decode b_X_find 10 = .ok (.if_icmp .le 5, 3) := by decide +kernel
theorem d_X_find_13 : decode b_X_find 13 = .ok (.aconst_null, 1) := by decide +kernel
theorem d_X_find_14 : decode b_X_find 14 = .ok (.areturn, 1) := by decide +kernel
theorem d_X_find_15 : decode b_X_find 15 = .ok (.aload_n 0, 1) := by decide +kernel
theorem d_X_find_16 : decode b_X_find 16 = .ok (.getfield 18, 3) := by decide +kernel
theorem d_X_find_19 : decode b_X_find 19 = .ok (.iload_n 1, 1) := by decide +kernel
theorem d_X_find_20 : decode b_X_find 20 = .ok (.iconst 1, 1) := by decide +kernel
theorem d_X_find_21 : decode b_X_find 21 = .ok (.isub, 1) := by decide +kernel
theorem d_X_find_22 : decode b_X_find 22 = .ok (.aaload, 1) := by decide +kernel
theorem d_X_find_23 : decode b_X_find 23 = .ok (.areturn, 1) := by decide +kernel
abbrev b_X_findOrRefuse : ByteArray := prog_1_method_17_code
def y_X_findOrRefuse : MethodName := ⟨R_X, "findOrRefuse", "(I)LDebtRows$Debt;"⟩
def w_X_findOrRefuse : List Cond := .code y_X_findOrRefuse b_X_findOrRefuse 3 (some (.object "DebtRows$Debt")) :: BIG
theorem d_X_findOrRefuse_0 : decode b_X_findOrRefuse 0 = .ok (.aload_n 0, 1) := by decide +kernel
theorem d_X_findOrRefuse_1 : decode b_X_findOrRefuse 1 = .ok (.iload_n 1, 1) := by decide +kernel
theorem d_X_findOrRefuse_2 : decode b_X_findOrRefuse 2 = .ok (.invokevirtual 84, 3) := by decide +kernel
theorem d_X_findOrRefuse_5 : decode b_X_findOrRefuse 5 = .ok (.astore_n 2, 1) := by decide +kernel
theorem d_X_findOrRefuse_6 : decode b_X_findOrRefuse 6 = .ok (.aload_n 2, 1) := by decide +kernel
theorem d_X_findOrRefuse_7 : decode b_X_findOrRefuse 7 = .ok (.ifnonnull 13, 3) := by decide +kernel
theorem d_X_findOrRefuse_10 : decode b_X_findOrRefuse 10 = .ok (.new 45, 3) := by decide +kernel
theorem d_X_findOrRefuse_13 : decode b_X_findOrRefuse 13 = .ok (.dup, 1) := by decide +kernel
theorem d_X_findOrRefuse_14 : decode b_X_findOrRefuse 14 = .ok (.ldc 175, 2) := by decide +kernel
theorem d_X_findOrRefuse_16 : decode b_X_findOrRefuse 16 = .ok (.invokespecial 49, 3) := by decide +kernel
theorem d_X_findOrRefuse_19 : decode b_X_findOrRefuse 19 = .ok (.athrow, 1) := by decide +kernel
theorem d_X_findOrRefuse_20 : decode b_X_findOrRefuse 20 = .ok (.aload_n 2, 1) := by decide +kernel
theorem d_X_findOrRefuse_21 : decode b_X_findOrRefuse 21 = .ok (.areturn, 1) := by decide +kernel
abbrev b_X_isPerson : ByteArray := prog_1_method_18_code
def y_X_isPerson : MethodName := ⟨R_X, "isPerson", "(I)Z"⟩
def w_X_isPerson : List Cond := .code y_X_isPerson b_X_isPerson 1 (some .boolean) :: BIG
theorem d_X_isPerson_0 : decode b_X_isPerson 0 = .ok (.iload_n 0, 1) := by decide +kernel
theorem d_X_isPerson_1 : decode b_X_isPerson 1 = .ok (.ifCond .lt 13, 3) := by decide +kernel
theorem d_X_isPerson_4 : decode b_X_isPerson 4 = .ok (.iload_n 0, 1) := by decide +kernel
theorem d_X_isPerson_5 : decode b_X_isPerson 5 = .ok (.bipush 16, 2) := by decide +kernel
theorem d_X_isPerson_7 : decode b_X_isPerson 7 = .ok (.if_icmp .ge 7, 3) := by decide +kernel
theorem d_X_isPerson_10 : decode b_X_isPerson 10 = .ok (.iconst 1, 1) := by decide +kernel
theorem d_X_isPerson_11 : decode b_X_isPerson 11 = .ok (.goto 4, 3) := by decide +kernel
theorem d_X_isPerson_14 : decode b_X_isPerson 14 = .ok (.iconst 0, 1) := by decide +kernel
theorem d_X_isPerson_15 : decode b_X_isPerson 15 = .ok (.ireturn, 1) := by decide +kernel
abbrev b_X_isSum : ByteArray := prog_1_method_19_code
def y_X_isSum : MethodName := ⟨R_X, "isSum", "(J)Z"⟩
def w_X_isSum : List Cond := .code y_X_isSum b_X_isSum 2 (some .boolean) :: BIG
theorem d_X_isSum_0 : decode b_X_isSum 0 = .ok (.lload_n 0, 1) := by decide +kernel
theorem d_X_isSum_1 : decode b_X_isSum 1 = .ok (.lconst 1, 1) := by decide +kernel
theorem d_X_isSum_2 : decode b_X_isSum 2 = .ok (.lcmp, 1) := by decide +kernel
theorem d_X_isSum_3 : decode b_X_isSum 3 = .ok (.ifCond .lt 15, 3) := by decide +kernel
theorem d_X_isSum_6 : decode b_X_isSum 6 = .ok (.lload_n 0, 1) := by decide +kernel
theorem d_X_isSum_7 : decode b_X_isSum 7 = .ok (.ldc2_w 195, 3) := by decide +kernel
theorem d_X_isSum_10 : decode b_X_isSum 10 = .ok (.lcmp, 1) := by decide +kernel
theorem d_X_isSum_11 : decode b_X_isSum 11 = .ok (.ifCond .gt 7, 3) := by decide +kernel
theorem d_X_isSum_14 : decode b_X_isSum 14 = .ok (.iconst 1, 1) := by decide +kernel
theorem d_X_isSum_15 : decode b_X_isSum 15 = .ok (.goto 4, 3) := by decide +kernel
theorem d_X_isSum_18 : decode b_X_isSum 18 = .ok (.iconst 0, 1) := by decide +kernel
theorem d_X_isSum_19 : decode b_X_isSum 19 = .ok (.ireturn, 1) := by decide +kernel
end
section
theorem mB_0 : (.selects "DebtRows" ⟨"DebtRows", "find", "(I)LDebtRows$Debt;"⟩ ⟨"DebtRows", "find", "(I)LDebtRows$Debt;"⟩ : Cond) ∈ BIG := List.mem_of_getElem? (i := 0) rfl
theorem mB_1 : (.selects "DebtRows" ⟨"DebtRows", "overAllDebts", "(I)J"⟩ ⟨"DebtRows", "overAllDebts", "(I)J"⟩ : Cond) ∈ BIG := List.mem_of_getElem? (i := 1) rfl
theorem mB_3 : (.selects "DebtRows" ⟨"DebtRows", "findOrRefuse", "(I)LDebtRows$Debt;"⟩ ⟨"DebtRows", "findOrRefuse", "(I)LDebtRows$Debt;"⟩ : Cond) ∈ BIG := List.mem_of_getElem? (i := 3) rfl
theorem mB_15 : ((Jvm.Cond.initialized "DebtRows") : Cond) ∈ BIG := List.mem_of_getElem? (i := 15) rfl
theorem mB_16 : ((Jvm.Cond.initialized "DebtRows$Rates") : Cond) ∈ BIG := List.mem_of_getElem? (i := 16) rfl
theorem mB_21 : ((Jvm.Cond.initialized "java/lang/ArithmeticException") : Cond) ∈ BIG := List.mem_of_getElem? (i := 21) rfl
theorem mB_22 : ((Jvm.Cond.initialized "java/lang/IllegalArgumentException") : Cond) ∈ BIG := List.mem_of_getElem? (i := 22) rfl
theorem mB_23 : ((Jvm.Cond.initialized "java/lang/IllegalStateException") : Cond) ∈ BIG := List.mem_of_getElem? (i := 23) rfl
theorem mB_24 : ((Jvm.Cond.initialized "DebtRows$Debt") : Cond) ∈ BIG := List.mem_of_getElem? (i := 24) rfl
theorem mB_25 : ((Jvm.Cond.initialized "java/lang/Math") : Cond) ∈ BIG := List.mem_of_getElem? (i := 25) rfl
theorem mB_26 : ((Jvm.Cond.initialized "java/lang/IndexOutOfBoundsException") : Cond) ∈ BIG := List.mem_of_getElem? (i := 26) rfl
theorem mB_32 : ((Jvm.Cond.methodLink "DebtRows" (1 : Nat) ({ cls := "java/lang/Object", name := "<init>", desc := "()V" } : Jvm.MethodName)) : Cond) ∈ BIG := List.mem_of_getElem? (i := 32) rfl
theorem mB_33 : ((Jvm.Cond.instanceMethod ({ cls := "java/lang/Object", name := "<init>", desc := "()V" } : Jvm.MethodName)) : Cond) ∈ BIG := List.mem_of_getElem? (i := 33) rfl
theorem mB_35 : ((Jvm.Cond.classLink "DebtRows" (7 : Nat) "DebtRows$Rates") : Cond) ∈ BIG := List.mem_of_getElem? (i := 35) rfl
theorem mB_36 : ((Jvm.Cond.instantiable "DebtRows$Rates" (4 : Nat)) : Cond) ∈ BIG := List.mem_of_getElem? (i := 36) rfl
theorem mB_37 : ((Jvm.Cond.methodLink "DebtRows" (9 : Nat) ({ cls := "DebtRows$Rates", name := "<init>", desc := "()V" } : Jvm.MethodName)) : Cond) ∈ BIG := List.mem_of_getElem? (i := 37) rfl
theorem mB_38 : ((Jvm.Cond.instanceMethod ({ cls := "DebtRows$Rates", name := "<init>", desc := "()V" } : Jvm.MethodName)) : Cond) ∈ BIG := List.mem_of_getElem? (i := 38) rfl
theorem mB_39 : ((Jvm.Cond.code ({ cls := "DebtRows$Rates", name := "<init>", desc := "()V" } : Jvm.MethodName) prog_3_method_1_code (1 : Nat) (Option.none : Option Jvm.ClassFile.FieldType)) : Cond) ∈ BIG := List.mem_of_getElem? (i := 39) rfl
theorem mB_40 : ((Jvm.Cond.methodLink "DebtRows$Rates" (3 : Nat) ({ cls := "java/lang/Object", name := "<init>", desc := "()V" } : Jvm.MethodName)) : Cond) ∈ BIG := List.mem_of_getElem? (i := 40) rfl
theorem mB_41 : ((Jvm.Cond.fieldLink "DebtRows$Rates" (9 : Nat) "DebtRows$Rates" "from" "[I") : Cond) ∈ BIG := List.mem_of_getElem? (i := 41) rfl
theorem mB_42 : ((Jvm.Cond.fieldLink "DebtRows$Rates" (15 : Nat) "DebtRows$Rates" "up" "[I") : Cond) ∈ BIG := List.mem_of_getElem? (i := 42) rfl
theorem mB_43 : ((Jvm.Cond.fieldLink "DebtRows$Rates" (18 : Nat) "DebtRows$Rates" "down" "[I") : Cond) ∈ BIG := List.mem_of_getElem? (i := 43) rfl
theorem mB_44 : ((Jvm.Cond.fieldLink "DebtRows$Rates" (21 : Nat) "DebtRows$Rates" "count" "I") : Cond) ∈ BIG := List.mem_of_getElem? (i := 44) rfl
theorem mB_45 : ((Jvm.Cond.fieldLink "DebtRows" (52 : Nat) "DebtRows$Rates" "count" "I") : Cond) ∈ BIG := List.mem_of_getElem? (i := 45) rfl
theorem mB_51 : ((Jvm.Cond.arrayClass Jvm.ClassFile.FieldType.int) : Cond) ∈ BIG := List.mem_of_getElem? (i := 51) rfl
theorem mB_52 : ((Jvm.Cond.classLink "DebtRows" (16 : Nat) "DebtRows$Debt") : Cond) ∈ BIG := List.mem_of_getElem? (i := 52) rfl
theorem mB_53 : ((Jvm.Cond.fieldLink "DebtRows" (10 : Nat) "DebtRows" "rates" "LDebtRows$Rates;") : Cond) ∈ BIG := List.mem_of_getElem? (i := 53) rfl
theorem mB_54 : ((Jvm.Cond.fieldLink "DebtRows" (18 : Nat) "DebtRows" "debts" "[LDebtRows$Debt;") : Cond) ∈ BIG := List.mem_of_getElem? (i := 54) rfl
theorem mB_55 : ((Jvm.Cond.fieldLink "DebtRows" (22 : Nat) "DebtRows" "credit" "[J") : Cond) ∈ BIG := List.mem_of_getElem? (i := 55) rfl
theorem mB_56 : ((Jvm.Cond.fieldLink "DebtRows" (26 : Nat) "DebtRows" "debtCount" "I") : Cond) ∈ BIG := List.mem_of_getElem? (i := 56) rfl
theorem mB_57 : ((Jvm.Cond.fieldLink "DebtRows" (30 : Nat) "DebtRows" "today" "I") : Cond) ∈ BIG := List.mem_of_getElem? (i := 57) rfl
theorem mB_64 : ((Jvm.Cond.arrayClass Jvm.ClassFile.FieldType.long) : Cond) ∈ BIG := List.mem_of_getElem? (i := 64) rfl
theorem mB_69 : ((Jvm.Cond.methodLink "DebtRows" (84 : Nat) ({ cls := "DebtRows", name := "find", desc := "(I)LDebtRows$Debt;" } : Jvm.MethodName)) : Cond) ∈ BIG := List.mem_of_getElem? (i := 69) rfl
theorem mB_70 : ((Jvm.Cond.instanceMethod ({ cls := "DebtRows", name := "find", desc := "(I)LDebtRows$Debt;" } : Jvm.MethodName)) : Cond) ∈ BIG := List.mem_of_getElem? (i := 70) rfl
theorem mB_71 : ((Jvm.Cond.code ({ cls := "DebtRows", name := "find", desc := "(I)LDebtRows$Debt;" } : Jvm.MethodName) prog_1_method_16_code (2 : Nat) (Option.some (Jvm.ClassFile.FieldType.object "DebtRows$Debt"))) : Cond) ∈ BIG := List.mem_of_getElem? (i := 71) rfl
theorem mB_72 : ((Jvm.Cond.methodLink "DebtRows" (70 : Nat) ({ cls := "DebtRows", name := "isPerson", desc := "(I)Z" } : Jvm.MethodName)) : Cond) ∈ BIG := List.mem_of_getElem? (i := 72) rfl
theorem mB_73 : ((Jvm.Cond.static ({ cls := "DebtRows", name := "isPerson", desc := "(I)Z" } : Jvm.MethodName)) : Cond) ∈ BIG := List.mem_of_getElem? (i := 73) rfl
theorem mB_74 : ((Jvm.Cond.code ({ cls := "DebtRows", name := "isPerson", desc := "(I)Z" } : Jvm.MethodName) prog_1_method_18_code (1 : Nat) (Option.some Jvm.ClassFile.FieldType.boolean)) : Cond) ∈ BIG := List.mem_of_getElem? (i := 74) rfl
theorem mB_75 : ((Jvm.Cond.methodLink "DebtRows" (81 : Nat) ({ cls := "DebtRows$Debt", name := "join", desc := "(I)Z" } : Jvm.MethodName)) : Cond) ∈ BIG := List.mem_of_getElem? (i := 75) rfl
theorem mB_76 : ((Jvm.Cond.instanceMethod ({ cls := "DebtRows$Debt", name := "join", desc := "(I)Z" } : Jvm.MethodName)) : Cond) ∈ BIG := List.mem_of_getElem? (i := 76) rfl
theorem mB_77 : ((Jvm.Cond.selects "DebtRows$Debt" ({ cls := "DebtRows$Debt", name := "join", desc := "(I)Z" } : Jvm.MethodName) ({ cls := "DebtRows$Debt", name := "join", desc := "(I)Z" } : Jvm.MethodName)) : Cond) ∈ BIG := List.mem_of_getElem? (i := 77) rfl
theorem mB_78 : ((Jvm.Cond.code ({ cls := "DebtRows$Debt", name := "join", desc := "(I)Z" } : Jvm.MethodName) prog_2_method_2_code (2 : Nat) (Option.some Jvm.ClassFile.FieldType.boolean)) : Cond) ∈ BIG := List.mem_of_getElem? (i := 78) rfl
theorem mB_79 : ((Jvm.Cond.methodLink "DebtRows$Debt" (39 : Nat) ({ cls := "DebtRows$Debt", name := "placeOf", desc := "(I)I" } : Jvm.MethodName)) : Cond) ∈ BIG := List.mem_of_getElem? (i := 79) rfl
theorem mB_80 : ((Jvm.Cond.instanceMethod ({ cls := "DebtRows$Debt", name := "placeOf", desc := "(I)I" } : Jvm.MethodName)) : Cond) ∈ BIG := List.mem_of_getElem? (i := 80) rfl
theorem mB_81 : ((Jvm.Cond.selects "DebtRows$Debt" ({ cls := "DebtRows$Debt", name := "placeOf", desc := "(I)I" } : Jvm.MethodName) ({ cls := "DebtRows$Debt", name := "placeOf", desc := "(I)I" } : Jvm.MethodName)) : Cond) ∈ BIG := List.mem_of_getElem? (i := 81) rfl
theorem mB_82 : ((Jvm.Cond.code ({ cls := "DebtRows$Debt", name := "placeOf", desc := "(I)I" } : Jvm.MethodName) prog_2_method_3_code (3 : Nat) (Option.some Jvm.ClassFile.FieldType.int)) : Cond) ∈ BIG := List.mem_of_getElem? (i := 82) rfl
theorem mB_87 : ((Jvm.Cond.methodLink "DebtRows" (189 : Nat) ({ cls := "DebtRows", name := "overAllDebts", desc := "(I)J" } : Jvm.MethodName)) : Cond) ∈ BIG := List.mem_of_getElem? (i := 87) rfl
theorem mB_88 : ((Jvm.Cond.instanceMethod ({ cls := "DebtRows", name := "overAllDebts", desc := "(I)J" } : Jvm.MethodName)) : Cond) ∈ BIG := List.mem_of_getElem? (i := 88) rfl
theorem mB_89 : ((Jvm.Cond.code ({ cls := "DebtRows", name := "overAllDebts", desc := "(I)J" } : Jvm.MethodName) prog_1_method_15_code (6 : Nat) (Option.some Jvm.ClassFile.FieldType.long)) : Cond) ∈ BIG := List.mem_of_getElem? (i := 89) rfl
theorem mB_90 : ((Jvm.Cond.methodLink "DebtRows" (192 : Nat) ({ cls := "DebtRows$Debt", name := "part", desc := "(I)J" } : Jvm.MethodName)) : Cond) ∈ BIG := List.mem_of_getElem? (i := 90) rfl
theorem mB_91 : ((Jvm.Cond.instanceMethod ({ cls := "DebtRows$Debt", name := "part", desc := "(I)J" } : Jvm.MethodName)) : Cond) ∈ BIG := List.mem_of_getElem? (i := 91) rfl
theorem mB_92 : ((Jvm.Cond.selects "DebtRows$Debt" ({ cls := "DebtRows$Debt", name := "part", desc := "(I)J" } : Jvm.MethodName) ({ cls := "DebtRows$Debt", name := "part", desc := "(I)J" } : Jvm.MethodName)) : Cond) ∈ BIG := List.mem_of_getElem? (i := 92) rfl
theorem mB_93 : ((Jvm.Cond.code ({ cls := "DebtRows$Debt", name := "part", desc := "(I)J" } : Jvm.MethodName) prog_2_method_20_code (2 : Nat) (Option.some Jvm.ClassFile.FieldType.long)) : Cond) ∈ BIG := List.mem_of_getElem? (i := 93) rfl
theorem mB_94 : ((Jvm.Cond.constantLong "DebtRows" (126 : Nat) (-1 : Int64)) : Cond) ∈ BIG := List.mem_of_getElem? (i := 94) rfl
theorem mB_104 : ((Jvm.Cond.classLink "DebtRows" (33 : Nat) "java/lang/ArithmeticException") : Cond) ∈ BIG := List.mem_of_getElem? (i := 104) rfl
theorem mB_156 : ((Jvm.Cond.methodLink "DebtRows" (40 : Nat) ({ cls := "DebtRows$Rates", name := "latestDay", desc := "()I" } : Jvm.MethodName)) : Cond) ∈ BIG := List.mem_of_getElem? (i := 156) rfl
theorem mB_157 : ((Jvm.Cond.instanceMethod ({ cls := "DebtRows$Rates", name := "latestDay", desc := "()I" } : Jvm.MethodName)) : Cond) ∈ BIG := List.mem_of_getElem? (i := 157) rfl
theorem mB_158 : ((Jvm.Cond.selects "DebtRows$Rates" ({ cls := "DebtRows$Rates", name := "latestDay", desc := "()I" } : Jvm.MethodName) ({ cls := "DebtRows$Rates", name := "latestDay", desc := "()I" } : Jvm.MethodName)) : Cond) ∈ BIG := List.mem_of_getElem? (i := 158) rfl
theorem mB_159 : ((Jvm.Cond.code ({ cls := "DebtRows$Rates", name := "latestDay", desc := "()I" } : Jvm.MethodName) prog_3_method_2_code (1 : Nat) (Option.some Jvm.ClassFile.FieldType.int)) : Cond) ∈ BIG := List.mem_of_getElem? (i := 159) rfl
theorem mB_160 : ((Jvm.Cond.constant "DebtRows" (44 : Nat) (100000 : Int32)) : Cond) ∈ BIG := List.mem_of_getElem? (i := 160) rfl
theorem mB_161 : ((Jvm.Cond.classLink "DebtRows" (45 : Nat) "java/lang/IllegalArgumentException") : Cond) ∈ BIG := List.mem_of_getElem? (i := 161) rfl
theorem mB_175 : ((Jvm.Cond.classLink "DebtRows" (55 : Nat) "java/lang/IllegalStateException") : Cond) ∈ BIG := List.mem_of_getElem? (i := 175) rfl
theorem mB_189 : ((Jvm.Cond.methodLink "DebtRows" (60 : Nat) ({ cls := "DebtRows$Rates", name := "append", desc := "(III)V" } : Jvm.MethodName)) : Cond) ∈ BIG := List.mem_of_getElem? (i := 189) rfl
theorem mB_190 : ((Jvm.Cond.instanceMethod ({ cls := "DebtRows$Rates", name := "append", desc := "(III)V" } : Jvm.MethodName)) : Cond) ∈ BIG := List.mem_of_getElem? (i := 190) rfl
theorem mB_191 : ((Jvm.Cond.selects "DebtRows$Rates" ({ cls := "DebtRows$Rates", name := "append", desc := "(III)V" } : Jvm.MethodName) ({ cls := "DebtRows$Rates", name := "append", desc := "(III)V" } : Jvm.MethodName)) : Cond) ∈ BIG := List.mem_of_getElem? (i := 191) rfl
theorem mB_192 : ((Jvm.Cond.code ({ cls := "DebtRows$Rates", name := "append", desc := "(III)V" } : Jvm.MethodName) prog_3_method_3_code (4 : Nat) (Option.none : Option Jvm.ClassFile.FieldType)) : Cond) ∈ BIG := List.mem_of_getElem? (i := 192) rfl
theorem mB_199 : ((Jvm.Cond.methodLink "DebtRows" (64 : Nat) ({ cls := "DebtRows", name := "isSum", desc := "(J)Z" } : Jvm.MethodName)) : Cond) ∈ BIG := List.mem_of_getElem? (i := 199) rfl
theorem mB_200 : ((Jvm.Cond.static ({ cls := "DebtRows", name := "isSum", desc := "(J)Z" } : Jvm.MethodName)) : Cond) ∈ BIG := List.mem_of_getElem? (i := 200) rfl
theorem mB_201 : ((Jvm.Cond.code ({ cls := "DebtRows", name := "isSum", desc := "(J)Z" } : Jvm.MethodName) prog_1_method_19_code (2 : Nat) (Option.some Jvm.ClassFile.FieldType.boolean)) : Cond) ∈ BIG := List.mem_of_getElem? (i := 201) rfl
theorem mB_202 : ((Jvm.Cond.constantLong "DebtRows" (195 : Nat) (1000000000 : Int64)) : Cond) ∈ BIG := List.mem_of_getElem? (i := 202) rfl
theorem mB_203 : ((Jvm.Cond.instantiable "DebtRows$Debt" (15 : Nat)) : Cond) ∈ BIG := List.mem_of_getElem? (i := 203) rfl
theorem mB_204 : ((Jvm.Cond.methodLink "DebtRows" (78 : Nat) ({ cls := "DebtRows$Debt", name := "<init>", desc := "(JI)V" } : Jvm.MethodName)) : Cond) ∈ BIG := List.mem_of_getElem? (i := 204) rfl
theorem mB_205 : ((Jvm.Cond.instanceMethod ({ cls := "DebtRows$Debt", name := "<init>", desc := "(JI)V" } : Jvm.MethodName)) : Cond) ∈ BIG := List.mem_of_getElem? (i := 205) rfl
theorem mB_206 : ((Jvm.Cond.code ({ cls := "DebtRows$Debt", name := "<init>", desc := "(JI)V" } : Jvm.MethodName) prog_2_method_1_code (4 : Nat) (Option.none : Option Jvm.ClassFile.FieldType)) : Cond) ∈ BIG := List.mem_of_getElem? (i := 206) rfl
theorem mB_207 : ((Jvm.Cond.methodLink "DebtRows$Debt" (3 : Nat) ({ cls := "java/lang/Object", name := "<init>", desc := "()V" } : Jvm.MethodName)) : Cond) ∈ BIG := List.mem_of_getElem? (i := 207) rfl
theorem mB_208 : ((Jvm.Cond.fieldLink "DebtRows$Debt" (9 : Nat) "DebtRows$Debt" "cents" "J") : Cond) ∈ BIG := List.mem_of_getElem? (i := 208) rfl
theorem mB_209 : ((Jvm.Cond.fieldLink "DebtRows" (150 : Nat) "DebtRows$Debt" "cents" "J") : Cond) ∈ BIG := List.mem_of_getElem? (i := 209) rfl
theorem mB_210 : ((Jvm.Cond.fieldLink "DebtRows$Debt" (15 : Nat) "DebtRows$Debt" "birth" "I") : Cond) ∈ BIG := List.mem_of_getElem? (i := 210) rfl
theorem mB_211 : ((Jvm.Cond.fieldLink "DebtRows" (178 : Nat) "DebtRows$Debt" "birth" "I") : Cond) ∈ BIG := List.mem_of_getElem? (i := 211) rfl
theorem mB_212 : ((Jvm.Cond.fieldLink "DebtRows$Debt" (19 : Nat) "DebtRows$Debt" "people" "[I") : Cond) ∈ BIG := List.mem_of_getElem? (i := 212) rfl
theorem mB_213 : ((Jvm.Cond.fieldLink "DebtRows$Debt" (23 : Nat) "DebtRows$Debt" "paid" "[J") : Cond) ∈ BIG := List.mem_of_getElem? (i := 213) rfl
theorem mB_214 : ((Jvm.Cond.fieldLink "DebtRows$Debt" (36 : Nat) "DebtRows$Debt" "debtors" "I") : Cond) ∈ BIG := List.mem_of_getElem? (i := 214) rfl
theorem mB_215 : ((Jvm.Cond.fieldLink "DebtRows" (181 : Nat) "DebtRows$Debt" "debtors" "I") : Cond) ∈ BIG := List.mem_of_getElem? (i := 215) rfl
theorem mB_216 : ((Jvm.Cond.fieldLink "DebtRows$Debt" (27 : Nat) "DebtRows$Debt" "state" "I") : Cond) ∈ BIG := List.mem_of_getElem? (i := 216) rfl
theorem mB_217 : ((Jvm.Cond.fieldLink "DebtRows" (88 : Nat) "DebtRows$Debt" "state" "I") : Cond) ∈ BIG := List.mem_of_getElem? (i := 217) rfl
theorem mB_218 : ((Jvm.Cond.fieldLink "DebtRows$Debt" (30 : Nat) "DebtRows$Debt" "dueDay" "I") : Cond) ∈ BIG := List.mem_of_getElem? (i := 218) rfl
theorem mB_219 : ((Jvm.Cond.fieldLink "DebtRows" (97 : Nat) "DebtRows$Debt" "dueDay" "I") : Cond) ∈ BIG := List.mem_of_getElem? (i := 219) rfl
theorem mB_220 : ((Jvm.Cond.fieldLink "DebtRows$Debt" (53 : Nat) "DebtRows$Debt" "interestBehind" "I") : Cond) ∈ BIG := List.mem_of_getElem? (i := 220) rfl
theorem mB_221 : ((Jvm.Cond.fieldLink "DebtRows$Debt" (33 : Nat) "DebtRows$Debt" "open" "J") : Cond) ∈ BIG := List.mem_of_getElem? (i := 221) rfl
theorem mB_222 : ((Jvm.Cond.fieldLink "DebtRows" (140 : Nat) "DebtRows$Debt" "open" "J") : Cond) ∈ BIG := List.mem_of_getElem? (i := 222) rfl
theorem mB_223 : ((Jvm.Cond.fieldLink "DebtRows" (131 : Nat) "DebtRows$Debt" "lost" "J") : Cond) ∈ BIG := List.mem_of_getElem? (i := 223) rfl
theorem mB_224 : ((Jvm.Cond.fieldLink "DebtRows$Debt" (85 : Nat) "DebtRows$Debt" "lost" "J") : Cond) ∈ BIG := List.mem_of_getElem? (i := 224) rfl
theorem mB_225 : ((Jvm.Cond.fieldLink "DebtRows" (143 : Nat) "DebtRows$Debt" "fixedInterest" "J") : Cond) ∈ BIG := List.mem_of_getElem? (i := 225) rfl
theorem mB_226 : ((Jvm.Cond.fieldLink "DebtRows$Debt" (62 : Nat) "DebtRows$Debt" "fixedInterest" "J") : Cond) ∈ BIG := List.mem_of_getElem? (i := 226) rfl
theorem mB_227 : ((Jvm.Cond.fieldLink "DebtRows" (153 : Nat) "DebtRows$Debt" "paidInterest" "J") : Cond) ∈ BIG := List.mem_of_getElem? (i := 227) rfl
theorem mB_228 : ((Jvm.Cond.fieldLink "DebtRows$Debt" (73 : Nat) "DebtRows$Debt" "paidInterest" "J") : Cond) ∈ BIG := List.mem_of_getElem? (i := 228) rfl
theorem mB_229 : ((Jvm.Cond.fieldLink "DebtRows$Debt" (88 : Nat) "DebtRows$Debt" "deferralDay" "I") : Cond) ∈ BIG := List.mem_of_getElem? (i := 229) rfl
theorem mB_230 : ((Jvm.Cond.fieldLink "DebtRows$Debt" (91 : Nat) "DebtRows$Debt" "deferralParts" "I") : Cond) ∈ BIG := List.mem_of_getElem? (i := 230) rfl
theorem mB_231 : ((Jvm.Cond.fieldLink "DebtRows$Debt" (94 : Nat) "DebtRows$Debt" "deferralOpen" "J") : Cond) ∈ BIG := List.mem_of_getElem? (i := 231) rfl
theorem mB_254 : ((Jvm.Cond.methodLink "DebtRows" (91 : Nat) ({ cls := "DebtRows", name := "findOrRefuse", desc := "(I)LDebtRows$Debt;" } : Jvm.MethodName)) : Cond) ∈ BIG := List.mem_of_getElem? (i := 254) rfl
theorem mB_255 : ((Jvm.Cond.instanceMethod ({ cls := "DebtRows", name := "findOrRefuse", desc := "(I)LDebtRows$Debt;" } : Jvm.MethodName)) : Cond) ∈ BIG := List.mem_of_getElem? (i := 255) rfl
theorem mB_256 : ((Jvm.Cond.code ({ cls := "DebtRows", name := "findOrRefuse", desc := "(I)LDebtRows$Debt;" } : Jvm.MethodName) prog_1_method_17_code (3 : Nat) (Option.some (Jvm.ClassFile.FieldType.object "DebtRows$Debt"))) : Cond) ∈ BIG := List.mem_of_getElem? (i := 256) rfl
theorem mB_257 : ((Jvm.Cond.methodLink "DebtRows" (94 : Nat) ({ cls := "DebtRows$Debt", name := "isTooLate", desc := "(I)Z" } : Jvm.MethodName)) : Cond) ∈ BIG := List.mem_of_getElem? (i := 257) rfl
theorem mB_258 : ((Jvm.Cond.instanceMethod ({ cls := "DebtRows$Debt", name := "isTooLate", desc := "(I)Z" } : Jvm.MethodName)) : Cond) ∈ BIG := List.mem_of_getElem? (i := 258) rfl
theorem mB_259 : ((Jvm.Cond.selects "DebtRows$Debt" ({ cls := "DebtRows$Debt", name := "isTooLate", desc := "(I)Z" } : Jvm.MethodName) ({ cls := "DebtRows$Debt", name := "isTooLate", desc := "(I)Z" } : Jvm.MethodName)) : Cond) ∈ BIG := List.mem_of_getElem? (i := 259) rfl
theorem mB_260 : ((Jvm.Cond.code ({ cls := "DebtRows$Debt", name := "isTooLate", desc := "(I)Z" } : Jvm.MethodName) prog_2_method_9_code (2 : Nat) (Option.some Jvm.ClassFile.FieldType.boolean)) : Cond) ∈ BIG := List.mem_of_getElem? (i := 260) rfl
theorem mB_261 : ((Jvm.Cond.methodLink "DebtRows" (100 : Nat) ({ cls := "DebtRows$Debt", name := "runAgain", desc := "(I)V" } : Jvm.MethodName)) : Cond) ∈ BIG := List.mem_of_getElem? (i := 261) rfl
theorem mB_262 : ((Jvm.Cond.instanceMethod ({ cls := "DebtRows$Debt", name := "runAgain", desc := "(I)V" } : Jvm.MethodName)) : Cond) ∈ BIG := List.mem_of_getElem? (i := 262) rfl
theorem mB_263 : ((Jvm.Cond.selects "DebtRows$Debt" ({ cls := "DebtRows$Debt", name := "runAgain", desc := "(I)V" } : Jvm.MethodName) ({ cls := "DebtRows$Debt", name := "runAgain", desc := "(I)V" } : Jvm.MethodName)) : Cond) ∈ BIG := List.mem_of_getElem? (i := 263) rfl
theorem mB_264 : ((Jvm.Cond.code ({ cls := "DebtRows$Debt", name := "runAgain", desc := "(I)V" } : Jvm.MethodName) prog_2_method_10_code (2 : Nat) (Option.none : Option Jvm.ClassFile.FieldType)) : Cond) ∈ BIG := List.mem_of_getElem? (i := 264) rfl
theorem mB_265 : ((Jvm.Cond.methodLink "DebtRows$Debt" (47 : Nat) ({ cls := "java/lang/Math", name := "max", desc := "(II)I" } : Jvm.MethodName)) : Cond) ∈ BIG := List.mem_of_getElem? (i := 265) rfl
theorem mB_266 : ((Jvm.Cond.static ({ cls := "java/lang/Math", name := "max", desc := "(II)I" } : Jvm.MethodName)) : Cond) ∈ BIG := List.mem_of_getElem? (i := 266) rfl
theorem mB_274 : ((Jvm.Cond.methodLink "DebtRows" (104 : Nat) ({ cls := "DebtRows$Debt", name := "isPayable", desc := "()Z" } : Jvm.MethodName)) : Cond) ∈ BIG := List.mem_of_getElem? (i := 274) rfl
theorem mB_275 : ((Jvm.Cond.instanceMethod ({ cls := "DebtRows$Debt", name := "isPayable", desc := "()Z" } : Jvm.MethodName)) : Cond) ∈ BIG := List.mem_of_getElem? (i := 275) rfl
theorem mB_276 : ((Jvm.Cond.selects "DebtRows$Debt" ({ cls := "DebtRows$Debt", name := "isPayable", desc := "()Z" } : Jvm.MethodName) ({ cls := "DebtRows$Debt", name := "isPayable", desc := "()Z" } : Jvm.MethodName)) : Cond) ∈ BIG := List.mem_of_getElem? (i := 276) rfl
theorem mB_277 : ((Jvm.Cond.code ({ cls := "DebtRows$Debt", name := "isPayable", desc := "()Z" } : Jvm.MethodName) prog_2_method_8_code (1 : Nat) (Option.some Jvm.ClassFile.FieldType.boolean)) : Cond) ∈ BIG := List.mem_of_getElem? (i := 277) rfl
theorem mB_278 : ((Jvm.Cond.methodLink "DebtRows" (108 : Nat) ({ cls := "DebtRows$Debt", name := "placeOf", desc := "(I)I" } : Jvm.MethodName)) : Cond) ∈ BIG := List.mem_of_getElem? (i := 278) rfl
theorem mB_279 : ((Jvm.Cond.methodLink "DebtRows" (112 : Nat) ({ cls := "DebtRows$Debt", name := "fixInterest", desc := "(LDebtRows$Rates;I)V" } : Jvm.MethodName)) : Cond) ∈ BIG := List.mem_of_getElem? (i := 279) rfl
theorem mB_280 : ((Jvm.Cond.instanceMethod ({ cls := "DebtRows$Debt", name := "fixInterest", desc := "(LDebtRows$Rates;I)V" } : Jvm.MethodName)) : Cond) ∈ BIG := List.mem_of_getElem? (i := 280) rfl
theorem mB_281 : ((Jvm.Cond.selects "DebtRows$Debt" ({ cls := "DebtRows$Debt", name := "fixInterest", desc := "(LDebtRows$Rates;I)V" } : Jvm.MethodName) ({ cls := "DebtRows$Debt", name := "fixInterest", desc := "(LDebtRows$Rates;I)V" } : Jvm.MethodName)) : Cond) ∈ BIG := List.mem_of_getElem? (i := 281) rfl
theorem mB_282 : ((Jvm.Cond.code ({ cls := "DebtRows$Debt", name := "fixInterest", desc := "(LDebtRows$Rates;I)V" } : Jvm.MethodName) prog_2_method_12_code (3 : Nat) (Option.none : Option Jvm.ClassFile.FieldType)) : Cond) ∈ BIG := List.mem_of_getElem? (i := 282) rfl
theorem mB_283 : ((Jvm.Cond.methodLink "DebtRows$Debt" (65 : Nat) ({ cls := "DebtRows$Debt", name := "runningInterest", desc := "(LDebtRows$Rates;I)J" } : Jvm.MethodName)) : Cond) ∈ BIG := List.mem_of_getElem? (i := 283) rfl
theorem mB_284 : ((Jvm.Cond.instanceMethod ({ cls := "DebtRows$Debt", name := "runningInterest", desc := "(LDebtRows$Rates;I)J" } : Jvm.MethodName)) : Cond) ∈ BIG := List.mem_of_getElem? (i := 284) rfl
theorem mB_285 : ((Jvm.Cond.selects "DebtRows$Debt" ({ cls := "DebtRows$Debt", name := "runningInterest", desc := "(LDebtRows$Rates;I)J" } : Jvm.MethodName) ({ cls := "DebtRows$Debt", name := "runningInterest", desc := "(LDebtRows$Rates;I)J" } : Jvm.MethodName)) : Cond) ∈ BIG := List.mem_of_getElem? (i := 285) rfl
theorem mB_286 : ((Jvm.Cond.code ({ cls := "DebtRows$Debt", name := "runningInterest", desc := "(LDebtRows$Rates;I)J" } : Jvm.MethodName) prog_2_method_11_code (3 : Nat) (Option.some Jvm.ClassFile.FieldType.long)) : Cond) ∈ BIG := List.mem_of_getElem? (i := 286) rfl
theorem mB_287 : ((Jvm.Cond.methodLink "DebtRows$Debt" (56 : Nat) ({ cls := "DebtRows$Rates", name := "interest", desc := "(JII)J" } : Jvm.MethodName)) : Cond) ∈ BIG := List.mem_of_getElem? (i := 287) rfl
theorem mB_288 : ((Jvm.Cond.instanceMethod ({ cls := "DebtRows$Rates", name := "interest", desc := "(JII)J" } : Jvm.MethodName)) : Cond) ∈ BIG := List.mem_of_getElem? (i := 288) rfl
theorem mB_289 : ((Jvm.Cond.selects "DebtRows$Rates" ({ cls := "DebtRows$Rates", name := "interest", desc := "(JII)J" } : Jvm.MethodName) ({ cls := "DebtRows$Rates", name := "interest", desc := "(JII)J" } : Jvm.MethodName)) : Cond) ∈ BIG := List.mem_of_getElem? (i := 289) rfl
theorem mB_290 : ((Jvm.Cond.code ({ cls := "DebtRows$Rates", name := "interest", desc := "(JII)J" } : Jvm.MethodName) prog_3_method_4_code (12 : Nat) (Option.some Jvm.ClassFile.FieldType.long)) : Cond) ∈ BIG := List.mem_of_getElem? (i := 290) rfl
theorem mB_291 : ((Jvm.Cond.methodLink "DebtRows$Rates" (25 : Nat) ({ cls := "java/lang/Math", name := "max", desc := "(II)I" } : Jvm.MethodName)) : Cond) ∈ BIG := List.mem_of_getElem? (i := 291) rfl
theorem mB_292 : ((Jvm.Cond.methodLink "DebtRows$Rates" (31 : Nat) ({ cls := "java/lang/Math", name := "min", desc := "(II)I" } : Jvm.MethodName)) : Cond) ∈ BIG := List.mem_of_getElem? (i := 292) rfl
theorem mB_293 : ((Jvm.Cond.static ({ cls := "java/lang/Math", name := "min", desc := "(II)I" } : Jvm.MethodName)) : Cond) ∈ BIG := List.mem_of_getElem? (i := 293) rfl
theorem mB_295 : ((Jvm.Cond.constantLong "DebtRows$Rates" (34 : Nat) (365 : Int64)) : Cond) ∈ BIG := List.mem_of_getElem? (i := 295) rfl
theorem mB_296 : ((Jvm.Cond.methodLink "DebtRows" (116 : Nat) ({ cls := "DebtRows$Debt", name := "take", desc := "(IJ)J" } : Jvm.MethodName)) : Cond) ∈ BIG := List.mem_of_getElem? (i := 296) rfl
theorem mB_297 : ((Jvm.Cond.instanceMethod ({ cls := "DebtRows$Debt", name := "take", desc := "(IJ)J" } : Jvm.MethodName)) : Cond) ∈ BIG := List.mem_of_getElem? (i := 297) rfl
theorem mB_298 : ((Jvm.Cond.selects "DebtRows$Debt" ({ cls := "DebtRows$Debt", name := "take", desc := "(IJ)J" } : Jvm.MethodName) ({ cls := "DebtRows$Debt", name := "take", desc := "(IJ)J" } : Jvm.MethodName)) : Cond) ∈ BIG := List.mem_of_getElem? (i := 298) rfl
theorem mB_299 : ((Jvm.Cond.code ({ cls := "DebtRows$Debt", name := "take", desc := "(IJ)J" } : Jvm.MethodName) prog_2_method_13_code (8 : Nat) (Option.some Jvm.ClassFile.FieldType.long)) : Cond) ∈ BIG := List.mem_of_getElem? (i := 299) rfl
theorem mB_300 : ((Jvm.Cond.methodLink "DebtRows$Debt" (43 : Nat) ({ cls := "DebtRows$Debt", name := "hasPlace", desc := "(I)Z" } : Jvm.MethodName)) : Cond) ∈ BIG := List.mem_of_getElem? (i := 300) rfl
theorem mB_301 : ((Jvm.Cond.instanceMethod ({ cls := "DebtRows$Debt", name := "hasPlace", desc := "(I)Z" } : Jvm.MethodName)) : Cond) ∈ BIG := List.mem_of_getElem? (i := 301) rfl
theorem mB_302 : ((Jvm.Cond.selects "DebtRows$Debt" ({ cls := "DebtRows$Debt", name := "hasPlace", desc := "(I)Z" } : Jvm.MethodName) ({ cls := "DebtRows$Debt", name := "hasPlace", desc := "(I)Z" } : Jvm.MethodName)) : Cond) ∈ BIG := List.mem_of_getElem? (i := 302) rfl
theorem mB_303 : ((Jvm.Cond.code ({ cls := "DebtRows$Debt", name := "hasPlace", desc := "(I)Z" } : Jvm.MethodName) prog_2_method_4_code (2 : Nat) (Option.some Jvm.ClassFile.FieldType.boolean)) : Cond) ∈ BIG := List.mem_of_getElem? (i := 303) rfl
theorem mB_304 : ((Jvm.Cond.methodLink "DebtRows$Debt" (69 : Nat) ({ cls := "java/lang/Math", name := "min", desc := "(JJ)J" } : Jvm.MethodName)) : Cond) ∈ BIG := List.mem_of_getElem? (i := 304) rfl
theorem mB_305 : ((Jvm.Cond.static ({ cls := "java/lang/Math", name := "min", desc := "(JJ)J" } : Jvm.MethodName)) : Cond) ∈ BIG := List.mem_of_getElem? (i := 305) rfl
theorem mB_307 : ((Jvm.Cond.methodLink "DebtRows$Debt" (76 : Nat) ({ cls := "DebtRows$Debt", name := "settle", desc := "()V" } : Jvm.MethodName)) : Cond) ∈ BIG := List.mem_of_getElem? (i := 307) rfl
theorem mB_308 : ((Jvm.Cond.instanceMethod ({ cls := "DebtRows$Debt", name := "settle", desc := "()V" } : Jvm.MethodName)) : Cond) ∈ BIG := List.mem_of_getElem? (i := 308) rfl
theorem mB_309 : ((Jvm.Cond.selects "DebtRows$Debt" ({ cls := "DebtRows$Debt", name := "settle", desc := "()V" } : Jvm.MethodName) ({ cls := "DebtRows$Debt", name := "settle", desc := "()V" } : Jvm.MethodName)) : Cond) ∈ BIG := List.mem_of_getElem? (i := 309) rfl
theorem mB_310 : ((Jvm.Cond.code ({ cls := "DebtRows$Debt", name := "settle", desc := "()V" } : Jvm.MethodName) prog_2_method_14_code (1 : Nat) (Option.none : Option Jvm.ClassFile.FieldType)) : Cond) ∈ BIG := List.mem_of_getElem? (i := 310) rfl
theorem mB_311 : ((Jvm.Cond.constantLong "DebtRows$Debt" (79 : Nat) (10 : Int64)) : Cond) ∈ BIG := List.mem_of_getElem? (i := 311) rfl
theorem mB_312 : ((Jvm.Cond.methodLink "DebtRows$Debt" (81 : Nat) ({ cls := "DebtRows$Debt", name := "lose", desc := "(I)V" } : Jvm.MethodName)) : Cond) ∈ BIG := List.mem_of_getElem? (i := 312) rfl
theorem mB_313 : ((Jvm.Cond.instanceMethod ({ cls := "DebtRows$Debt", name := "lose", desc := "(I)V" } : Jvm.MethodName)) : Cond) ∈ BIG := List.mem_of_getElem? (i := 313) rfl
theorem mB_314 : ((Jvm.Cond.selects "DebtRows$Debt" ({ cls := "DebtRows$Debt", name := "lose", desc := "(I)V" } : Jvm.MethodName) ({ cls := "DebtRows$Debt", name := "lose", desc := "(I)V" } : Jvm.MethodName)) : Cond) ∈ BIG := List.mem_of_getElem? (i := 314) rfl
theorem mB_315 : ((Jvm.Cond.code ({ cls := "DebtRows$Debt", name := "lose", desc := "(I)V" } : Jvm.MethodName) prog_2_method_15_code (2 : Nat) (Option.none : Option Jvm.ClassFile.FieldType)) : Cond) ∈ BIG := List.mem_of_getElem? (i := 315) rfl
theorem mB_322 : ((Jvm.Cond.methodLink "DebtRows" (122 : Nat) ({ cls := "DebtRows$Debt", name := "defer", desc := "(II)V" } : Jvm.MethodName)) : Cond) ∈ BIG := List.mem_of_getElem? (i := 322) rfl
theorem mB_323 : ((Jvm.Cond.instanceMethod ({ cls := "DebtRows$Debt", name := "defer", desc := "(II)V" } : Jvm.MethodName)) : Cond) ∈ BIG := List.mem_of_getElem? (i := 323) rfl
theorem mB_324 : ((Jvm.Cond.selects "DebtRows$Debt" ({ cls := "DebtRows$Debt", name := "defer", desc := "(II)V" } : Jvm.MethodName) ({ cls := "DebtRows$Debt", name := "defer", desc := "(II)V" } : Jvm.MethodName)) : Cond) ∈ BIG := List.mem_of_getElem? (i := 324) rfl
theorem mB_325 : ((Jvm.Cond.code ({ cls := "DebtRows$Debt", name := "defer", desc := "(II)V" } : Jvm.MethodName) prog_2_method_16_code (3 : Nat) (Option.none : Option Jvm.ClassFile.FieldType)) : Cond) ∈ BIG := List.mem_of_getElem? (i := 325) rfl
theorem mB_338 : ((Jvm.Cond.methodLink "DebtRows" (128 : Nat) ({ cls := "DebtRows$Debt", name := "lose", desc := "(I)V" } : Jvm.MethodName)) : Cond) ∈ BIG := List.mem_of_getElem? (i := 338) rfl
theorem mB_345 : ((Jvm.Cond.methodLink "DebtRows" (137 : Nat) ({ cls := "DebtRows$Debt", name := "endsBy", desc := "(I)Z" } : Jvm.MethodName)) : Cond) ∈ BIG := List.mem_of_getElem? (i := 345) rfl
theorem mB_346 : ((Jvm.Cond.instanceMethod ({ cls := "DebtRows$Debt", name := "endsBy", desc := "(I)Z" } : Jvm.MethodName)) : Cond) ∈ BIG := List.mem_of_getElem? (i := 346) rfl
theorem mB_347 : ((Jvm.Cond.selects "DebtRows$Debt" ({ cls := "DebtRows$Debt", name := "endsBy", desc := "(I)Z" } : Jvm.MethodName) ({ cls := "DebtRows$Debt", name := "endsBy", desc := "(I)Z" } : Jvm.MethodName)) : Cond) ∈ BIG := List.mem_of_getElem? (i := 347) rfl
theorem mB_348 : ((Jvm.Cond.code ({ cls := "DebtRows$Debt", name := "endsBy", desc := "(I)Z" } : Jvm.MethodName) prog_2_method_17_code (3 : Nat) (Option.some Jvm.ClassFile.FieldType.boolean)) : Cond) ∈ BIG := List.mem_of_getElem? (i := 348) rfl
theorem mB_349 : ((Jvm.Cond.methodLink "DebtRows$Debt" (97 : Nat) ({ cls := "DebtRows$Debt", name := "isTooLate", desc := "(I)Z" } : Jvm.MethodName)) : Cond) ∈ BIG := List.mem_of_getElem? (i := 349) rfl
theorem mB_350 : ((Jvm.Cond.methodLink "DebtRows$Debt" (100 : Nat) ({ cls := "DebtRows$Debt", name := "firstMissedDay", desc := "()I" } : Jvm.MethodName)) : Cond) ∈ BIG := List.mem_of_getElem? (i := 350) rfl
theorem mB_351 : ((Jvm.Cond.instanceMethod ({ cls := "DebtRows$Debt", name := "firstMissedDay", desc := "()I" } : Jvm.MethodName)) : Cond) ∈ BIG := List.mem_of_getElem? (i := 351) rfl
theorem mB_352 : ((Jvm.Cond.selects "DebtRows$Debt" ({ cls := "DebtRows$Debt", name := "firstMissedDay", desc := "()I" } : Jvm.MethodName) ({ cls := "DebtRows$Debt", name := "firstMissedDay", desc := "()I" } : Jvm.MethodName)) : Cond) ∈ BIG := List.mem_of_getElem? (i := 352) rfl
theorem mB_353 : ((Jvm.Cond.code ({ cls := "DebtRows$Debt", name := "firstMissedDay", desc := "()I" } : Jvm.MethodName) prog_2_method_18_code (2 : Nat) (Option.some Jvm.ClassFile.FieldType.int)) : Cond) ∈ BIG := List.mem_of_getElem? (i := 353) rfl
theorem mB_354 : ((Jvm.Cond.methodLink "DebtRows$Debt" (107 : Nat) ({ cls := "DebtRows$Debt", name := "mayBeOpen", desc := "(I)J" } : Jvm.MethodName)) : Cond) ∈ BIG := List.mem_of_getElem? (i := 354) rfl
theorem mB_355 : ((Jvm.Cond.instanceMethod ({ cls := "DebtRows$Debt", name := "mayBeOpen", desc := "(I)J" } : Jvm.MethodName)) : Cond) ∈ BIG := List.mem_of_getElem? (i := 355) rfl
theorem mB_356 : ((Jvm.Cond.selects "DebtRows$Debt" ({ cls := "DebtRows$Debt", name := "mayBeOpen", desc := "(I)J" } : Jvm.MethodName) ({ cls := "DebtRows$Debt", name := "mayBeOpen", desc := "(I)J" } : Jvm.MethodName)) : Cond) ∈ BIG := List.mem_of_getElem? (i := 356) rfl
theorem mB_357 : ((Jvm.Cond.code ({ cls := "DebtRows$Debt", name := "mayBeOpen", desc := "(I)J" } : Jvm.MethodName) prog_2_method_19_code (2 : Nat) (Option.some Jvm.ClassFile.FieldType.long)) : Cond) ∈ BIG := List.mem_of_getElem? (i := 357) rfl
theorem mB_358 : ((Jvm.Cond.methodLink "DebtRows$Debt" (104 : Nat) ({ cls := "DebtRows$Debt", name := "runAgain", desc := "(I)V" } : Jvm.MethodName)) : Cond) ∈ BIG := List.mem_of_getElem? (i := 358) rfl
theorem mB_365 : ((Jvm.Cond.methodLink "DebtRows" (146 : Nat) ({ cls := "DebtRows$Debt", name := "runningInterest", desc := "(LDebtRows$Rates;I)J" } : Jvm.MethodName)) : Cond) ∈ BIG := List.mem_of_getElem? (i := 365) rfl
theorem mB_372 : ((Jvm.Cond.methodLink "DebtRows" (160 : Nat) ({ cls := "DebtRows$Debt", name := "paidBy", desc := "(I)J" } : Jvm.MethodName)) : Cond) ∈ BIG := List.mem_of_getElem? (i := 372) rfl
theorem mB_373 : ((Jvm.Cond.instanceMethod ({ cls := "DebtRows$Debt", name := "paidBy", desc := "(I)J" } : Jvm.MethodName)) : Cond) ∈ BIG := List.mem_of_getElem? (i := 373) rfl
theorem mB_374 : ((Jvm.Cond.selects "DebtRows$Debt" ({ cls := "DebtRows$Debt", name := "paidBy", desc := "(I)J" } : Jvm.MethodName) ({ cls := "DebtRows$Debt", name := "paidBy", desc := "(I)J" } : Jvm.MethodName)) : Cond) ∈ BIG := List.mem_of_getElem? (i := 374) rfl
theorem mB_375 : ((Jvm.Cond.code ({ cls := "DebtRows$Debt", name := "paidBy", desc := "(I)J" } : Jvm.MethodName) prog_2_method_6_code (2 : Nat) (Option.some Jvm.ClassFile.FieldType.long)) : Cond) ∈ BIG := List.mem_of_getElem? (i := 375) rfl
theorem mB_376 : ((Jvm.Cond.methodLink "DebtRows" (164 : Nat) ({ cls := "DebtRows$Debt", name := "shareOf", desc := "(I)J" } : Jvm.MethodName)) : Cond) ∈ BIG := List.mem_of_getElem? (i := 376) rfl
theorem mB_377 : ((Jvm.Cond.instanceMethod ({ cls := "DebtRows$Debt", name := "shareOf", desc := "(I)J" } : Jvm.MethodName)) : Cond) ∈ BIG := List.mem_of_getElem? (i := 377) rfl
theorem mB_378 : ((Jvm.Cond.selects "DebtRows$Debt" ({ cls := "DebtRows$Debt", name := "shareOf", desc := "(I)J" } : Jvm.MethodName) ({ cls := "DebtRows$Debt", name := "shareOf", desc := "(I)J" } : Jvm.MethodName)) : Cond) ∈ BIG := List.mem_of_getElem? (i := 378) rfl
theorem mB_379 : ((Jvm.Cond.code ({ cls := "DebtRows$Debt", name := "shareOf", desc := "(I)J" } : Jvm.MethodName) prog_2_method_7_code (2 : Nat) (Option.some Jvm.ClassFile.FieldType.long)) : Cond) ∈ BIG := List.mem_of_getElem? (i := 379) rfl
theorem mB_380 : ((Jvm.Cond.methodLink "DebtRows" (167 : Nat) ({ cls := "java/lang/Math", name := "max", desc := "(JJ)J" } : Jvm.MethodName)) : Cond) ∈ BIG := List.mem_of_getElem? (i := 380) rfl
theorem mB_381 : ((Jvm.Cond.static ({ cls := "java/lang/Math", name := "max", desc := "(JJ)J" } : Jvm.MethodName)) : Cond) ∈ BIG := List.mem_of_getElem? (i := 381) rfl
theorem mB_390 : ((Jvm.Cond.classLink "DebtRows" (173 : Nat) "java/lang/IndexOutOfBoundsException") : Cond) ∈ BIG := List.mem_of_getElem? (i := 390) rfl
theorem mB_404 : ((Jvm.Cond.methodLink "DebtRows" (186 : Nat) ({ cls := "DebtRows$Debt", name := "personAt", desc := "(I)I" } : Jvm.MethodName)) : Cond) ∈ BIG := List.mem_of_getElem? (i := 404) rfl
theorem mB_405 : ((Jvm.Cond.instanceMethod ({ cls := "DebtRows$Debt", name := "personAt", desc := "(I)I" } : Jvm.MethodName)) : Cond) ∈ BIG := List.mem_of_getElem? (i := 405) rfl
theorem mB_406 : ((Jvm.Cond.selects "DebtRows$Debt" ({ cls := "DebtRows$Debt", name := "personAt", desc := "(I)I" } : Jvm.MethodName) ({ cls := "DebtRows$Debt", name := "personAt", desc := "(I)I" } : Jvm.MethodName)) : Cond) ∈ BIG := List.mem_of_getElem? (i := 406) rfl
theorem mB_407 : ((Jvm.Cond.code ({ cls := "DebtRows$Debt", name := "personAt", desc := "(I)I" } : Jvm.MethodName) prog_2_method_5_code (2 : Nat) (Option.some Jvm.ClassFile.FieldType.int)) : Cond) ∈ BIG := List.mem_of_getElem? (i := 407) rfl
end
section
/-! What a state of the system is: a debt, the rates; where they lie in a list of cells. -/
abbrev DT : Type := Int64 × Int32 × (Nat → Int32) × (Nat → Int64) × Int32 × Int32 × Int32 × Int32 × Int64 × Int64 × Int64 × Int64 × Int32 × Int32 × Int64
abbrev d_cents (d : DT) : Int64 := d.1
abbrev d_birth (d : DT) : Int32 := d.2.1
abbrev d_people (d : DT) : (Nat → Int32) := d.2.2.1
abbrev d_paid (d : DT) : (Nat → Int64) := d.2.2.2.1
abbrev d_debtors (d : DT) : Int32 := d.2.2.2.2.1
abbrev d_state (d : DT) : Int32 := d.2.2.2.2.2.1
abbrev d_due (d : DT) : Int32 := d.2.2.2.2.2.2.1
abbrev d_ib (d : DT) : Int32 := d.2.2.2.2.2.2.2.1
abbrev d_open (d : DT) : Int64 := d.2.2.2.2.2.2.2.2.1
abbrev d_lost (d : DT) : Int64 := d.2.2.2.2.2.2.2.2.2.1
abbrev d_fixed (d : DT) : Int64 := d.2.2.2.2.2.2.2.2.2.2.1
abbrev d_paidI (d : DT) : Int64 := d.2.2.2.2.2.2.2.2.2.2.2.1
abbrev d_dDay (d : DT) : Int32 := d.2.2.2.2.2.2.2.2.2.2.2.2.1
abbrev d_dParts (d : DT) : Int32 := d.2.2.2.2.2.2.2.2.2.2.2.2.2.1
abbrev d_dOpen (d : DT) : Int64 := d.2.2.2.2.2.2.2.2.2.2.2.2.2.2
abbrev s_cents (d : DT) (x : Int64) : DT := (x, d.2.1, d.2.2.1, d.2.2.2.1, d.2.2.2.2.1, d.2.2.2.2.2.1, d.2.2.2.2.2.2.1, d.2.2.2.2.2.2.2.1, d.2.2.2.2.2.2.2.2.1, d.2.2.2.2.2.2.2.2.2.1, d.2.2.2.2.2.2.2.2.2.2.1, d.2.2.2.2.2.2.2.2.2.2.2.1, d.2.2.2.2.2.2.2.2.2.2.2.2.1, d.2.2.2.2.2.2.2.2.2.2.2.2.2.1, d.2.2.2.2.2.2.2.2.2.2.2.2.2.2)
abbrev s_birth (d : DT) (x : Int32) : DT := (d.1, x, d.2.2.1, d.2.2.2.1, d.2.2.2.2.1, d.2.2.2.2.2.1, d.2.2.2.2.2.2.1, d.2.2.2.2.2.2.2.1, d.2.2.2.2.2.2.2.2.1, d.2.2.2.2.2.2.2.2.2.1, d.2.2.2.2.2.2.2.2.2.2.1, d.2.2.2.2.2.2.2.2.2.2.2.1, d.2.2.2.2.2.2.2.2.2.2.2.2.1, d.2.2.2.2.2.2.2.2.2.2.2.2.2.1, d.2.2.2.2.2.2.2.2.2.2.2.2.2.2)
abbrev s_people (d : DT) (x : (Nat → Int32)) : DT := (d.1, d.2.1, x, d.2.2.2.1, d.2.2.2.2.1, d.2.2.2.2.2.1, d.2.2.2.2.2.2.1, d.2.2.2.2.2.2.2.1, d.2.2.2.2.2.2.2.2.1, d.2.2.2.2.2.2.2.2.2.1, d.2.2.2.2.2.2.2.2.2.2.1, d.2.2.2.2.2.2.2.2.2.2.2.1, d.2.2.2.2.2.2.2.2.2.2.2.2.1, d.2.2.2.2.2.2.2.2.2.2.2.2.2.1, d.2.2.2.2.2.2.2.2.2.2.2.2.2.2)
abbrev s_paid (d : DT) (x : (Nat → Int64)) : DT := (d.1, d.2.1, d.2.2.1, x, d.2.2.2.2.1, d.2.2.2.2.2.1, d.2.2.2.2.2.2.1, d.2.2.2.2.2.2.2.1, d.2.2.2.2.2.2.2.2.1, d.2.2.2.2.2.2.2.2.2.1, d.2.2.2.2.2.2.2.2.2.2.1, d.2.2.2.2.2.2.2.2.2.2.2.1, d.2.2.2.2.2.2.2.2.2.2.2.2.1, d.2.2.2.2.2.2.2.2.2.2.2.2.2.1, d.2.2.2.2.2.2.2.2.2.2.2.2.2.2)
abbrev s_debtors (d : DT) (x : Int32) : DT := (d.1, d.2.1, d.2.2.1, d.2.2.2.1, x, d.2.2.2.2.2.1, d.2.2.2.2.2.2.1, d.2.2.2.2.2.2.2.1, d.2.2.2.2.2.2.2.2.1, d.2.2.2.2.2.2.2.2.2.1, d.2.2.2.2.2.2.2.2.2.2.1, d.2.2.2.2.2.2.2.2.2.2.2.1, d.2.2.2.2.2.2.2.2.2.2.2.2.1, d.2.2.2.2.2.2.2.2.2.2.2.2.2.1, d.2.2.2.2.2.2.2.2.2.2.2.2.2.2)
abbrev s_state (d : DT) (x : Int32) : DT := (d.1, d.2.1, d.2.2.1, d.2.2.2.1, d.2.2.2.2.1, x, d.2.2.2.2.2.2.1, d.2.2.2.2.2.2.2.1, d.2.2.2.2.2.2.2.2.1, d.2.2.2.2.2.2.2.2.2.1, d.2.2.2.2.2.2.2.2.2.2.1, d.2.2.2.2.2.2.2.2.2.2.2.1, d.2.2.2.2.2.2.2.2.2.2.2.2.1, d.2.2.2.2.2.2.2.2.2.2.2.2.2.1, d.2.2.2.2.2.2.2.2.2.2.2.2.2.2)
abbrev s_due (d : DT) (x : Int32) : DT := (d.1, d.2.1, d.2.2.1, d.2.2.2.1, d.2.2.2.2.1, d.2.2.2.2.2.1, x, d.2.2.2.2.2.2.2.1, d.2.2.2.2.2.2.2.2.1, d.2.2.2.2.2.2.2.2.2.1, d.2.2.2.2.2.2.2.2.2.2.1, d.2.2.2.2.2.2.2.2.2.2.2.1, d.2.2.2.2.2.2.2.2.2.2.2.2.1, d.2.2.2.2.2.2.2.2.2.2.2.2.2.1, d.2.2.2.2.2.2.2.2.2.2.2.2.2.2)
abbrev s_ib (d : DT) (x : Int32) : DT := (d.1, d.2.1, d.2.2.1, d.2.2.2.1, d.2.2.2.2.1, d.2.2.2.2.2.1, d.2.2.2.2.2.2.1, x, d.2.2.2.2.2.2.2.2.1, d.2.2.2.2.2.2.2.2.2.1, d.2.2.2.2.2.2.2.2.2.2.1, d.2.2.2.2.2.2.2.2.2.2.2.1, d.2.2.2.2.2.2.2.2.2.2.2.2.1, d.2.2.2.2.2.2.2.2.2.2.2.2.2.1, d.2.2.2.2.2.2.2.2.2.2.2.2.2.2)
abbrev s_open (d : DT) (x : Int64) : DT := (d.1, d.2.1, d.2.2.1, d.2.2.2.1, d.2.2.2.2.1, d.2.2.2.2.2.1, d.2.2.2.2.2.2.1, d.2.2.2.2.2.2.2.1, x, d.2.2.2.2.2.2.2.2.2.1, d.2.2.2.2.2.2.2.2.2.2.1, d.2.2.2.2.2.2.2.2.2.2.2.1, d.2.2.2.2.2.2.2.2.2.2.2.2.1, d.2.2.2.2.2.2.2.2.2.2.2.2.2.1, d.2.2.2.2.2.2.2.2.2.2.2.2.2.2)
abbrev s_lost (d : DT) (x : Int64) : DT := (d.1, d.2.1, d.2.2.1, d.2.2.2.1, d.2.2.2.2.1, d.2.2.2.2.2.1, d.2.2.2.2.2.2.1, d.2.2.2.2.2.2.2.1, d.2.2.2.2.2.2.2.2.1, x, d.2.2.2.2.2.2.2.2.2.2.1, d.2.2.2.2.2.2.2.2.2.2.2.1, d.2.2.2.2.2.2.2.2.2.2.2.2.1, d.2.2.2.2.2.2.2.2.2.2.2.2.2.1, d.2.2.2.2.2.2.2.2.2.2.2.2.2.2)
abbrev s_fixed (d : DT) (x : Int64) : DT := (d.1, d.2.1, d.2.2.1, d.2.2.2.1, d.2.2.2.2.1, d.2.2.2.2.2.1, d.2.2.2.2.2.2.1, d.2.2.2.2.2.2.2.1, d.2.2.2.2.2.2.2.2.1, d.2.2.2.2.2.2.2.2.2.1, x, d.2.2.2.2.2.2.2.2.2.2.2.1, d.2.2.2.2.2.2.2.2.2.2.2.2.1, d.2.2.2.2.2.2.2.2.2.2.2.2.2.1, d.2.2.2.2.2.2.2.2.2.2.2.2.2.2)
abbrev s_paidI (d : DT) (x : Int64) : DT := (d.1, d.2.1, d.2.2.1, d.2.2.2.1, d.2.2.2.2.1, d.2.2.2.2.2.1, d.2.2.2.2.2.2.1, d.2.2.2.2.2.2.2.1, d.2.2.2.2.2.2.2.2.1, d.2.2.2.2.2.2.2.2.2.1, d.2.2.2.2.2.2.2.2.2.2.1, x, d.2.2.2.2.2.2.2.2.2.2.2.2.1, d.2.2.2.2.2.2.2.2.2.2.2.2.2.1, d.2.2.2.2.2.2.2.2.2.2.2.2.2.2)
abbrev s_dDay (d : DT) (x : Int32) : DT := (d.1, d.2.1, d.2.2.1, d.2.2.2.1, d.2.2.2.2.1, d.2.2.2.2.2.1, d.2.2.2.2.2.2.1, d.2.2.2.2.2.2.2.1, d.2.2.2.2.2.2.2.2.1, d.2.2.2.2.2.2.2.2.2.1, d.2.2.2.2.2.2.2.2.2.2.1, d.2.2.2.2.2.2.2.2.2.2.2.1, x, d.2.2.2.2.2.2.2.2.2.2.2.2.2.1, d.2.2.2.2.2.2.2.2.2.2.2.2.2.2)
abbrev s_dParts (d : DT) (x : Int32) : DT := (d.1, d.2.1, d.2.2.1, d.2.2.2.1, d.2.2.2.2.1, d.2.2.2.2.2.1, d.2.2.2.2.2.2.1, d.2.2.2.2.2.2.2.1, d.2.2.2.2.2.2.2.2.1, d.2.2.2.2.2.2.2.2.2.1, d.2.2.2.2.2.2.2.2.2.2.1, d.2.2.2.2.2.2.2.2.2.2.2.1, d.2.2.2.2.2.2.2.2.2.2.2.2.1, x, d.2.2.2.2.2.2.2.2.2.2.2.2.2.2)
abbrev s_dOpen (d : DT) (x : Int64) : DT := (d.1, d.2.1, d.2.2.1, d.2.2.2.1, d.2.2.2.2.1, d.2.2.2.2.2.1, d.2.2.2.2.2.2.1, d.2.2.2.2.2.2.2.1, d.2.2.2.2.2.2.2.2.1, d.2.2.2.2.2.2.2.2.2.1, d.2.2.2.2.2.2.2.2.2.2.1, d.2.2.2.2.2.2.2.2.2.2.2.1, d.2.2.2.2.2.2.2.2.2.2.2.2.1, d.2.2.2.2.2.2.2.2.2.2.2.2.2.1, x)
abbrev RT : Type := Int32 × (Nat → Int32) × (Nat → Int32) × (Nat → Int32)
abbrev r_count (d : RT) : Int32 := d.1
abbrev r_from (d : RT) : (Nat → Int32) := d.2.1
abbrev r_up (d : RT) : (Nat → Int32) := d.2.2.1
abbrev r_down (d : RT) : (Nat → Int32) := d.2.2.2
abbrev q_count (d : RT) (x : Int32) : RT := (x, d.2.1, d.2.2.1, d.2.2.2)
abbrev q_from (d : RT) (x : (Nat → Int32)) : RT := (d.1, x, d.2.2.1, d.2.2.2)
abbrev q_up (d : RT) (x : (Nat → Int32)) : RT := (d.1, d.2.1, x, d.2.2.2)
abbrev q_down (d : RT) (x : (Nat → Int32)) : RT := (d.1, d.2.1, d.2.2.1, x)
abbrev aI (cI : ClassId) (n : Nat) (f : Nat → Int32) : va_E := .inl (cI, n, .inl f)
abbrev aL (cL : ClassId) (n : Nat) (f : Nat → Int64) : va_E := .inl (cL, n, .inr (.inl f))
abbrev aQ (cD : ClassId) (n : Nat) (f : Nat → Option Nat) : va_E := .inl (cD, n, .inr (.inr (.inr (.inr f))))
abbrev dE (hp hq : Nat) (d : DT) : va_E := .inr (0, [.long (d_cents d), .int (d_birth d), .ref hp, .ref hq, .int (d_debtors d), .int (d_state d), .int (d_due d), .int (d_ib d), .long (d_open d), .long (d_lost d), .long (d_fixed d), .long (d_paidI d), .int (d_dDay d), .int (d_dParts d), .long (d_dOpen d)])
abbrev rE (fr up dn : Nat) (r : RT) : va_E := .inr (1, [.ref fr, .ref up, .ref dn, .int (r_count r)])
def dAt (w : va_W) (k : Nat) (cI cL : ClassId) (h hp hq : Nat) (d : DT) : Prop := w[k]? = some (h, dE hp hq d) ∧ w[k + 1]? = some (hp, aI cI 4 (d_people d)) ∧ w[k + 2]? = some (hq, aL cL 4 (d_paid d))
def rAt (w : va_W) (k : Nat) (cI : ClassId) (h fr up dn : Nat) (r : RT) : Prop := w[k]? = some (h, rE fr up dn r) ∧ w[k + 1]? = some (fr, aI cI 20 (r_from r)) ∧ w[k + 2]? = some (up, aI cI 20 (r_up r)) ∧ w[k + 3]? = some (dn, aI cI 20 (r_down r))
/-- the list w1 is w but for the three cells of the debt at k, which is d there -/
def dUpd (w w1 : va_W) (k : Nat) (cI cL : ClassId) (h hp hq : Nat) (d : DT) : Prop := dAt w1 k cI cL h hp hq d ∧ w1.length = w.length ∧ ∀ j, j < k ∨ k + 2 < j → w1[j]? = w[j]?
def rUpd (w w1 : va_W) (k : Nat) (cI : ClassId) (h fr up dn : Nat) (r : RT) : Prop := rAt w1 k cI h fr up dn r ∧ w1.length = w.length ∧ ∀ j, j < k ∨ k + 3 < j → w1[j]? = w[j]?
theorem ws_s {w : va_W} {k : Nat} {x y : Nat × va_E} (h : w[k]? = some x) : (w.set k y)[k]? = some y := by
  obtain ⟨h1, -⟩ := List.getElem?_eq_some_iff.mp h
  rw [List.getElem?_set_self h1]
theorem ws_n {w : va_W} {k j : Nat} {y : Nat × va_E} (h : k ≠ j) : (w.set k y)[j]? = w[j]? := List.getElem?_set_ne h
theorem dUpd.rf {w : va_W} {k : Nat} {cI cL : ClassId} {h hp hq : Nat} {d : DT} (H : dAt w k cI cL h hp hq d) : dUpd w w k cI cL h hp hq d := ⟨H, rfl, fun _ _ => rfl⟩
theorem dUpd.o {w w1 : va_W} {k : Nat} {cI cL : ClassId} {h hp hq : Nat} {d : DT} (H : dUpd w w1 k cI cL h hp hq d) : w1[k]? = some (h, dE hp hq d) := H.1.1
theorem dUpd.p {w w1 : va_W} {k : Nat} {cI cL : ClassId} {h hp hq : Nat} {d : DT} (H : dUpd w w1 k cI cL h hp hq d) : w1[k + 1]? = some (hp, aI cI 4 (d_people d)) := H.1.2.1
theorem dUpd.q {w w1 : va_W} {k : Nat} {cI cL : ClassId} {h hp hq : Nat} {d : DT} (H : dUpd w w1 k cI cL h hp hq d) : w1[k + 2]? = some (hq, aL cL 4 (d_paid d)) := H.1.2.2
theorem dUpd.so {w w1 : va_W} {k : Nat} {cI cL : ClassId} {h hp hq : Nat} {d : DT} (d2 : DT) (H : dUpd w w1 k cI cL h hp hq d) (h1 : d_people d2 = d_people d) (h2 : d_paid d2 = d_paid d) : dUpd w (w1.set k (h, dE hp hq d2)) k cI cL h hp hq d2 := by
  obtain ⟨⟨a, b, c⟩, l, o⟩ := H
  refine ⟨⟨ws_s a, ?_, ?_⟩, by rw [List.length_set, l], fun j hj => ?_⟩
  · rw [ws_n (by omega), h1]; exact b
  · rw [ws_n (by omega), h2]; exact c
  · rw [ws_n (by omega)]; exact o j hj
theorem dUpd.sp {w w1 : va_W} {k : Nat} {cI cL : ClassId} {h hp hq : Nat} {d : DT} (f : Nat → Int32) (H : dUpd w w1 k cI cL h hp hq d) : dUpd w (w1.set (k + 1) (hp, aI cI 4 f)) k cI cL h hp hq (s_people d f) := by
  obtain ⟨⟨a, b, c⟩, l, o⟩ := H
  refine ⟨⟨?_, ws_s b, ?_⟩, by rw [List.length_set, l], fun j hj => ?_⟩
  · rw [ws_n (by omega)]; exact a
  · rw [ws_n (by omega)]; exact c
  · rw [ws_n (by omega)]; exact o j hj
theorem dUpd.sq {w w1 : va_W} {k : Nat} {cI cL : ClassId} {h hp hq : Nat} {d : DT} (f : Nat → Int64) (H : dUpd w w1 k cI cL h hp hq d) : dUpd w (w1.set (k + 2) (hq, aL cL 4 f)) k cI cL h hp hq (s_paid d f) := by
  obtain ⟨⟨a, b, c⟩, l, o⟩ := H
  refine ⟨⟨?_, ?_, ws_s c⟩, by rw [List.length_set, l], fun j hj => ?_⟩
  · rw [ws_n (by omega)]; exact a
  · rw [ws_n (by omega)]; exact b
  · rw [ws_n (by omega)]; exact o j hj
theorem dUpd.tr {w w1 w2 : va_W} {k : Nat} {cI cL : ClassId} {h hp hq : Nat} {d d2 : DT} (H : dUpd w w1 k cI cL h hp hq d) (H2 : dUpd w1 w2 k cI cL h hp hq d2) : dUpd w w2 k cI cL h hp hq d2 := ⟨H2.1, H2.2.1.trans H.2.1, fun j hj => (H2.2.2 j hj).trans (H.2.2 j hj)⟩
theorem rAt.kp {w w1 : va_W} {k kr : Nat} {cI cL : ClassId} {h hp hq h9 fr up dn : Nat} {d : DT} {r : RT} (R : rAt w kr cI h9 fr up dn r) (H : dUpd w w1 k cI cL h hp hq d) (hk : kr + 3 < k) : rAt w1 kr cI h9 fr up dn r := by
  obtain ⟨a, b, c, e⟩ := R
  exact ⟨by rw [H.2.2 _ (by omega)]; exact a, by rw [H.2.2 _ (by omega)]; exact b, by rw [H.2.2 _ (by omega)]; exact c, by rw [H.2.2 _ (by omega)]; exact e⟩
theorem rUpd.rf {w : va_W} {k : Nat} {cI : ClassId} {h fr up dn : Nat} {r : RT} (H : rAt w k cI h fr up dn r) : rUpd w w k cI h fr up dn r := ⟨H, rfl, fun _ _ => rfl⟩
theorem rUpd.so {w w1 : va_W} {k : Nat} {cI : ClassId} {h fr up dn : Nat} {r : RT} (x : Int32) (H : rUpd w w1 k cI h fr up dn r) : rUpd w (w1.set k (h, rE fr up dn (q_count r x))) k cI h fr up dn (q_count r x) := by
  obtain ⟨⟨a, b, c, e⟩, l, o⟩ := H
  refine ⟨⟨ws_s a, ?_, ?_, ?_⟩, by rw [List.length_set, l], fun j hj => ?_⟩
  · rw [ws_n (by omega)]; exact b
  · rw [ws_n (by omega)]; exact c
  · rw [ws_n (by omega)]; exact e
  · rw [ws_n (by omega)]; exact o j hj
theorem rUpd.s1 {w w1 : va_W} {k : Nat} {cI : ClassId} {h fr up dn : Nat} {r : RT} (f : Nat → Int32) (H : rUpd w w1 k cI h fr up dn r) : rUpd w (w1.set (k + 1) (fr, aI cI 20 f)) k cI h fr up dn (q_from r f) := by
  obtain ⟨⟨a, b, c, e⟩, l, o⟩ := H
  refine ⟨⟨?_, ws_s b, ?_, ?_⟩, by rw [List.length_set, l], fun j hj => ?_⟩
  · rw [ws_n (by omega)]; exact a
  · rw [ws_n (by omega)]; exact c
  · rw [ws_n (by omega)]; exact e
  · rw [ws_n (by omega)]; exact o j hj
theorem rUpd.s2 {w w1 : va_W} {k : Nat} {cI : ClassId} {h fr up dn : Nat} {r : RT} (f : Nat → Int32) (H : rUpd w w1 k cI h fr up dn r) : rUpd w (w1.set (k + 2) (up, aI cI 20 f)) k cI h fr up dn (q_up r f) := by
  obtain ⟨⟨a, b, c, e⟩, l, o⟩ := H
  refine ⟨⟨?_, ?_, ws_s c, ?_⟩, by rw [List.length_set, l], fun j hj => ?_⟩
  · rw [ws_n (by omega)]; exact a
  · rw [ws_n (by omega)]; exact b
  · rw [ws_n (by omega)]; exact e
  · rw [ws_n (by omega)]; exact o j hj
theorem rUpd.s3 {w w1 : va_W} {k : Nat} {cI : ClassId} {h fr up dn : Nat} {r : RT} (f : Nat → Int32) (H : rUpd w w1 k cI h fr up dn r) : rUpd w (w1.set (k + 3) (dn, aI cI 20 f)) k cI h fr up dn (q_down r f) := by
  obtain ⟨⟨a, b, c, e⟩, l, o⟩ := H
  refine ⟨⟨?_, ?_, ?_, ws_s e⟩, by rw [List.length_set, l], fun j hj => ?_⟩
  · rw [ws_n (by omega)]; exact a
  · rw [ws_n (by omega)]; exact b
  · rw [ws_n (by omega)]; exact c
  · rw [ws_n (by omega)]; exact o j hj
/-- the array classes that the worlds hold -/
abbrev tyL (cI cL cD : ClassId) : List (ClassId × FieldType) := [(cI, .int), (cL, .long), (cD, .object "DebtRows$Debt")]
/-- a method's start: the world w, in A -/
def mPc (D : va_G) (w : va_W) (tys : List (ClassId × FieldType)) (A : Nat → Prop) (av : List Value) : Array Value → State → Prop := va_Pc av (fun U => va_P D vwCl w U.heap ∧ va_K D vwCl tys U ∧ va_D A w)
theorem mPc_bl {D : va_G} {w : va_W} {tys : List (ClassId × FieldType)} {A : Nat → Prop} {av : List Value} : FrameBlind (mPc D w tys A av) := fun a U g mk q => by
  obtain ⟨q0, qP, qK, qD⟩ := q
  exact ⟨q0, qP, va_K.moved (u := U) (U := U.calling g mk a) (Vm.Alike.refl U.vm) qK, qD⟩
theorem mPc_pr {D : va_G} {w : va_W} {tys : List (ClassId × FieldType)} {A : Nat → Prop} {av : List Value} {s : State} {H : Heap} (hP : va_P D vwCl w H) (hK : va_K D vwCl tys s) (hD : va_D A w) : ∀ U : State, U.heap = H → s.WarmedH U.vm → mPc D w tys A av av.toArray U := fun U hU hW => ⟨rfl, by rw [hU]; exact hP, va_K.moved hW.alike hK, hD⟩
/-- a debt's numbers are in their bounds -/
def wfD (d : DT) : Prop := (∃ m : Nat, m ≤ 4 ∧ d_debtors d = nI m) ∧ ∃ P : Nat, P ≤ 12 ∧ d_dParts d = nI P
def wfR (r : RT) : Prop := ∃ m : Nat, m ≤ 20 ∧ r_count r = nI m
def iMax (x y : Int32) : Int32 := if x < y then y else x
def iMin (x y : Int32) : Int32 := if y < x then y else x
def jMax (x y : Int64) : Int64 := if y < x then x else y
def jMin (x y : Int64) : Int64 := if y < x then y else x
theorem nI_inc (i : Nat) : nI i + Int32.ofInt 1 = nI (i + 1) := nI_1 i
theorem n64_0 {x : Int32} (h : 1 ≤ x) : ¬ x.toInt64 = 0 := by
  intro q
  have h1 := congrArg Int64.toInt q
  rw [Int32.toInt_toInt64] at h1
  rw [Int32.le_iff_toInt_le] at h
  have h2 : (1 : Int32).toInt = 1 := by decide
  have h3 : (0 : Int64).toInt = 0 := by decide
  omega
theorem vp_lt {x : Int32} {m n : Nat} {y : Int32} (h0 : ¬ x < 0) (h1 : ¬ y ≤ x) (hy : y = nI m) (hm : m ≤ n) (hn : n < 2 ^ 31) : vp_in x n := by
  rw [vp_in_iff]
  rw [Int32.lt_iff_toInt_lt] at h0
  rw [Int32.le_iff_toInt_le, hy, nI_toInt (by omega)] at h1
  have h2 : (0 : Int32).toInt = 0 := by decide
  omega
theorem tsw3 {x : Int32} (h0 : ¬ x = 0) (h1 : ¬ x = 1) (h2 : ¬ x = 2) : x.toInt < 0 ∨ 2 < x.toInt := by
  have g0 : x.toInt ≠ 0 := fun q => h0 (Int32.toInt_inj.mp (q.trans (by decide)))
  have g1 : x.toInt ≠ 1 := fun q => h1 (Int32.toInt_inj.mp (q.trans (by decide)))
  have g2 : x.toInt ≠ 2 := fun q => h2 (Int32.toInt_inj.mp (q.trans (by decide)))
  omega
theorem tsw4 {x : Int32} (h0 : ¬ x = 0) (h1 : ¬ x = 1) (h2 : ¬ x = 2) (h3 : ¬ x = 3) : x.toInt < 0 ∨ 3 < x.toInt := by
  have g0 : x.toInt ≠ 0 := fun q => h0 (Int32.toInt_inj.mp (q.trans (by decide)))
  have g1 : x.toInt ≠ 1 := fun q => h1 (Int32.toInt_inj.mp (q.trans (by decide)))
  have g2 : x.toInt ≠ 2 := fun q => h2 (Int32.toInt_inj.mp (q.trans (by decide)))
  have g3 : x.toInt ≠ 3 := fun q => h3 (Int32.toInt_inj.mp (q.trans (by decide)))
  omega
theorem tsw5 {x : Int32} (h0 : ¬ x = 0) (h1 : ¬ x = 1) (h2 : ¬ x = 2) (h3 : ¬ x = 3) (h4 : ¬ x = 4) : x.toInt < 0 ∨ 4 < x.toInt := by
  have g0 : x.toInt ≠ 0 := fun q => h0 (Int32.toInt_inj.mp (q.trans (by decide)))
  have g1 : x.toInt ≠ 1 := fun q => h1 (Int32.toInt_inj.mp (q.trans (by decide)))
  have g2 : x.toInt ≠ 2 := fun q => h2 (Int32.toInt_inj.mp (q.trans (by decide)))
  have g3 : x.toInt ≠ 3 := fun q => h3 (Int32.toInt_inj.mp (q.trans (by decide)))
  have g4 : x.toInt ≠ 4 := fun q => h4 (Int32.toInt_inj.mp (q.trans (by decide)))
  omega
theorem tsw6 {x : Int32} (h0 : ¬ x = 0) (h1 : ¬ x = 1) (h2 : ¬ x = 2) (h3 : ¬ x = 3) (h4 : ¬ x = 4) (h5 : ¬ x = 5) : x.toInt < 0 ∨ 5 < x.toInt := by
  have g0 : x.toInt ≠ 0 := fun q => h0 (Int32.toInt_inj.mp (q.trans (by decide)))
  have g1 : x.toInt ≠ 1 := fun q => h1 (Int32.toInt_inj.mp (q.trans (by decide)))
  have g2 : x.toInt ≠ 2 := fun q => h2 (Int32.toInt_inj.mp (q.trans (by decide)))
  have g3 : x.toInt ≠ 3 := fun q => h3 (Int32.toInt_inj.mp (q.trans (by decide)))
  have g4 : x.toInt ≠ 4 := fun q => h4 (Int32.toInt_inj.mp (q.trans (by decide)))
  have g5 : x.toInt ≠ 5 := fun q => h5 (Int32.toInt_inj.mp (q.trans (by decide)))
  omega
theorem tsw7 {x : Int32} (h0 : ¬ x = 0) (h1 : ¬ x = 1) (h2 : ¬ x = 2) (h3 : ¬ x = 3) (h4 : ¬ x = 4) (h5 : ¬ x = 5) (h6 : ¬ x = 6) : x.toInt < 0 ∨ 6 < x.toInt := by
  have g0 : x.toInt ≠ 0 := fun q => h0 (Int32.toInt_inj.mp (q.trans (by decide)))
  have g1 : x.toInt ≠ 1 := fun q => h1 (Int32.toInt_inj.mp (q.trans (by decide)))
  have g2 : x.toInt ≠ 2 := fun q => h2 (Int32.toInt_inj.mp (q.trans (by decide)))
  have g3 : x.toInt ≠ 3 := fun q => h3 (Int32.toInt_inj.mp (q.trans (by decide)))
  have g4 : x.toInt ≠ 4 := fun q => h4 (Int32.toInt_inj.mp (q.trans (by decide)))
  have g5 : x.toInt ≠ 5 := fun q => h5 (Int32.toInt_inj.mp (q.trans (by decide)))
  have g6 : x.toInt ≠ 6 := fun q => h6 (Int32.toInt_inj.mp (q.trans (by decide)))
  omega
theorem tsw8 {x : Int32} (h0 : ¬ x = 0) (h1 : ¬ x = 1) (h2 : ¬ x = 2) (h3 : ¬ x = 3) (h4 : ¬ x = 4) (h5 : ¬ x = 5) (h6 : ¬ x = 6) (h7 : ¬ x = 7) : x.toInt < 0 ∨ 7 < x.toInt := by
  have g0 : x.toInt ≠ 0 := fun q => h0 (Int32.toInt_inj.mp (q.trans (by decide)))
  have g1 : x.toInt ≠ 1 := fun q => h1 (Int32.toInt_inj.mp (q.trans (by decide)))
  have g2 : x.toInt ≠ 2 := fun q => h2 (Int32.toInt_inj.mp (q.trans (by decide)))
  have g3 : x.toInt ≠ 3 := fun q => h3 (Int32.toInt_inj.mp (q.trans (by decide)))
  have g4 : x.toInt ≠ 4 := fun q => h4 (Int32.toInt_inj.mp (q.trans (by decide)))
  have g5 : x.toInt ≠ 5 := fun q => h5 (Int32.toInt_inj.mp (q.trans (by decide)))
  have g6 : x.toInt ≠ 6 := fun q => h6 (Int32.toInt_inj.mp (q.trans (by decide)))
  have g7 : x.toInt ≠ 7 := fun q => h7 (Int32.toInt_inj.mp (q.trans (by decide)))
  omega
theorem tsw9 {x : Int32} (h0 : ¬ x = 0) (h1 : ¬ x = 1) (h2 : ¬ x = 2) (h3 : ¬ x = 3) (h4 : ¬ x = 4) (h5 : ¬ x = 5) (h6 : ¬ x = 6) (h7 : ¬ x = 7) (h8 : ¬ x = 8) : x.toInt < 0 ∨ 8 < x.toInt := by
  have g0 : x.toInt ≠ 0 := fun q => h0 (Int32.toInt_inj.mp (q.trans (by decide)))
  have g1 : x.toInt ≠ 1 := fun q => h1 (Int32.toInt_inj.mp (q.trans (by decide)))
  have g2 : x.toInt ≠ 2 := fun q => h2 (Int32.toInt_inj.mp (q.trans (by decide)))
  have g3 : x.toInt ≠ 3 := fun q => h3 (Int32.toInt_inj.mp (q.trans (by decide)))
  have g4 : x.toInt ≠ 4 := fun q => h4 (Int32.toInt_inj.mp (q.trans (by decide)))
  have g5 : x.toInt ≠ 5 := fun q => h5 (Int32.toInt_inj.mp (q.trans (by decide)))
  have g6 : x.toInt ≠ 6 := fun q => h6 (Int32.toInt_inj.mp (q.trans (by decide)))
  have g7 : x.toInt ≠ 7 := fun q => h7 (Int32.toInt_inj.mp (q.trans (by decide)))
  have g8 : x.toInt ≠ 8 := fun q => h8 (Int32.toInt_inj.mp (q.trans (by decide)))
  omega
theorem tsw10 {x : Int32} (h0 : ¬ x = 0) (h1 : ¬ x = 1) (h2 : ¬ x = 2) (h3 : ¬ x = 3) (h4 : ¬ x = 4) (h5 : ¬ x = 5) (h6 : ¬ x = 6) (h7 : ¬ x = 7) (h8 : ¬ x = 8) (h9 : ¬ x = 9) : x.toInt < 0 ∨ 9 < x.toInt := by
  have g0 : x.toInt ≠ 0 := fun q => h0 (Int32.toInt_inj.mp (q.trans (by decide)))
  have g1 : x.toInt ≠ 1 := fun q => h1 (Int32.toInt_inj.mp (q.trans (by decide)))
  have g2 : x.toInt ≠ 2 := fun q => h2 (Int32.toInt_inj.mp (q.trans (by decide)))
  have g3 : x.toInt ≠ 3 := fun q => h3 (Int32.toInt_inj.mp (q.trans (by decide)))
  have g4 : x.toInt ≠ 4 := fun q => h4 (Int32.toInt_inj.mp (q.trans (by decide)))
  have g5 : x.toInt ≠ 5 := fun q => h5 (Int32.toInt_inj.mp (q.trans (by decide)))
  have g6 : x.toInt ≠ 6 := fun q => h6 (Int32.toInt_inj.mp (q.trans (by decide)))
  have g7 : x.toInt ≠ 7 := fun q => h7 (Int32.toInt_inj.mp (q.trans (by decide)))
  have g8 : x.toInt ≠ 8 := fun q => h8 (Int32.toInt_inj.mp (q.trans (by decide)))
  have g9 : x.toInt ≠ 9 := fun q => h9 (Int32.toInt_inj.mp (q.trans (by decide)))
  omega
theorem tsw11 {x : Int32} (h0 : ¬ x = 0) (h1 : ¬ x = 1) (h2 : ¬ x = 2) (h3 : ¬ x = 3) (h4 : ¬ x = 4) (h5 : ¬ x = 5) (h6 : ¬ x = 6) (h7 : ¬ x = 7) (h8 : ¬ x = 8) (h9 : ¬ x = 9) (h10 : ¬ x = 10) : x.toInt < 0 ∨ 10 < x.toInt := by
  have g0 : x.toInt ≠ 0 := fun q => h0 (Int32.toInt_inj.mp (q.trans (by decide)))
  have g1 : x.toInt ≠ 1 := fun q => h1 (Int32.toInt_inj.mp (q.trans (by decide)))
  have g2 : x.toInt ≠ 2 := fun q => h2 (Int32.toInt_inj.mp (q.trans (by decide)))
  have g3 : x.toInt ≠ 3 := fun q => h3 (Int32.toInt_inj.mp (q.trans (by decide)))
  have g4 : x.toInt ≠ 4 := fun q => h4 (Int32.toInt_inj.mp (q.trans (by decide)))
  have g5 : x.toInt ≠ 5 := fun q => h5 (Int32.toInt_inj.mp (q.trans (by decide)))
  have g6 : x.toInt ≠ 6 := fun q => h6 (Int32.toInt_inj.mp (q.trans (by decide)))
  have g7 : x.toInt ≠ 7 := fun q => h7 (Int32.toInt_inj.mp (q.trans (by decide)))
  have g8 : x.toInt ≠ 8 := fun q => h8 (Int32.toInt_inj.mp (q.trans (by decide)))
  have g9 : x.toInt ≠ 9 := fun q => h9 (Int32.toInt_inj.mp (q.trans (by decide)))
  have g10 : x.toInt ≠ 10 := fun q => h10 (Int32.toInt_inj.mp (q.trans (by decide)))
  omega
theorem tsw12 {x : Int32} (h0 : ¬ x = 0) (h1 : ¬ x = 1) (h2 : ¬ x = 2) (h3 : ¬ x = 3) (h4 : ¬ x = 4) (h5 : ¬ x = 5) (h6 : ¬ x = 6) (h7 : ¬ x = 7) (h8 : ¬ x = 8) (h9 : ¬ x = 9) (h10 : ¬ x = 10) (h11 : ¬ x = 11) : x.toInt < 0 ∨ 11 < x.toInt := by
  have g0 : x.toInt ≠ 0 := fun q => h0 (Int32.toInt_inj.mp (q.trans (by decide)))
  have g1 : x.toInt ≠ 1 := fun q => h1 (Int32.toInt_inj.mp (q.trans (by decide)))
  have g2 : x.toInt ≠ 2 := fun q => h2 (Int32.toInt_inj.mp (q.trans (by decide)))
  have g3 : x.toInt ≠ 3 := fun q => h3 (Int32.toInt_inj.mp (q.trans (by decide)))
  have g4 : x.toInt ≠ 4 := fun q => h4 (Int32.toInt_inj.mp (q.trans (by decide)))
  have g5 : x.toInt ≠ 5 := fun q => h5 (Int32.toInt_inj.mp (q.trans (by decide)))
  have g6 : x.toInt ≠ 6 := fun q => h6 (Int32.toInt_inj.mp (q.trans (by decide)))
  have g7 : x.toInt ≠ 7 := fun q => h7 (Int32.toInt_inj.mp (q.trans (by decide)))
  have g8 : x.toInt ≠ 8 := fun q => h8 (Int32.toInt_inj.mp (q.trans (by decide)))
  have g9 : x.toInt ≠ 9 := fun q => h9 (Int32.toInt_inj.mp (q.trans (by decide)))
  have g10 : x.toInt ≠ 10 := fun q => h10 (Int32.toInt_inj.mp (q.trans (by decide)))
  have g11 : x.toInt ≠ 11 := fun q => h11 (Int32.toInt_inj.mp (q.trans (by decide)))
  omega
theorem tsw13 {x : Int32} (h0 : ¬ x = 0) (h1 : ¬ x = 1) (h2 : ¬ x = 2) (h3 : ¬ x = 3) (h4 : ¬ x = 4) (h5 : ¬ x = 5) (h6 : ¬ x = 6) (h7 : ¬ x = 7) (h8 : ¬ x = 8) (h9 : ¬ x = 9) (h10 : ¬ x = 10) (h11 : ¬ x = 11) (h12 : ¬ x = 12) : x.toInt < 0 ∨ 12 < x.toInt := by
  have g0 : x.toInt ≠ 0 := fun q => h0 (Int32.toInt_inj.mp (q.trans (by decide)))
  have g1 : x.toInt ≠ 1 := fun q => h1 (Int32.toInt_inj.mp (q.trans (by decide)))
  have g2 : x.toInt ≠ 2 := fun q => h2 (Int32.toInt_inj.mp (q.trans (by decide)))
  have g3 : x.toInt ≠ 3 := fun q => h3 (Int32.toInt_inj.mp (q.trans (by decide)))
  have g4 : x.toInt ≠ 4 := fun q => h4 (Int32.toInt_inj.mp (q.trans (by decide)))
  have g5 : x.toInt ≠ 5 := fun q => h5 (Int32.toInt_inj.mp (q.trans (by decide)))
  have g6 : x.toInt ≠ 6 := fun q => h6 (Int32.toInt_inj.mp (q.trans (by decide)))
  have g7 : x.toInt ≠ 7 := fun q => h7 (Int32.toInt_inj.mp (q.trans (by decide)))
  have g8 : x.toInt ≠ 8 := fun q => h8 (Int32.toInt_inj.mp (q.trans (by decide)))
  have g9 : x.toInt ≠ 9 := fun q => h9 (Int32.toInt_inj.mp (q.trans (by decide)))
  have g10 : x.toInt ≠ 10 := fun q => h10 (Int32.toInt_inj.mp (q.trans (by decide)))
  have g11 : x.toInt ≠ 11 := fun q => h11 (Int32.toInt_inj.mp (q.trans (by decide)))
  have g12 : x.toInt ≠ 12 := fun q => h12 (Int32.toInt_inj.mp (q.trans (by decide)))
  omega
theorem tsw14 {x : Int32} (h0 : ¬ x = 0) (h1 : ¬ x = 1) (h2 : ¬ x = 2) (h3 : ¬ x = 3) (h4 : ¬ x = 4) (h5 : ¬ x = 5) (h6 : ¬ x = 6) (h7 : ¬ x = 7) (h8 : ¬ x = 8) (h9 : ¬ x = 9) (h10 : ¬ x = 10) (h11 : ¬ x = 11) (h12 : ¬ x = 12) (h13 : ¬ x = 13) : x.toInt < 0 ∨ 13 < x.toInt := by
  have g0 : x.toInt ≠ 0 := fun q => h0 (Int32.toInt_inj.mp (q.trans (by decide)))
  have g1 : x.toInt ≠ 1 := fun q => h1 (Int32.toInt_inj.mp (q.trans (by decide)))
  have g2 : x.toInt ≠ 2 := fun q => h2 (Int32.toInt_inj.mp (q.trans (by decide)))
  have g3 : x.toInt ≠ 3 := fun q => h3 (Int32.toInt_inj.mp (q.trans (by decide)))
  have g4 : x.toInt ≠ 4 := fun q => h4 (Int32.toInt_inj.mp (q.trans (by decide)))
  have g5 : x.toInt ≠ 5 := fun q => h5 (Int32.toInt_inj.mp (q.trans (by decide)))
  have g6 : x.toInt ≠ 6 := fun q => h6 (Int32.toInt_inj.mp (q.trans (by decide)))
  have g7 : x.toInt ≠ 7 := fun q => h7 (Int32.toInt_inj.mp (q.trans (by decide)))
  have g8 : x.toInt ≠ 8 := fun q => h8 (Int32.toInt_inj.mp (q.trans (by decide)))
  have g9 : x.toInt ≠ 9 := fun q => h9 (Int32.toInt_inj.mp (q.trans (by decide)))
  have g10 : x.toInt ≠ 10 := fun q => h10 (Int32.toInt_inj.mp (q.trans (by decide)))
  have g11 : x.toInt ≠ 11 := fun q => h11 (Int32.toInt_inj.mp (q.trans (by decide)))
  have g12 : x.toInt ≠ 12 := fun q => h12 (Int32.toInt_inj.mp (q.trans (by decide)))
  have g13 : x.toInt ≠ 13 := fun q => h13 (Int32.toInt_inj.mp (q.trans (by decide)))
  omega
end
section
/-! The class: its object, the rates, the debts in their order; the addresses of its cells. -/
abbrev XT : Type := Int32 × Int32 × RT × (Nat → Int64) × (Nat → DT)
abbrev x_cnt (d : XT) : Int32 := d.1
abbrev x_today (d : XT) : Int32 := d.2.1
abbrev x_rates (d : XT) : RT := d.2.2.1
abbrev x_credit (d : XT) : (Nat → Int64) := d.2.2.2.1
abbrev x_debts (d : XT) : (Nat → DT) := d.2.2.2.2
abbrev y_cnt (d : XT) (x : Int32) : XT := (x, d.2.1, d.2.2.1, d.2.2.2.1, d.2.2.2.2)
abbrev y_today (d : XT) (x : Int32) : XT := (d.1, x, d.2.2.1, d.2.2.2.1, d.2.2.2.2)
abbrev y_rates (d : XT) (x : RT) : XT := (d.1, d.2.1, x, d.2.2.2.1, d.2.2.2.2)
abbrev y_credit (d : XT) (x : (Nat → Int64)) : XT := (d.1, d.2.1, d.2.2.1, x, d.2.2.2.2)
abbrev y_debts (d : XT) (x : (Nat → DT)) : XT := (d.1, d.2.1, d.2.2.1, d.2.2.2.1, x)
abbrev AD : Type := Nat × Nat × Nat × Nat × Nat × Nat × Nat × Nat × (Nat → Nat) × (Nat → Nat) × (Nat → Nat) × (Nat → Option Nat)
abbrev a_x (d : AD) : Nat := d.1
abbrev a_r0 (d : AD) : Nat := d.2.1
abbrev a_fr (d : AD) : Nat := d.2.2.1
abbrev a_up (d : AD) : Nat := d.2.2.2.1
abbrev a_dn (d : AD) : Nat := d.2.2.2.2.1
abbrev a_ds (d : AD) : Nat := d.2.2.2.2.2.1
abbrev a_cr (d : AD) : Nat := d.2.2.2.2.2.2.1
abbrev a_n (d : AD) : Nat := d.2.2.2.2.2.2.2.1
abbrev a_da (d : AD) : (Nat → Nat) := d.2.2.2.2.2.2.2.2.1
abbrev a_pa (d : AD) : (Nat → Nat) := d.2.2.2.2.2.2.2.2.2.1
abbrev a_qa (d : AD) : (Nat → Nat) := d.2.2.2.2.2.2.2.2.2.2.1
abbrev a_g (d : AD) : (Nat → Option Nat) := d.2.2.2.2.2.2.2.2.2.2.2
abbrev b_x (d : AD) (x : Nat) : AD := (x, d.2.1, d.2.2.1, d.2.2.2.1, d.2.2.2.2.1, d.2.2.2.2.2.1, d.2.2.2.2.2.2.1, d.2.2.2.2.2.2.2.1, d.2.2.2.2.2.2.2.2.1, d.2.2.2.2.2.2.2.2.2.1, d.2.2.2.2.2.2.2.2.2.2.1, d.2.2.2.2.2.2.2.2.2.2.2)
abbrev b_r0 (d : AD) (x : Nat) : AD := (d.1, x, d.2.2.1, d.2.2.2.1, d.2.2.2.2.1, d.2.2.2.2.2.1, d.2.2.2.2.2.2.1, d.2.2.2.2.2.2.2.1, d.2.2.2.2.2.2.2.2.1, d.2.2.2.2.2.2.2.2.2.1, d.2.2.2.2.2.2.2.2.2.2.1, d.2.2.2.2.2.2.2.2.2.2.2)
abbrev b_fr (d : AD) (x : Nat) : AD := (d.1, d.2.1, x, d.2.2.2.1, d.2.2.2.2.1, d.2.2.2.2.2.1, d.2.2.2.2.2.2.1, d.2.2.2.2.2.2.2.1, d.2.2.2.2.2.2.2.2.1, d.2.2.2.2.2.2.2.2.2.1, d.2.2.2.2.2.2.2.2.2.2.1, d.2.2.2.2.2.2.2.2.2.2.2)
abbrev b_up (d : AD) (x : Nat) : AD := (d.1, d.2.1, d.2.2.1, x, d.2.2.2.2.1, d.2.2.2.2.2.1, d.2.2.2.2.2.2.1, d.2.2.2.2.2.2.2.1, d.2.2.2.2.2.2.2.2.1, d.2.2.2.2.2.2.2.2.2.1, d.2.2.2.2.2.2.2.2.2.2.1, d.2.2.2.2.2.2.2.2.2.2.2)
abbrev b_dn (d : AD) (x : Nat) : AD := (d.1, d.2.1, d.2.2.1, d.2.2.2.1, x, d.2.2.2.2.2.1, d.2.2.2.2.2.2.1, d.2.2.2.2.2.2.2.1, d.2.2.2.2.2.2.2.2.1, d.2.2.2.2.2.2.2.2.2.1, d.2.2.2.2.2.2.2.2.2.2.1, d.2.2.2.2.2.2.2.2.2.2.2)
abbrev b_ds (d : AD) (x : Nat) : AD := (d.1, d.2.1, d.2.2.1, d.2.2.2.1, d.2.2.2.2.1, x, d.2.2.2.2.2.2.1, d.2.2.2.2.2.2.2.1, d.2.2.2.2.2.2.2.2.1, d.2.2.2.2.2.2.2.2.2.1, d.2.2.2.2.2.2.2.2.2.2.1, d.2.2.2.2.2.2.2.2.2.2.2)
abbrev b_cr (d : AD) (x : Nat) : AD := (d.1, d.2.1, d.2.2.1, d.2.2.2.1, d.2.2.2.2.1, d.2.2.2.2.2.1, x, d.2.2.2.2.2.2.2.1, d.2.2.2.2.2.2.2.2.1, d.2.2.2.2.2.2.2.2.2.1, d.2.2.2.2.2.2.2.2.2.2.1, d.2.2.2.2.2.2.2.2.2.2.2)
abbrev b_n (d : AD) (x : Nat) : AD := (d.1, d.2.1, d.2.2.1, d.2.2.2.1, d.2.2.2.2.1, d.2.2.2.2.2.1, d.2.2.2.2.2.2.1, x, d.2.2.2.2.2.2.2.2.1, d.2.2.2.2.2.2.2.2.2.1, d.2.2.2.2.2.2.2.2.2.2.1, d.2.2.2.2.2.2.2.2.2.2.2)
abbrev b_da (d : AD) (x : (Nat → Nat)) : AD := (d.1, d.2.1, d.2.2.1, d.2.2.2.1, d.2.2.2.2.1, d.2.2.2.2.2.1, d.2.2.2.2.2.2.1, d.2.2.2.2.2.2.2.1, x, d.2.2.2.2.2.2.2.2.2.1, d.2.2.2.2.2.2.2.2.2.2.1, d.2.2.2.2.2.2.2.2.2.2.2)
abbrev b_pa (d : AD) (x : (Nat → Nat)) : AD := (d.1, d.2.1, d.2.2.1, d.2.2.2.1, d.2.2.2.2.1, d.2.2.2.2.2.1, d.2.2.2.2.2.2.1, d.2.2.2.2.2.2.2.1, d.2.2.2.2.2.2.2.2.1, x, d.2.2.2.2.2.2.2.2.2.2.1, d.2.2.2.2.2.2.2.2.2.2.2)
abbrev b_qa (d : AD) (x : (Nat → Nat)) : AD := (d.1, d.2.1, d.2.2.1, d.2.2.2.1, d.2.2.2.2.1, d.2.2.2.2.2.1, d.2.2.2.2.2.2.1, d.2.2.2.2.2.2.2.1, d.2.2.2.2.2.2.2.2.1, d.2.2.2.2.2.2.2.2.2.1, x, d.2.2.2.2.2.2.2.2.2.2.2)
abbrev b_g (d : AD) (x : (Nat → Option Nat)) : AD := (d.1, d.2.1, d.2.2.1, d.2.2.2.1, d.2.2.2.2.1, d.2.2.2.2.2.1, d.2.2.2.2.2.2.1, d.2.2.2.2.2.2.2.1, d.2.2.2.2.2.2.2.2.1, d.2.2.2.2.2.2.2.2.2.1, d.2.2.2.2.2.2.2.2.2.2.1, x)
abbrev xE (r0 ds cr : Nat) (s : XT) : va_E := .inr (2, [.ref r0, .ref ds, .ref cr, .int (x_cnt s), .int (x_today s)])
abbrev y_debt (s : XT) (i : Nat) (d : DT) : XT := y_debts s (va_up (x_debts s) i d)

def cA (w : va_W) (b : Nat) (cI cL cD : ClassId) (a : AD) (s : XT) : Prop :=
  (w[b]? = some (a_x a, xE (a_r0 a) (a_ds a) (a_cr a) s) ∧ rAt w (b + 1) cI (a_r0 a) (a_fr a) (a_up a) (a_dn a) (x_rates s) ∧ w[b + 5]? = some (a_ds a, aQ cD 40 (a_g a)) ∧ w[b + 6]? = some (a_cr a, aL cL 16 (x_credit s))) ∧
  (a_n a ≤ 40 ∧ x_cnt s = nI (a_n a) ∧ w.length = b + 7 + 3 * a_n a ∧ wfR (x_rates s)) ∧
  ∀ i, i < a_n a → a_g a i = some (a_da a i) ∧ dAt w (b + 7 + 3 * i) cI cL (a_da a i) (a_pa a i) (a_qa a i) (x_debts s i) ∧ wfD (x_debts s i)
def cUpd (w w1 : va_W) (b : Nat) (cI cL cD : ClassId) (a : AD) (s : XT) : Prop := cA w1 b cI cL cD a s ∧ ∀ j, j < b → w1[j]? = w[j]?
/-- the class's object at address x stands in w from place b on, in the state s -/
def cAt (w : va_W) (b : Nat) (cI cL cD : ClassId) (x : Nat) (s : XT) : Prop := ∃ a : AD, a_x a = x ∧ cA w b cI cL cD a s
theorem dUpd.out {w w1 : va_W} {k : Nat} {cI cL : ClassId} {h hp hq : Nat} {d : DT} (H : dUpd w w1 k cI cL h hp hq d) {j : Nat} {q : Nat × va_E} (hq : w[j]? = some q) (hj : j < k ∨ k + 2 < j) : w1[j]? = some q := by
  rw [H.2.2 j hj]; exact hq
theorem cA.x {w : va_W} {b : Nat} {cI cL cD : ClassId} {a : AD} {s : XT} (h : cA w b cI cL cD a s) : w[b]? = some (a_x a, xE (a_r0 a) (a_ds a) (a_cr a) s) := h.1.1
theorem cA.r {w : va_W} {b : Nat} {cI cL cD : ClassId} {a : AD} {s : XT} (h : cA w b cI cL cD a s) : rAt w (b + 1) cI (a_r0 a) (a_fr a) (a_up a) (a_dn a) (x_rates s) := h.1.2.1
theorem cA.ds {w : va_W} {b : Nat} {cI cL cD : ClassId} {a : AD} {s : XT} (h : cA w b cI cL cD a s) : w[b + 5]? = some (a_ds a, aQ cD 40 (a_g a)) := h.1.2.2.1
theorem cA.cr {w : va_W} {b : Nat} {cI cL cD : ClassId} {a : AD} {s : XT} (h : cA w b cI cL cD a s) : w[b + 6]? = some (a_cr a, aL cL 16 (x_credit s)) := h.1.2.2.2
theorem cA.wr {w : va_W} {b : Nat} {cI cL cD : ClassId} {a : AD} {s : XT} (h : cA w b cI cL cD a s) : wfR (x_rates s) := h.2.1.2.2.2
theorem cA.d {w : va_W} {b : Nat} {cI cL cD : ClassId} {a : AD} {s : XT} (h : cA w b cI cL cD a s) {i : Nat} (hi : i < a_n a) : dAt w (b + 7 + 3 * i) cI cL (a_da a i) (a_pa a i) (a_qa a i) (x_debts s i) := (h.2.2 i hi).2.1
theorem cA.wd {w : va_W} {b : Nat} {cI cL cD : ClassId} {a : AD} {s : XT} (h : cA w b cI cL cD a s) {i : Nat} (hi : i < a_n a) : wfD (x_debts s i) := (h.2.2 i hi).2.2
theorem cA.g {w : va_W} {b : Nat} {cI cL cD : ClassId} {a : AD} {s : XT} (h : cA w b cI cL cD a s) {i : Nat} (hi : i < a_n a) : a_g a i = some (a_da a i) := (h.2.2 i hi).1
theorem cA.n {w : va_W} {b : Nat} {cI cL cD : ClassId} {a : AD} {s : XT} (h : cA w b cI cL cD a s) : a_n a ≤ 40 := h.2.1.1
theorem cA.en {w : va_W} {b : Nat} {cI cL cD : ClassId} {a : AD} {s : XT} (h : cA w b cI cL cD a s) : x_cnt s = nI (a_n a) := h.2.1.2.1
theorem dAt.kx {w w1 : va_W} {k : Nat} {cI cL : ClassId} {h hp hq : Nat} {d : DT} (H : dAt w k cI cL h hp hq d) (e : ∀ j, k ≤ j → j ≤ k + 2 → w1[j]? = w[j]?) : dAt w1 k cI cL h hp hq d := by
  obtain ⟨a, b, c⟩ := H
  exact ⟨by rw [e _ (by omega) (by omega)]; exact a, by rw [e _ (by omega) (by omega)]; exact b, by rw [e _ (by omega) (by omega)]; exact c⟩
theorem rAt.kx {w w1 : va_W} {k : Nat} {cI : ClassId} {h fr up dn : Nat} {r : RT} (H : rAt w k cI h fr up dn r) (e : ∀ j, k ≤ j → j ≤ k + 3 → w1[j]? = w[j]?) : rAt w1 k cI h fr up dn r := by
  obtain ⟨a, b, c, d⟩ := H
  exact ⟨by rw [e _ (by omega) (by omega)]; exact a, by rw [e _ (by omega) (by omega)]; exact b, by rw [e _ (by omega) (by omega)]; exact c, by rw [e _ (by omega) (by omega)]; exact d⟩
theorem cUpd.rf {w : va_W} {b : Nat} {cI cL cD : ClassId} {a : AD} {s : XT} (h : cA w b cI cL cD a s) : cUpd w w b cI cL cD a s := ⟨h, fun _ _ => rfl⟩
theorem cUpd.at {w w1 : va_W} {b : Nat} {cI cL cD : ClassId} {a : AD} {s : XT} (h : cUpd w w1 b cI cL cD a s) : cAt w1 b cI cL cD (a_x a) s := ⟨a, rfl, h.1⟩
/-- a debt has changed -/
theorem cUpd.d {w w1 w2 : va_W} {b : Nat} {cI cL cD : ClassId} {a : AD} {s : XT} {i : Nat} {d : DT} (h : cUpd w w1 b cI cL cD a s) (hi : i < a_n a) (hU : dUpd w1 w2 (b + 7 + 3 * i) cI cL (a_da a i) (a_pa a i) (a_qa a i) d) (hw : wfD d) : cUpd w w2 b cI cL cD a (y_debt s i d) := by
  obtain ⟨⟨⟨h1, h2, h3, h4⟩, ⟨h5, h6, h7, h8⟩, h9⟩, h0⟩ := h
  refine ⟨⟨⟨hU.out h1 (by omega), h2.kx (fun j _ _ => hU.2.2 j (by omega)), hU.out h3 (by omega), hU.out h4 (by omega)⟩, ⟨h5, h6, hU.2.1.trans h7, h8⟩, fun j hj => ?_⟩, fun j hj => (hU.2.2 j (by omega)).trans (h0 j hj)⟩
  by_cases e : j = i
  · subst e
    have e1 : x_debts (y_debt s j d) j = d := va_up_self _ _ _
    rw [e1]
    exact ⟨(h9 j hj).1, hU.1, hw⟩
  · have e1 : x_debts (y_debt s i d) j = x_debts s j := va_up_ne _ _ e
    rw [e1]
    exact ⟨(h9 j hj).1, (h9 j hj).2.1.kx (fun q _ _ => hU.2.2 q (by omega)), (h9 j hj).2.2⟩
/-- the day goes on -/
theorem cUpd.t {w w1 : va_W} {b : Nat} {cI cL cD : ClassId} {a : AD} {s : XT} (t : Int32) (h : cUpd w w1 b cI cL cD a s) : cUpd w (w1.set b (a_x a, xE (a_r0 a) (a_ds a) (a_cr a) (y_today s t))) b cI cL cD a (y_today s t) := by
  obtain ⟨⟨⟨h1, h2, h3, h4⟩, ⟨h5, h6, h7, h8⟩, h9⟩, h0⟩ := h
  refine ⟨⟨⟨ws_s h1, h2.kx (fun j _ _ => ws_n (by omega)), by rw [ws_n (by omega)]; exact h3, by rw [ws_n (by omega)]; exact h4⟩, ⟨h5, h6, by rw [List.length_set]; exact h7, h8⟩, fun j hj => ⟨(h9 j hj).1, (h9 j hj).2.1.kx (fun q _ _ => ws_n (by omega)), (h9 j hj).2.2⟩⟩, fun j hj => by rw [ws_n (by omega)]; exact h0 j hj⟩
/-- somebody's credit -/
theorem cUpd.c {w w1 : va_W} {b : Nat} {cI cL cD : ClassId} {a : AD} {s : XT} (f : Nat → Int64) (h : cUpd w w1 b cI cL cD a s) : cUpd w (w1.set (b + 6) (a_cr a, aL cL 16 f)) b cI cL cD a (y_credit s f) := by
  obtain ⟨⟨⟨h1, h2, h3, h4⟩, ⟨h5, h6, h7, h8⟩, h9⟩, h0⟩ := h
  refine ⟨⟨⟨by rw [ws_n (by omega)]; exact h1, h2.kx (fun j _ _ => ws_n (by omega)), by rw [ws_n (by omega)]; exact h3, ws_s h4⟩, ⟨h5, h6, by rw [List.length_set]; exact h7, h8⟩, fun j hj => ⟨(h9 j hj).1, (h9 j hj).2.1.kx (fun q _ _ => ws_n (by omega)), (h9 j hj).2.2⟩⟩, fun j hj => by rw [ws_n (by omega)]; exact h0 j hj⟩
/-- the rates -/
theorem cUpd.r {w w1 w2 : va_W} {b : Nat} {cI cL cD : ClassId} {a : AD} {s : XT} {r : RT} (h : cUpd w w1 b cI cL cD a s) (hU : rUpd w1 w2 (b + 1) cI (a_r0 a) (a_fr a) (a_up a) (a_dn a) r) (hw : wfR r) : cUpd w w2 b cI cL cD a (y_rates s r) := by
  obtain ⟨⟨⟨h1, h2, h3, h4⟩, ⟨h5, h6, h7, h8⟩, h9⟩, h0⟩ := h
  refine ⟨⟨⟨by rw [hU.2.2 _ (by omega)]; exact h1, hU.1, by rw [hU.2.2 _ (by omega)]; exact h3, by rw [hU.2.2 _ (by omega)]; exact h4⟩, ⟨h5, h6, hU.2.1.trans h7, hw⟩, fun j hj => ⟨(h9 j hj).1, (h9 j hj).2.1.kx (fun q _ _ => hU.2.2 q (by omega)), (h9 j hj).2.2⟩⟩, fun j hj => (hU.2.2 j (by omega)).trans (h0 j hj)⟩
/-- a number that names a debt -/
abbrev okN (s : XT) (q : Int32) : Prop := 1 ≤ q ∧ q ≤ x_cnt s
def ixN (q : Int32) : Nat := (q - 1).toNatClampNeg
theorem okN_ix {s : XT} {q : Int32} {n : Nat} (h : okN s q) (e : x_cnt s = nI n) (hn : n ≤ 40) : ixN q < n ∧ q = nI (ixN q + 1) ∧ q - 1 = nI (ixN q) := by
  obtain ⟨h1, h2⟩ := h
  rw [e] at h2
  rw [Int32.le_iff_toInt_le, show (1 : Int32).toInt = 1 from by decide] at h1
  rw [Int32.le_iff_toInt_le, nI_toInt (by omega)] at h2
  obtain ⟨j, hj, ej⟩ := nI_of (x := q) (fun h => by rw [Int32.lt_iff_toInt_lt, show (0 : Int32).toInt = 0 from by decide] at h; omega)
  rw [ej, nI_toInt hj] at h1 h2
  obtain ⟨i, rfl⟩ : ∃ i, j = i + 1 := ⟨j - 1, by omega⟩
  have e1 : q - 1 = nI i := by rw [ej, nI_pred]
  have e2 : ixN q = i := by unfold ixN; rw [e1, nI_clamp (by omega)]
  rw [e2]
  exact ⟨by omega, ej, e1⟩
end
section
theorem in_debtors {d : DT} (hw : wfD d) (h : ¬ 4 ≤ d_debtors d) : vp_in (d_debtors d) 4 := by
  obtain ⟨m, hm, em⟩ := hw.1
  rw [em] at h ⊢
  rcases Nat.lt_or_ge m 4 with q | q
  · exact vp_in_nI q (by decide)
  · exact absurd (show nI 4 ≤ nI m from nI_le q (by omega)) h
theorem in_count {r : RT} (hw : wfR r) (h : r_count r < 20) : vp_in (r_count r) 20 := by
  obtain ⟨m, hm, em⟩ := hw
  rw [em] at h ⊢
  rcases Nat.lt_or_ge m 20 with q | q
  · exact vp_in_nI q (by decide)
  · exact absurd h (show ¬ nI m < nI 20 from nI_nlt q (by omega))
theorem in_last {r : RT} (hw : wfR r) (h : 1 ≤ r_count r) : vp_in (r_count r - 1) 20 := by
  obtain ⟨m, hm, em⟩ := hw
  rw [em] at h ⊢
  rcases Nat.eq_zero_or_pos m with q | q
  · subst q; exact absurd h (by decide)
  · obtain ⟨j, rfl⟩ : ∃ j, m = j + 1 := ⟨m - 1, by omega⟩
    rw [nI_pred]; exact vp_in_nI (by omega) (by decide)
theorem in_next {x : Int32} {mm i : Nat} (e : x = nI mm) (hm : mm ≤ 20) (hi : i < mm) (h : ¬ x ≤ (nI i + 1)) : vp_in (nI i + 1) 20 := by
  rw [e] at h
  rw [nI_1] at h ⊢
  rcases Nat.lt_or_ge (i + 1) mm with q | q
  · exact vp_in_nI (by omega) (by decide)
  · exact absurd (nI_le q (by omega)) h
theorem n365 {x : Int32} (h : ¬ x ≤ 0) : ¬ (x.toInt64 * 365) = 0 := by
  have h0 : ¬ x < 0 := fun q => h (by rw [Int32.le_iff_toInt_le]; rw [Int32.lt_iff_toInt_lt] at q; omega)
  obtain ⟨j, hj, rfl⟩ := nI_of h0
  have hj0 : 0 < j := by
    rcases Nat.eq_zero_or_pos j with q | q
    · subst q; exact absurd (by decide) h
    · exact q
  rw [nI_l hj, show (365 : Int64) = lN 365 from rfl, lN_mul, show (0 : Int64) = lN 0 from rfl, pk_lEQ (by omega) (by omega)]
  omega
def f_hasPlace (d : DT) (pl : Int32) : Int32 :=
  if pl < 0 then 0
  else if d_debtors d ≤ pl then 0
    else 1
set_option maxHeartbeats 4000000 in
set_option maxRecDepth 100000 in
theorem c_hasPlace (l : Launch) (D : va_G) (A : Nat → Prop) (w : va_W) (cI cL cD : ClassId) (k h0 hp hq : Nat) (d : DT) (pl : Int32) (hU0 : dAt w k cI cL h0 hp hq d) : Met l y_D_hasPlace w_D_hasPlace ({ frames := 0, cells := 0, slots := 0, locals := 0 }) (mPc D w (tyL cI cL cD) A [.ref h0, .int (pl)]) (vp_Si (fun z9 => z9 = f_hasPlace d pl)) 0 0 (fun _ => False) := by
  refine Met.ofW (cc := b_D_hasPlace) (maxL := 2) (ret := (some .boolean)) (by decide) rfl ?_
  intro p e s m args below meth c s₁ B hml hv
  obtain ⟨rfl, hP, hK, hD⟩ := hv
  have hx := B.exec
  have hb := B.bytes
  have hr := B.returns
  have hts := atoms_spec (ws := w_D_hasPlace) B.pre
  have hown : s.vm.findClass R_D = some m.cls := findClass_of_methodNamed B.named
  have hlocks := B.notSynchronized
  have hS : va_S A s.heap s.heap [] := va_S.rf
  have hU : dUpd w w k cI cL h0 hp hq d := dUpd.rf hU0
  have hl := lv_entry ([.ref h0, .int (pl)]) (n := 2) (Nat.le_of_ble_eq_true rfl)
  rw [lg_entry_eq]
  generalize (lg_sl ([.ref h0, .int (pl)]) ++ List.replicate (2 - (lg_sl ([.ref h0, .int (pl)])).length) Slot.unset).toArray = ls at hl ⊢
  have hl : lv_has ls 2 [(0, .ref h0), (1, .int (pl))] := hl
  refine lv_iload_n hx hb d_D_hasPlace_0 rfl (lv_at hl 1 rfl) ?_
  refine lv_if_lt (tgt := 16) hx hb d_D_hasPlace_1 (by decide) (fun c_1 => ?_) (fun c_1 => ?_)
  · refine lv_iconst (v := 0) hx hb d_D_hasPlace_16 (by decide) ?_
    exact W.zret (v := 0) hx hb hr rfl (fun t ht hW => ⟨_, rfl, by rw [f_hasPlace, if_pos c_1], ht⟩) t_nil d_D_hasPlace_17
  · refine lv_iload_n hx hb d_D_hasPlace_4 rfl (lv_at hl 1 rfl) ?_
    refine lv_aload_n hx hb d_D_hasPlace_5 rfl (lv_at hl 0 rfl) ?_
    refine va_get (D := D) (ci := 0) (v := .int (d_debtors d)) (C := R_D) (T := F_D) (N := 15) hx hb hts (in_D _) hown hK hP k hU.o rfl 4 (by decide) (hts (.fieldLink R_D 36 "DebtRows$Debt" "debtors" "I") (List.mem_cons_of_mem _ mB_214)) (fun _ h9 => h9) rfl d_D_hasPlace_6 ?_
    refine lv_icmp_ge (tgt := 16) hx hb d_D_hasPlace_9 (by decide) (fun c_2 => ?_) (fun c_2 => ?_)
    · refine lv_iconst (v := 0) hx hb d_D_hasPlace_16 (by decide) ?_
      exact W.zret (v := 0) hx hb hr rfl (fun t ht hW => ⟨_, rfl, by rw [f_hasPlace, if_neg c_1, if_pos c_2], ht⟩) t_nil d_D_hasPlace_17
    · refine lv_iconst (v := 1) hx hb d_D_hasPlace_12 (by decide) ?_
      refine lv_goto (tgt := 17) hx hb d_D_hasPlace_13 (by decide) ?_
      exact W.zret (v := 1) hx hb hr rfl (fun t ht hW => ⟨_, rfl, by rw [f_hasPlace, if_neg c_1, if_neg c_2], ht⟩) t_nil d_D_hasPlace_17
def f_isPayable (d : DT) : Int32 :=
  if d_state d = 1 then 1
  else if d_state d = 2 then 1
    else 0
set_option maxHeartbeats 4000000 in
set_option maxRecDepth 100000 in
theorem c_isPayable (l : Launch) (D : va_G) (A : Nat → Prop) (w : va_W) (cI cL cD : ClassId) (k h0 hp hq : Nat) (d : DT)  (hU0 : dAt w k cI cL h0 hp hq d) : Met l y_D_isPayable w_D_isPayable ({ frames := 0, cells := 0, slots := 0, locals := 0 }) (mPc D w (tyL cI cL cD) A [.ref h0]) (vp_Si (fun z9 => z9 = f_isPayable d)) 0 0 (fun _ => False) := by
  refine Met.ofW (cc := b_D_isPayable) (maxL := 1) (ret := (some .boolean)) (by decide) rfl ?_
  intro p e s m args below meth c s₁ B hml hv
  obtain ⟨rfl, hP, hK, hD⟩ := hv
  have hx := B.exec
  have hb := B.bytes
  have hr := B.returns
  have hts := atoms_spec (ws := w_D_isPayable) B.pre
  have hown : s.vm.findClass R_D = some m.cls := findClass_of_methodNamed B.named
  have hlocks := B.notSynchronized
  have hS : va_S A s.heap s.heap [] := va_S.rf
  have hU : dUpd w w k cI cL h0 hp hq d := dUpd.rf hU0
  have hl := lv_entry ([.ref h0]) (n := 1) (Nat.le_of_ble_eq_true rfl)
  rw [lg_entry_eq]
  generalize (lg_sl ([.ref h0]) ++ List.replicate (1 - (lg_sl ([.ref h0])).length) Slot.unset).toArray = ls at hl ⊢
  have hl : lv_has ls 1 [(0, .ref h0)] := hl
  refine lv_aload_n hx hb d_D_isPayable_0 rfl (lv_at hl 0 rfl) ?_
  refine va_get (D := D) (ci := 0) (v := .int (d_state d)) (C := R_D) (T := F_D) (N := 15) hx hb hts (in_D _) hown hK hP k hU.o rfl 5 (by decide) (hts (.fieldLink R_D 27 "DebtRows$Debt" "state" "I") (List.mem_cons_of_mem _ mB_216)) (fun _ h9 => h9) rfl d_D_isPayable_1 ?_
  refine lv_iconst (v := 1) hx hb d_D_isPayable_4 (by decide) ?_
  refine lv_icmp_eq (tgt := 16) hx hb d_D_isPayable_5 (by decide) (fun c_3 => ?_) (fun c_3 => ?_)
  · refine lv_iconst (v := 1) hx hb d_D_isPayable_16 (by decide) ?_
    refine lv_goto (tgt := 21) hx hb d_D_isPayable_17 (by decide) ?_
    exact W.zret (v := 1) hx hb hr rfl (fun t ht hW => ⟨_, rfl, by rw [f_isPayable, if_pos c_3], ht⟩) t_nil d_D_isPayable_21
  · refine lv_aload_n hx hb d_D_isPayable_8 rfl (lv_at hl 0 rfl) ?_
    refine va_get (D := D) (ci := 0) (v := .int (d_state d)) (C := R_D) (T := F_D) (N := 15) hx hb hts (in_D _) hown hK hP k hU.o rfl 5 (by decide) (hts (.fieldLink R_D 27 "DebtRows$Debt" "state" "I") (List.mem_cons_of_mem _ mB_216)) (fun _ h9 => h9) rfl d_D_isPayable_9 ?_
    refine lv_iconst (v := 2) hx hb d_D_isPayable_12 (by decide) ?_
    refine lv_icmp_ne (tgt := 20) hx hb d_D_isPayable_13 (by decide) (fun c_4 => ?_) (fun c_4 => ?_)
    · refine lv_iconst (v := 0) hx hb d_D_isPayable_20 (by decide) ?_
      exact W.zret (v := 0) hx hb hr rfl (fun t ht hW => ⟨_, rfl, by rw [f_isPayable, if_neg c_3, if_neg c_4], ht⟩) t_nil d_D_isPayable_21
    · refine lv_iconst (v := 1) hx hb d_D_isPayable_16 (by decide) ?_
      refine lv_goto (tgt := 21) hx hb d_D_isPayable_17 (by decide) ?_
      exact W.zret (v := 1) hx hb hr rfl (fun t ht hW => ⟨_, rfl, by rw [f_isPayable, if_neg c_3, if_pos c_4], ht⟩) t_nil d_D_isPayable_21
def f_isTooLate (d : DT) (day : Int32) : Int32 :=
  if (day - d_birth d) ≤ 1095 then 0
  else 1
set_option maxHeartbeats 4000000 in
set_option maxRecDepth 100000 in
theorem c_isTooLate (l : Launch) (D : va_G) (A : Nat → Prop) (w : va_W) (cI cL cD : ClassId) (k h0 hp hq : Nat) (d : DT) (day : Int32) (hU0 : dAt w k cI cL h0 hp hq d) : Met l y_D_isTooLate w_D_isTooLate ({ frames := 0, cells := 0, slots := 0, locals := 0 }) (mPc D w (tyL cI cL cD) A [.ref h0, .int (day)]) (vp_Si (fun z9 => z9 = f_isTooLate d day)) 0 0 (fun _ => False) := by
  refine Met.ofW (cc := b_D_isTooLate) (maxL := 2) (ret := (some .boolean)) (by decide) rfl ?_
  intro p e s m args below meth c s₁ B hml hv
  obtain ⟨rfl, hP, hK, hD⟩ := hv
  have hx := B.exec
  have hb := B.bytes
  have hr := B.returns
  have hts := atoms_spec (ws := w_D_isTooLate) B.pre
  have hown : s.vm.findClass R_D = some m.cls := findClass_of_methodNamed B.named
  have hlocks := B.notSynchronized
  have hS : va_S A s.heap s.heap [] := va_S.rf
  have hU : dUpd w w k cI cL h0 hp hq d := dUpd.rf hU0
  have hl := lv_entry ([.ref h0, .int (day)]) (n := 2) (Nat.le_of_ble_eq_true rfl)
  rw [lg_entry_eq]
  generalize (lg_sl ([.ref h0, .int (day)]) ++ List.replicate (2 - (lg_sl ([.ref h0, .int (day)])).length) Slot.unset).toArray = ls at hl ⊢
  have hl : lv_has ls 2 [(0, .ref h0), (1, .int (day))] := hl
  refine lv_iload_n hx hb d_D_isTooLate_0 rfl (lv_at hl 1 rfl) ?_
  refine lv_aload_n hx hb d_D_isTooLate_1 rfl (lv_at hl 0 rfl) ?_
  refine va_get (D := D) (ci := 0) (v := .int (d_birth d)) (C := R_D) (T := F_D) (N := 15) hx hb hts (in_D _) hown hK hP k hU.o rfl 1 (by decide) (hts (.fieldLink R_D 15 "DebtRows$Debt" "birth" "I") (List.mem_cons_of_mem _ mB_210)) (fun _ h9 => h9) rfl d_D_isTooLate_2 ?_
  refine lv_isub hx hb d_D_isTooLate_5 ?_
  refine lv_sipush (v := 1095) hx hb d_D_isTooLate_6 (by decide) ?_
  refine lv_icmp_le (tgt := 16) hx hb d_D_isTooLate_9 (by decide) (fun c_5 => ?_) (fun c_5 => ?_)
  · refine lv_iconst (v := 0) hx hb d_D_isTooLate_16 (by decide) ?_
    exact W.zret (v := 0) hx hb hr rfl (fun t ht hW => ⟨_, rfl, by rw [f_isTooLate, if_pos c_5], ht⟩) t_nil d_D_isTooLate_17
  · refine lv_iconst (v := 1) hx hb d_D_isTooLate_12 (by decide) ?_
    refine lv_goto (tgt := 17) hx hb d_D_isTooLate_13 (by decide) ?_
    exact W.zret (v := 1) hx hb hr rfl (fun t ht hW => ⟨_, rfl, by rw [f_isTooLate, if_neg c_5], ht⟩) t_nil d_D_isTooLate_17
def f_lose (d : DT) (es : Int32) : DT :=
  (s_open (s_lost (s_state d (es)) (d_open d)) (0))
set_option maxHeartbeats 4000000 in
set_option maxRecDepth 100000 in
theorem c_lose (l : Launch) (D : va_G) (A : Nat → Prop) (w : va_W) (cI cL cD : ClassId) (k h0 hp hq : Nat) (d : DT) (es : Int32) (hU0 : dAt w k cI cL h0 hp hq d) : Met l y_D_lose w_D_lose ({ frames := 0, cells := 0, slots := 0, locals := 0 }) (mPc D w (tyL cI cL cD) A [.ref h0, .int (es)]) (va_Qv (fun _ : Unit => True) (fun (_ : Unit) t => ∃ w9 : va_W, va_P D vwCl w9 t.heap ∧ va_D A w9 ∧ dUpd w w9 k cI cL h0 hp hq (f_lose d es)) A) 0 0 A := by
  refine Met.ofW (cc := b_D_lose) (maxL := 2) (ret := none) (by decide) rfl ?_
  intro p e s m args below meth c s₁ B hml hv
  obtain ⟨rfl, hP, hK, hD⟩ := hv
  have hx := B.exec
  have hb := B.bytes
  have hr := B.returns
  have hts := atoms_spec (ws := w_D_lose) B.pre
  have hown : s.vm.findClass R_D = some m.cls := findClass_of_methodNamed B.named
  have hlocks := B.notSynchronized
  have hS : va_S A s.heap s.heap [] := va_S.rf
  have hU : dUpd w w k cI cL h0 hp hq d := dUpd.rf hU0
  have hl := lv_entry ([.ref h0, .int (es)]) (n := 2) (Nat.le_of_ble_eq_true rfl)
  rw [lg_entry_eq]
  generalize (lg_sl ([.ref h0, .int (es)]) ++ List.replicate (2 - (lg_sl ([.ref h0, .int (es)])).length) Slot.unset).toArray = ls at hl ⊢
  have hl : lv_has ls 2 [(0, .ref h0), (1, .int (es))] := hl
  refine lv_aload_n hx hb d_D_lose_0 rfl (lv_at hl 0 rfl) ?_
  refine lv_iload_n hx hb d_D_lose_1 rfl (lv_at hl 1 rfl) ?_
  refine va_put (D := D) (ci := 0) (v := .int (es)) (ty := .int) (C := R_D) (T := F_D) (N := 15) hx hb hts (in_D _) t_D to_D nn_D hown hK hP hD hS k hU.o rfl 5 (by decide) (hts (.fieldLink R_D 27 "DebtRows$Debt" "state" "I") (List.mem_cons_of_mem _ mB_216)) (fun _ h9 => h9) rfl (by decide +kernel) rfl rfl (Nat.le_of_ble_eq_true rfl) d_D_lose_2 (fun H locs hP hD hS => ?_)
  have hU := hU.so (s_state d (es)) rfl rfl
  have hP : va_P D vwCl (w.set k (h0, dE hp hq (s_state d (es)))) H := hP
  have hD : va_D A (w.set k (h0, dE hp hq (s_state d (es)))) := hD
  generalize w.set k (h0, dE hp hq (s_state d (es))) = w_6 at hP hD hU
  refine lv_aload_n hx hb d_D_lose_5 rfl (lv_at hl 0 rfl) ?_
  refine lv_aload_n hx hb d_D_lose_6 rfl (lv_at hl 0 rfl) ?_
  refine va_get (D := D) (ci := 0) (v := .long (d_open d)) (C := R_D) (T := F_D) (N := 15) hx hb hts (in_D _) hown hK hP k hU.o rfl 8 (by decide) (hts (.fieldLink R_D 33 "DebtRows$Debt" "open" "J") (List.mem_cons_of_mem _ mB_221)) (fun _ h9 => h9) rfl d_D_lose_7 ?_
  refine va_put (D := D) (ci := 0) (v := .long (d_open d)) (ty := .long) (C := R_D) (T := F_D) (N := 15) hx hb hts (in_D _) t_D to_D nn_D hown hK hP hD hS k hU.o rfl 9 (by decide) (hts (.fieldLink R_D 85 "DebtRows$Debt" "lost" "J") (List.mem_cons_of_mem _ mB_224)) (fun _ h9 => h9) rfl (by decide +kernel) rfl rfl (Nat.le_of_ble_eq_true rfl) d_D_lose_10 (fun H locs hP hD hS => ?_)
  have hU := hU.so (s_lost (s_state d (es)) (d_open d)) rfl rfl
  have hP : va_P D vwCl (w_6.set k (h0, dE hp hq (s_lost (s_state d (es)) (d_open d)))) H := hP
  have hD : va_D A (w_6.set k (h0, dE hp hq (s_lost (s_state d (es)) (d_open d)))) := hD
  generalize w_6.set k (h0, dE hp hq (s_lost (s_state d (es)) (d_open d))) = w_7 at hP hD hU
  refine lv_aload_n hx hb d_D_lose_13 rfl (lv_at hl 0 rfl) ?_
  refine lv_lconst (v := 0) hx hb d_D_lose_14 (by decide) ?_
  refine va_put (D := D) (ci := 0) (v := .long (0)) (ty := .long) (C := R_D) (T := F_D) (N := 15) hx hb hts (in_D _) t_D to_D nn_D hown hK hP hD hS k hU.o rfl 8 (by decide) (hts (.fieldLink R_D 33 "DebtRows$Debt" "open" "J") (List.mem_cons_of_mem _ mB_221)) (fun _ h9 => h9) rfl (by decide +kernel) rfl rfl (Nat.le_of_ble_eq_true rfl) d_D_lose_15 (fun H locs hP hD hS => ?_)
  have hU := hU.so (s_open (s_lost (s_state d (es)) (d_open d)) (0)) rfl rfl
  have hP : va_P D vwCl (w_7.set k (h0, dE hp hq (s_open (s_lost (s_state d (es)) (d_open d)) (0)))) H := hP
  have hD : va_D A (w_7.set k (h0, dE hp hq (s_open (s_lost (s_state d (es)) (d_open d)) (0)))) := hD
  generalize w_7.set k (h0, dE hp hq (s_open (s_lost (s_state d (es)) (d_open d)) (0))) = w_8 at hP hD hU
  exact W.vret hx hb hr (fun t ht hW => ⟨⟨(), rfl, trivial, w_8, by rw [ht]; exact hP, hD, by rw [f_lose]; exact hU⟩, hS.F ht⟩) hS.2.2 d_D_lose_18
def f_defer (d : DT) (day : Int32) (parts : Int32) : DT :=
  (s_dOpen (s_dParts (s_dDay (s_state d (2)) (day)) (parts)) (d_open d))
set_option maxHeartbeats 4000000 in
set_option maxRecDepth 100000 in
theorem c_defer (l : Launch) (D : va_G) (A : Nat → Prop) (w : va_W) (cI cL cD : ClassId) (k h0 hp hq : Nat) (d : DT) (day : Int32) (parts : Int32) (hU0 : dAt w k cI cL h0 hp hq d) : Met l y_D_defer w_D_defer ({ frames := 0, cells := 0, slots := 0, locals := 0 }) (mPc D w (tyL cI cL cD) A [.ref h0, .int (day), .int (parts)]) (va_Qv (fun _ : Unit => True) (fun (_ : Unit) t => ∃ w9 : va_W, va_P D vwCl w9 t.heap ∧ va_D A w9 ∧ dUpd w w9 k cI cL h0 hp hq (f_defer d day parts)) A) 0 0 A := by
  refine Met.ofW (cc := b_D_defer) (maxL := 3) (ret := none) (by decide) rfl ?_
  intro p e s m args below meth c s₁ B hml hv
  obtain ⟨rfl, hP, hK, hD⟩ := hv
  have hx := B.exec
  have hb := B.bytes
  have hr := B.returns
  have hts := atoms_spec (ws := w_D_defer) B.pre
  have hown : s.vm.findClass R_D = some m.cls := findClass_of_methodNamed B.named
  have hlocks := B.notSynchronized
  have hS : va_S A s.heap s.heap [] := va_S.rf
  have hU : dUpd w w k cI cL h0 hp hq d := dUpd.rf hU0
  have hl := lv_entry ([.ref h0, .int (day), .int (parts)]) (n := 3) (Nat.le_of_ble_eq_true rfl)
  rw [lg_entry_eq]
  generalize (lg_sl ([.ref h0, .int (day), .int (parts)]) ++ List.replicate (3 - (lg_sl ([.ref h0, .int (day), .int (parts)])).length) Slot.unset).toArray = ls at hl ⊢
  have hl : lv_has ls 3 [(0, .ref h0), (1, .int (day)), (2, .int (parts))] := hl
  refine lv_aload_n hx hb d_D_defer_0 rfl (lv_at hl 0 rfl) ?_
  refine lv_iconst (v := 2) hx hb d_D_defer_1 (by decide) ?_
  refine va_put (D := D) (ci := 0) (v := .int (2)) (ty := .int) (C := R_D) (T := F_D) (N := 15) hx hb hts (in_D _) t_D to_D nn_D hown hK hP hD hS k hU.o rfl 5 (by decide) (hts (.fieldLink R_D 27 "DebtRows$Debt" "state" "I") (List.mem_cons_of_mem _ mB_216)) (fun _ h9 => h9) rfl (by decide +kernel) rfl rfl (Nat.le_of_ble_eq_true rfl) d_D_defer_2 (fun H locs hP hD hS => ?_)
  have hU := hU.so (s_state d (2)) rfl rfl
  have hP : va_P D vwCl (w.set k (h0, dE hp hq (s_state d (2)))) H := hP
  have hD : va_D A (w.set k (h0, dE hp hq (s_state d (2)))) := hD
  generalize w.set k (h0, dE hp hq (s_state d (2))) = w_9 at hP hD hU
  refine lv_aload_n hx hb d_D_defer_5 rfl (lv_at hl 0 rfl) ?_
  refine lv_iload_n hx hb d_D_defer_6 rfl (lv_at hl 1 rfl) ?_
  refine va_put (D := D) (ci := 0) (v := .int (day)) (ty := .int) (C := R_D) (T := F_D) (N := 15) hx hb hts (in_D _) t_D to_D nn_D hown hK hP hD hS k hU.o rfl 12 (by decide) (hts (.fieldLink R_D 88 "DebtRows$Debt" "deferralDay" "I") (List.mem_cons_of_mem _ mB_229)) (fun _ h9 => h9) rfl (by decide +kernel) rfl rfl (Nat.le_of_ble_eq_true rfl) d_D_defer_7 (fun H locs hP hD hS => ?_)
  have hU := hU.so (s_dDay (s_state d (2)) (day)) rfl rfl
  have hP : va_P D vwCl (w_9.set k (h0, dE hp hq (s_dDay (s_state d (2)) (day)))) H := hP
  have hD : va_D A (w_9.set k (h0, dE hp hq (s_dDay (s_state d (2)) (day)))) := hD
  generalize w_9.set k (h0, dE hp hq (s_dDay (s_state d (2)) (day))) = w_10 at hP hD hU
  refine lv_aload_n hx hb d_D_defer_10 rfl (lv_at hl 0 rfl) ?_
  refine lv_iload_n hx hb d_D_defer_11 rfl (lv_at hl 2 rfl) ?_
  refine va_put (D := D) (ci := 0) (v := .int (parts)) (ty := .int) (C := R_D) (T := F_D) (N := 15) hx hb hts (in_D _) t_D to_D nn_D hown hK hP hD hS k hU.o rfl 13 (by decide) (hts (.fieldLink R_D 91 "DebtRows$Debt" "deferralParts" "I") (List.mem_cons_of_mem _ mB_230)) (fun _ h9 => h9) rfl (by decide +kernel) rfl rfl (Nat.le_of_ble_eq_true rfl) d_D_defer_12 (fun H locs hP hD hS => ?_)
  have hU := hU.so (s_dParts (s_dDay (s_state d (2)) (day)) (parts)) rfl rfl
  have hP : va_P D vwCl (w_10.set k (h0, dE hp hq (s_dParts (s_dDay (s_state d (2)) (day)) (parts)))) H := hP
  have hD : va_D A (w_10.set k (h0, dE hp hq (s_dParts (s_dDay (s_state d (2)) (day)) (parts)))) := hD
  generalize w_10.set k (h0, dE hp hq (s_dParts (s_dDay (s_state d (2)) (day)) (parts))) = w_11 at hP hD hU
  refine lv_aload_n hx hb d_D_defer_15 rfl (lv_at hl 0 rfl) ?_
  refine lv_aload_n hx hb d_D_defer_16 rfl (lv_at hl 0 rfl) ?_
  refine va_get (D := D) (ci := 0) (v := .long (d_open d)) (C := R_D) (T := F_D) (N := 15) hx hb hts (in_D _) hown hK hP k hU.o rfl 8 (by decide) (hts (.fieldLink R_D 33 "DebtRows$Debt" "open" "J") (List.mem_cons_of_mem _ mB_221)) (fun _ h9 => h9) rfl d_D_defer_17 ?_
  refine va_put (D := D) (ci := 0) (v := .long (d_open d)) (ty := .long) (C := R_D) (T := F_D) (N := 15) hx hb hts (in_D _) t_D to_D nn_D hown hK hP hD hS k hU.o rfl 14 (by decide) (hts (.fieldLink R_D 94 "DebtRows$Debt" "deferralOpen" "J") (List.mem_cons_of_mem _ mB_231)) (fun _ h9 => h9) rfl (by decide +kernel) rfl rfl (Nat.le_of_ble_eq_true rfl) d_D_defer_20 (fun H locs hP hD hS => ?_)
  have hU := hU.so (s_dOpen (s_dParts (s_dDay (s_state d (2)) (day)) (parts)) (d_open d)) rfl rfl
  have hP : va_P D vwCl (w_11.set k (h0, dE hp hq (s_dOpen (s_dParts (s_dDay (s_state d (2)) (day)) (parts)) (d_open d)))) H := hP
  have hD : va_D A (w_11.set k (h0, dE hp hq (s_dOpen (s_dParts (s_dDay (s_state d (2)) (day)) (parts)) (d_open d)))) := hD
  generalize w_11.set k (h0, dE hp hq (s_dOpen (s_dParts (s_dDay (s_state d (2)) (day)) (parts)) (d_open d))) = w_12 at hP hD hU
  exact W.vret hx hb hr (fun t ht hW => ⟨⟨(), rfl, trivial, w_12, by rw [ht]; exact hP, hD, by rw [f_defer]; exact hU⟩, hS.F ht⟩) hS.2.2 d_D_defer_23
def f_runAgain (d : DT) (day : Int32) : DT :=
  (s_ib (s_state d (1)) ((iMax (d_due d) (day))))
set_option maxHeartbeats 4000000 in
set_option maxRecDepth 100000 in
theorem c_runAgain (l : Launch) (D : va_G) (A : Nat → Prop) (w : va_W) (cI cL cD : ClassId) (k h0 hp hq : Nat) (d : DT) (day : Int32) (hU0 : dAt w k cI cL h0 hp hq d) : Met l y_D_runAgain w_D_runAgain ({ frames := 1, cells := 0, slots := 0, locals := 24 }) (mPc D w (tyL cI cL cD) A [.ref h0, .int (day)]) (va_Qv (fun _ : Unit => True) (fun (_ : Unit) t => ∃ w9 : va_W, va_P D vwCl w9 t.heap ∧ va_D A w9 ∧ dUpd w w9 k cI cL h0 hp hq (f_runAgain d day)) A) 0 0 A := by
  refine Met.ofW (cc := b_D_runAgain) (maxL := 2) (ret := none) (by decide) rfl ?_
  intro p e s m args below meth c s₁ B hml hv
  obtain ⟨rfl, hP, hK, hD⟩ := hv
  have hx := B.exec
  have hb := B.bytes
  have hr := B.returns
  have hts := atoms_spec (ws := w_D_runAgain) B.pre
  have hown : s.vm.findClass R_D = some m.cls := findClass_of_methodNamed B.named
  have hlocks := B.notSynchronized
  have hS : va_S A s.heap s.heap [] := va_S.rf
  have hU : dUpd w w k cI cL h0 hp hq d := dUpd.rf hU0
  have hl := lv_entry ([.ref h0, .int (day)]) (n := 2) (Nat.le_of_ble_eq_true rfl)
  rw [lg_entry_eq]
  generalize (lg_sl ([.ref h0, .int (day)]) ++ List.replicate (2 - (lg_sl ([.ref h0, .int (day)])).length) Slot.unset).toArray = ls at hl ⊢
  have hl : lv_has ls 2 [(0, .ref h0), (1, .int (day))] := hl
  refine lv_aload_n hx hb d_D_runAgain_0 rfl (lv_at hl 0 rfl) ?_
  refine lv_iconst (v := 1) hx hb d_D_runAgain_1 (by decide) ?_
  refine va_put (D := D) (ci := 0) (v := .int (1)) (ty := .int) (C := R_D) (T := F_D) (N := 15) hx hb hts (in_D _) t_D to_D nn_D hown hK hP hD hS k hU.o rfl 5 (by decide) (hts (.fieldLink R_D 27 "DebtRows$Debt" "state" "I") (List.mem_cons_of_mem _ mB_216)) (fun _ h9 => h9) rfl (by decide +kernel) rfl rfl (Nat.le_of_ble_eq_true rfl) d_D_runAgain_2 (fun H locs hP hD hS => ?_)
  have hU := hU.so (s_state d (1)) rfl rfl
  have hP : va_P D vwCl (w.set k (h0, dE hp hq (s_state d (1)))) H := hP
  have hD : va_D A (w.set k (h0, dE hp hq (s_state d (1)))) := hD
  generalize w.set k (h0, dE hp hq (s_state d (1))) = w_13 at hP hD hU
  refine lv_aload_n hx hb d_D_runAgain_5 rfl (lv_at hl 0 rfl) ?_
  refine lv_aload_n hx hb d_D_runAgain_6 rfl (lv_at hl 0 rfl) ?_
  refine va_get (D := D) (ci := 0) (v := .int (d_due d)) (C := R_D) (T := F_D) (N := 15) hx hb hts (in_D _) hown hK hP k hU.o rfl 6 (by decide) (hts (.fieldLink R_D 30 "DebtRows$Debt" "dueDay" "I") (List.mem_cons_of_mem _ mB_218)) (fun _ h9 => h9) rfl d_D_runAgain_7 ?_
  refine lv_iload_n hx hb d_D_runAgain_10 rfl (lv_at hl 1 rfl) ?_
  refine va_mmax (own := R_D) (index := 47) hx hb (hml.trans hl.1.symm) hown (hts (.methodLink R_D 47 Lib.Math.max.name) (List.mem_cons_of_mem _ mB_265)) (hts (.static Lib.Math.max.name) (List.mem_cons_of_mem _ mB_266)) (hts (.initialized "java/lang/Math") (List.mem_cons_of_mem _ mB_25)) (hts _ (List.mem_cons_of_mem _ mC_max)) (Nat.le_of_ble_eq_true rfl) (Nat.le_of_ble_eq_true rfl) (Nat.le_of_ble_eq_true rfl) (Nat.le_of_ble_eq_true rfl) d_D_runAgain_11 ?_
  refine lv_topi (fun v_14 ev_14 => ?_)
  have ev_14 : v_14 = iMax (d_due d) (day) := ev_14
  subst ev_14
  refine va_put (D := D) (ci := 0) (v := .int ((iMax (d_due d) (day)))) (ty := .int) (C := R_D) (T := F_D) (N := 15) hx hb hts (in_D _) t_D to_D nn_D hown hK hP hD hS k hU.o rfl 7 (by decide) (hts (.fieldLink R_D 53 "DebtRows$Debt" "interestBehind" "I") (List.mem_cons_of_mem _ mB_220)) (fun _ h9 => h9) rfl (by decide +kernel) rfl rfl (Nat.le_of_ble_eq_true rfl) d_D_runAgain_14 (fun H locs hP hD hS => ?_)
  have hU := hU.so (s_ib (s_state d (1)) ((iMax (d_due d) (day)))) rfl rfl
  have hP : va_P D vwCl (w_13.set k (h0, dE hp hq (s_ib (s_state d (1)) ((iMax (d_due d) (day)))))) H := hP
  have hD : va_D A (w_13.set k (h0, dE hp hq (s_ib (s_state d (1)) ((iMax (d_due d) (day)))))) := hD
  generalize w_13.set k (h0, dE hp hq (s_ib (s_state d (1)) ((iMax (d_due d) (day))))) = w_15 at hP hD hU
  exact W.vret hx hb hr (fun t ht hW => ⟨⟨(), rfl, trivial, w_15, by rw [ht]; exact hP, hD, by rw [f_runAgain]; exact hU⟩, hS.F ht⟩) hS.2.2 d_D_runAgain_17
def plc (pe : Nat → Int32) (who : Int32) : Nat → Nat → Int32
  | _, 0 => -1
  | i, n + 1 => if pe i = who then nI i else plc pe who (i + 1) n
def f_placeOf (d : DT) (who : Int32) : Int32 := plc (d_people d) who 0 (d_debtors d).toNatClampNeg
set_option maxHeartbeats 4000000 in
set_option maxRecDepth 100000 in
theorem c_placeOf (l : Launch) (D : va_G) (A : Nat → Prop) (w : va_W) (cI cL cD : ClassId) (k h0 hp hq : Nat) (d : DT) (who : Int32) (hU0 : dAt w k cI cL h0 hp hq d) (hw : wfD d) : Met l y_D_placeOf w_D_placeOf ({ frames := 0, cells := 0, slots := 0, locals := 0 }) (mPc D w (tyL cI cL cD) A [.ref h0, .int (who)]) (vp_Si (fun z9 => z9 = f_placeOf d who)) 0 0 (fun _ => False) := by
  refine Met.ofW (cc := b_D_placeOf) (maxL := 3) (ret := (some .int)) (by decide) rfl ?_
  intro p e s m args below meth c s₁ B hml hv
  obtain ⟨rfl, hP, hK, hD⟩ := hv
  have hx := B.exec
  have hb := B.bytes
  have hr := B.returns
  have hts := atoms_spec (ws := w_D_placeOf) B.pre
  have hown : s.vm.findClass R_D = some m.cls := findClass_of_methodNamed B.named
  have hlocks := B.notSynchronized
  have hS : va_S A s.heap s.heap [] := va_S.rf
  have hU : dUpd w w k cI cL h0 hp hq d := dUpd.rf hU0
  have hl := lv_entry ([.ref h0, .int (who)]) (n := 3) (Nat.le_of_ble_eq_true rfl)
  rw [lg_entry_eq]
  generalize (lg_sl ([.ref h0, .int (who)]) ++ List.replicate (3 - (lg_sl ([.ref h0, .int (who)])).length) Slot.unset).toArray = ls at hl ⊢
  have hl : lv_has ls 3 [(0, .ref h0), (1, .int (who))] := hl
  refine lv_iconst (v := 0) hx hb d_D_placeOf_0 (by decide) ?_
  refine lv_istore_n (lv' := [(2, .int (0)), (0, .ref h0), (1, .int (who))]) hx hb d_D_placeOf_1 rfl hl (by decide) rfl (fun ls hl => ?_)
  obtain ⟨mm, hmm, em⟩ := hw.1
  have loop : ∀ (n i : Nat), i + n = mm → plc (d_people d) who i n = f_placeOf d who → ∀ (ls : Array Slot), lv_has ls 3 [(2, .int (nI i)), (0, .ref h0), (1, .int who)] → W p l e (headSpec w_D_placeOf ({ frames := 0, cells := 0, slots := 0, locals := 0 })).room s m [.ref h0, .int (who)].toArray below meth c s.heap [] 0 0 (MQ below (vp_Si (fun z9 => z9 = f_placeOf d who)) [.ref h0, .int (who)].toArray s 0 0 (fun _ => False)) (F0 m 2 ls []) := by
    intro n
    induction n with
    | zero =>
      intro i hin hv ls hl
      refine lv_iload_n hx hb d_D_placeOf_2 rfl (lv_at hl 0 rfl) ?_
      refine lv_aload_n hx hb d_D_placeOf_3 rfl (lv_at hl 1 rfl) ?_
      refine va_get (D := D) (ci := 0) (v := .int (d_debtors d)) (C := R_D) (T := F_D) (N := 15) hx hb hts (in_D _) hown hK hP k hU.o rfl 4 (by decide) (hts (.fieldLink R_D 36 "DebtRows$Debt" "debtors" "I") (List.mem_cons_of_mem _ mB_214)) (fun _ h9 => h9) rfl d_D_placeOf_4 ?_
      refine lv_icmp_ge (tgt := 28) hx hb d_D_placeOf_7 (by decide) (fun c_16 => ?_) (fun c_16 => ?_)
      · refine lv_iconst (v := -1) hx hb d_D_placeOf_28 (by decide) ?_
        exact W.iret (v := -1) hx hb hr (fun t ht hW => ⟨_, rfl, by rw [← hv]; rfl, ht⟩) t_nil d_D_placeOf_29
      · exact absurd (by rw [em]; exact nI_le (by omega) (by omega)) c_16
    | succ n ih =>
      intro i hin hv ls hl
      refine lv_iload_n hx hb d_D_placeOf_2 rfl (lv_at hl 0 rfl) ?_
      refine lv_aload_n hx hb d_D_placeOf_3 rfl (lv_at hl 1 rfl) ?_
      refine va_get (D := D) (ci := 0) (v := .int (d_debtors d)) (C := R_D) (T := F_D) (N := 15) hx hb hts (in_D _) hown hK hP k hU.o rfl 4 (by decide) (hts (.fieldLink R_D 36 "DebtRows$Debt" "debtors" "I") (List.mem_cons_of_mem _ mB_214)) (fun _ h9 => h9) rfl d_D_placeOf_4 ?_
      refine lv_icmp_ge (tgt := 28) hx hb d_D_placeOf_7 (by decide) (fun c_17 => ?_) (fun c_17 => ?_)
      · exact absurd c_17 (by rw [em]; exact nI_ge (by omega) (by omega))
      · refine lv_aload_n hx hb d_D_placeOf_10 rfl (lv_at hl 1 rfl) ?_
        refine va_get (D := D) (ci := 0) (v := .ref hp) (C := R_D) (T := F_D) (N := 15) hx hb hts (in_D _) hown hK hP k hU.o rfl 2 (by decide) (hts (.fieldLink R_D 19 "DebtRows$Debt" "people" "[I") (List.mem_cons_of_mem _ mB_212)) (fun _ h9 => h9) rfl d_D_placeOf_11 ?_
        refine lv_iload_n hx hb d_D_placeOf_14 rfl (lv_at hl 0 rfl) ?_
        refine va_iald hx hb hK hP (k + 1) 0 hU.p rfl (vp_in_nI (by omega) (by omega)) d_D_placeOf_15 ?_
        rw [nI_clamp (by omega)]
        refine lv_iload_n hx hb d_D_placeOf_16 rfl (lv_at hl 2 rfl) ?_
        refine lv_icmp_ne (tgt := 22) hx hb d_D_placeOf_17 (by decide) (fun c_18 => ?_) (fun c_18 => ?_)
        · refine lv_iinc (v := nI (i + 1)) (lv' := [(2, .int (nI (i + 1))), (0, .ref h0), (1, .int (who))]) hx hb d_D_placeOf_22 hl (k := 0) rfl (nI_inc i) (by decide) rfl (fun ls hl => ?_)
          refine lv_goto (tgt := 2) hx hb d_D_placeOf_25 (by decide) ?_
          exact ih (i + 1) (by omega) (by rw [← hv, plc, if_neg c_18]) ls (lv_sub hl [0, 1, 2] rfl)
        · refine lv_iload_n hx hb d_D_placeOf_20 rfl (lv_at hl 0 rfl) ?_
          exact W.iret (v := nI i) hx hb hr (fun t ht hW => ⟨_, rfl, by rw [← hv, plc, if_pos c_18], ht⟩) t_nil d_D_placeOf_21
  exact loop mm 0 (by omega) (by rw [f_placeOf, em, nI_clamp (by omega)]) ls hl
def f_join (d : DT) (who : Int32) : Int32 × DT :=
  if 4 ≤ d_debtors d then (0, d)
  else if (f_placeOf d (who)) = -1 then (1, (s_debtors (s_people d (upd (d_people d) (d_debtors d).toNatClampNeg (who))) ((d_debtors d + 1))))
    else (0, d)
set_option maxHeartbeats 4000000 in
set_option maxRecDepth 100000 in
theorem c_join (l : Launch) (D : va_G) (A : Nat → Prop) (w : va_W) (cI cL cD : ClassId) (k h0 hp hq : Nat) (d : DT) (who : Int32) (hU0 : dAt w k cI cL h0 hp hq d) (hw : wfD d) : Met l y_D_join w_D_join ({ frames := 1, cells := 0, slots := 0, locals := 22 }) (mPc D w (tyL cI cL cD) A [.ref h0, .int (who)]) (va_Qi (fun z9 (_ : Unit) => z9 = (f_join d who).1) (fun (_ : Unit) t => ∃ w9 : va_W, va_P D vwCl w9 t.heap ∧ va_D A w9 ∧ dUpd w w9 k cI cL h0 hp hq ((f_join d who).2)) A) 0 0 A := by
  refine Met.ofW (cc := b_D_join) (maxL := 2) (ret := (some .boolean)) (by decide) rfl ?_
  intro p e s m args below meth c s₁ B hml hv
  obtain ⟨rfl, hP, hK, hD⟩ := hv
  have hx := B.exec
  have hb := B.bytes
  have hr := B.returns
  have hts := atoms_spec (ws := w_D_join) B.pre
  have hown : s.vm.findClass R_D = some m.cls := findClass_of_methodNamed B.named
  have hlocks := B.notSynchronized
  have hS : va_S A s.heap s.heap [] := va_S.rf
  have hU : dUpd w w k cI cL h0 hp hq d := dUpd.rf hU0
  have hl := lv_entry ([.ref h0, .int (who)]) (n := 2) (Nat.le_of_ble_eq_true rfl)
  rw [lg_entry_eq]
  generalize (lg_sl ([.ref h0, .int (who)]) ++ List.replicate (2 - (lg_sl ([.ref h0, .int (who)])).length) Slot.unset).toArray = ls at hl ⊢
  have hl : lv_has ls 2 [(0, .ref h0), (1, .int (who))] := hl
  refine lv_aload_n hx hb d_D_join_0 rfl (lv_at hl 0 rfl) ?_
  refine va_get (D := D) (ci := 0) (v := .int (d_debtors d)) (C := R_D) (T := F_D) (N := 15) hx hb hts (in_D _) hown hK hP k hU.o rfl 4 (by decide) (hts (.fieldLink R_D 36 "DebtRows$Debt" "debtors" "I") (List.mem_cons_of_mem _ mB_214)) (fun _ h9 => h9) rfl d_D_join_1 ?_
  refine lv_iconst (v := 4) hx hb d_D_join_4 (by decide) ?_
  refine lv_icmp_ge (tgt := 17) hx hb d_D_join_5 (by decide) (fun c_19 => ?_) (fun c_19 => ?_)
  · refine lv_iconst (v := 0) hx hb d_D_join_17 (by decide) ?_
    exact W.zret (v := 0) hx hb hr rfl (fun t ht hW => ⟨⟨_, (), rfl, by rw [f_join, if_pos c_19], w, by rw [ht]; exact hP, hD, by rw [f_join, if_pos c_19]; exact hU⟩, hS.F ht⟩) hS.2.2 d_D_join_18
  · refine lv_aload_n hx hb d_D_join_8 rfl (lv_at hl 0 rfl) ?_
    refine lv_iload_n hx hb d_D_join_9 rfl (lv_at hl 1 rfl) ?_
    refine vp_callSi (W.runV (As := [.int (who)]) (rest := []) ⟨hx, hb, hml, hown, hts⟩ (c_placeOf l D A w cI cL cD k h0 hp hq d (who) hU.1 hw) (cwV 1 hts (gV _ mB_79 mB_80 mB_81 mB_24 mB_82) rfl rfl rfl (by decide +kernel) ⟨(Nat.le_of_ble_eq_true rfl), (Nat.le_of_ble_eq_true rfl)⟩) ⟨mPc_bl, va_recv hK hP (ci := 0) (q0 := k) rfl hU.o, mPc_pr hP hK hD⟩ rfl rfl hl.1 rfl (lv_room (Nat.le_of_ble_eq_true rfl)) d_D_join_10 ⟨Nat.zero_le _, Nat.zero_le _⟩) (fun v_20 ev_20 => ?_)
    subst ev_20
    refine lv_iconst (v := -1) hx hb d_D_join_13 (by decide) ?_
    refine lv_icmp_eq (tgt := 19) hx hb d_D_join_14 (by decide) (fun c_21 => ?_) (fun c_21 => ?_)
    · refine lv_aload_n hx hb d_D_join_19 rfl (lv_at hl 0 rfl) ?_
      refine va_get (D := D) (ci := 0) (v := .ref hp) (C := R_D) (T := F_D) (N := 15) hx hb hts (in_D _) hown hK hP k hU.o rfl 2 (by decide) (hts (.fieldLink R_D 19 "DebtRows$Debt" "people" "[I") (List.mem_cons_of_mem _ mB_212)) (fun _ h9 => h9) rfl d_D_join_20 ?_
      refine lv_aload_n hx hb d_D_join_23 rfl (lv_at hl 0 rfl) ?_
      refine va_get (D := D) (ci := 0) (v := .int (d_debtors d)) (C := R_D) (T := F_D) (N := 15) hx hb hts (in_D _) hown hK hP k hU.o rfl 4 (by decide) (hts (.fieldLink R_D 36 "DebtRows$Debt" "debtors" "I") (List.mem_cons_of_mem _ mB_214)) (fun _ h9 => h9) rfl d_D_join_24 ?_
      refine lv_iload_n hx hb d_D_join_27 rfl (lv_at hl 1 rfl) ?_
      refine va_iast hx hb hK hP hD hS (k + 1) 0 hU.p rfl (in_debtors hw c_19) d_D_join_28 (fun H locs hP hD hS => ?_)
      have hU := hU.sp (upd (d_people d) (d_debtors d).toNatClampNeg (who))
      have hP : va_P D vwCl (w.set (k + 1) (hp, aI cI 4 (upd (d_people d) (d_debtors d).toNatClampNeg (who)))) H := hP
      have hD : va_D A (w.set (k + 1) (hp, aI cI 4 (upd (d_people d) (d_debtors d).toNatClampNeg (who)))) := hD
      generalize w.set (k + 1) (hp, aI cI 4 (upd (d_people d) (d_debtors d).toNatClampNeg (who))) = w_22 at hP hD hU
      refine lv_aload_n hx hb d_D_join_29 rfl (lv_at hl 0 rfl) ?_
      refine lv_dup hx hb d_D_join_30 rfl ?_
      refine va_get (D := D) (ci := 0) (v := .int (d_debtors d)) (C := R_D) (T := F_D) (N := 15) hx hb hts (in_D _) hown hK hP k hU.o rfl 4 (by decide) (hts (.fieldLink R_D 36 "DebtRows$Debt" "debtors" "I") (List.mem_cons_of_mem _ mB_214)) (fun _ h9 => h9) rfl d_D_join_31 ?_
      refine lv_iconst (v := 1) hx hb d_D_join_34 (by decide) ?_
      refine lv_iadd hx hb d_D_join_35 ?_
      refine va_put (D := D) (ci := 0) (v := .int ((d_debtors d + 1))) (ty := .int) (C := R_D) (T := F_D) (N := 15) hx hb hts (in_D _) t_D to_D nn_D hown hK hP hD hS k hU.o rfl 4 (by decide) (hts (.fieldLink R_D 36 "DebtRows$Debt" "debtors" "I") (List.mem_cons_of_mem _ mB_214)) (fun _ h9 => h9) rfl (by decide +kernel) rfl rfl (Nat.le_of_ble_eq_true rfl) d_D_join_36 (fun H locs hP hD hS => ?_)
      have hU := hU.so (s_debtors (s_people d (upd (d_people d) (d_debtors d).toNatClampNeg (who))) ((d_debtors d + 1))) rfl rfl
      have hP : va_P D vwCl (w_22.set k (h0, dE hp hq (s_debtors (s_people d (upd (d_people d) (d_debtors d).toNatClampNeg (who))) ((d_debtors d + 1))))) H := hP
      have hD : va_D A (w_22.set k (h0, dE hp hq (s_debtors (s_people d (upd (d_people d) (d_debtors d).toNatClampNeg (who))) ((d_debtors d + 1))))) := hD
      generalize w_22.set k (h0, dE hp hq (s_debtors (s_people d (upd (d_people d) (d_debtors d).toNatClampNeg (who))) ((d_debtors d + 1)))) = w_23 at hP hD hU
      refine lv_iconst (v := 1) hx hb d_D_join_39 (by decide) ?_
      exact W.zret (v := 1) hx hb hr rfl (fun t ht hW => ⟨⟨_, (), rfl, by rw [f_join, if_neg c_19, if_pos c_21], w_23, by rw [ht]; exact hP, hD, by rw [f_join, if_neg c_19, if_pos c_21]; exact hU⟩, hS.F ht⟩) hS.2.2 d_D_join_40
    · refine lv_iconst (v := 0) hx hb d_D_join_17 (by decide) ?_
      exact W.zret (v := 0) hx hb hr rfl (fun t ht hW => ⟨⟨_, (), rfl, by rw [f_join, if_neg c_19, if_neg c_21], w, by rw [ht]; exact hP, hD, by rw [f_join, if_neg c_19, if_neg c_21]; exact hU⟩, hS.F ht⟩) hS.2.2 d_D_join_18
theorem in_has {d : DT} {pl : Int32} (hw : wfD d) (h : ¬ f_hasPlace d pl = 0) : vp_in pl 4 := by
  obtain ⟨m, hm, em⟩ := hw.1
  unfold f_hasPlace at h
  by_cases h1 : pl < 0
  · rw [if_pos h1] at h; exact absurd rfl h
  · rw [if_neg h1] at h
    by_cases h2 : d_debtors d ≤ pl
    · rw [if_pos h2] at h; exact absurd rfl h
    · exact vp_lt h1 h2 em hm (by decide)
def f_personAt (d : DT) (pl : Int32) : Int32 :=
  if (f_hasPlace d (pl)) = 0 then -1
  else ((d_people d) (pl).toNatClampNeg)
set_option maxHeartbeats 4000000 in
set_option maxRecDepth 100000 in
theorem c_personAt (l : Launch) (D : va_G) (A : Nat → Prop) (w : va_W) (cI cL cD : ClassId) (k h0 hp hq : Nat) (d : DT) (pl : Int32) (hU0 : dAt w k cI cL h0 hp hq d) (hw : wfD d) : Met l y_D_personAt w_D_personAt ({ frames := 1, cells := 0, slots := 0, locals := 21 }) (mPc D w (tyL cI cL cD) A [.ref h0, .int (pl)]) (vp_Si (fun z9 => z9 = f_personAt d pl)) 0 0 (fun _ => False) := by
  refine Met.ofW (cc := b_D_personAt) (maxL := 2) (ret := (some .int)) (by decide) rfl ?_
  intro p e s m args below meth c s₁ B hml hv
  obtain ⟨rfl, hP, hK, hD⟩ := hv
  have hx := B.exec
  have hb := B.bytes
  have hr := B.returns
  have hts := atoms_spec (ws := w_D_personAt) B.pre
  have hown : s.vm.findClass R_D = some m.cls := findClass_of_methodNamed B.named
  have hlocks := B.notSynchronized
  have hS : va_S A s.heap s.heap [] := va_S.rf
  have hU : dUpd w w k cI cL h0 hp hq d := dUpd.rf hU0
  have hl := lv_entry ([.ref h0, .int (pl)]) (n := 2) (Nat.le_of_ble_eq_true rfl)
  rw [lg_entry_eq]
  generalize (lg_sl ([.ref h0, .int (pl)]) ++ List.replicate (2 - (lg_sl ([.ref h0, .int (pl)])).length) Slot.unset).toArray = ls at hl ⊢
  have hl : lv_has ls 2 [(0, .ref h0), (1, .int (pl))] := hl
  refine lv_aload_n hx hb d_D_personAt_0 rfl (lv_at hl 0 rfl) ?_
  refine lv_iload_n hx hb d_D_personAt_1 rfl (lv_at hl 1 rfl) ?_
  refine vp_callSi (W.runV (As := [.int (pl)]) (rest := []) ⟨hx, hb, hml, hown, hts⟩ (c_hasPlace l D A w cI cL cD k h0 hp hq d (pl) hU.1) (cwV 1 hts (gV _ mB_300 mB_301 mB_302 mB_24 mB_303) rfl rfl rfl (by decide +kernel) ⟨(Nat.le_of_ble_eq_true rfl), (Nat.le_of_ble_eq_true rfl)⟩) ⟨mPc_bl, va_recv hK hP (ci := 0) (q0 := k) rfl hU.o, mPc_pr hP hK hD⟩ rfl rfl hl.1 rfl (lv_room (Nat.le_of_ble_eq_true rfl)) d_D_personAt_2 ⟨Nat.zero_le _, Nat.zero_le _⟩) (fun v_24 ev_24 => ?_)
  subst ev_24
  refine lv_if_eq (tgt := 17) hx hb d_D_personAt_5 (by decide) (fun c_25 => ?_) (fun c_25 => ?_)
  · refine lv_iconst (v := -1) hx hb d_D_personAt_17 (by decide) ?_
    exact W.iret (v := -1) hx hb hr (fun t ht hW => ⟨_, rfl, by rw [f_personAt, if_pos c_25], ht⟩) t_nil d_D_personAt_18
  · refine lv_aload_n hx hb d_D_personAt_8 rfl (lv_at hl 0 rfl) ?_
    refine va_get (D := D) (ci := 0) (v := .ref hp) (C := R_D) (T := F_D) (N := 15) hx hb hts (in_D _) hown hK hP k hU.o rfl 2 (by decide) (hts (.fieldLink R_D 19 "DebtRows$Debt" "people" "[I") (List.mem_cons_of_mem _ mB_212)) (fun _ h9 => h9) rfl d_D_personAt_9 ?_
    refine lv_iload_n hx hb d_D_personAt_12 rfl (lv_at hl 1 rfl) ?_
    refine va_iald hx hb hK hP (k + 1) 0 hU.p rfl (in_has hw c_25) d_D_personAt_13 ?_
    refine lv_goto (tgt := 18) hx hb d_D_personAt_14 (by decide) ?_
    exact W.iret (v := ((d_people d) (pl).toNatClampNeg)) hx hb hr (fun t ht hW => ⟨_, rfl, by rw [f_personAt, if_neg c_25], ht⟩) t_nil d_D_personAt_18
def f_paidBy (d : DT) (pl : Int32) : Int64 :=
  if (f_hasPlace d (pl)) = 0 then 0
  else ((d_paid d) (pl).toNatClampNeg)
set_option maxHeartbeats 4000000 in
set_option maxRecDepth 100000 in
theorem c_paidBy (l : Launch) (D : va_G) (A : Nat → Prop) (w : va_W) (cI cL cD : ClassId) (k h0 hp hq : Nat) (d : DT) (pl : Int32) (hU0 : dAt w k cI cL h0 hp hq d) (hw : wfD d) : Met l y_D_paidBy w_D_paidBy ({ frames := 1, cells := 0, slots := 0, locals := 21 }) (mPc D w (tyL cI cL cD) A [.ref h0, .int (pl)]) (vp_Sl (fun z9 => z9 = f_paidBy d pl)) 0 0 (fun _ => False) := by
  refine Met.ofW (cc := b_D_paidBy) (maxL := 2) (ret := (some .long)) (by decide) rfl ?_
  intro p e s m args below meth c s₁ B hml hv
  obtain ⟨rfl, hP, hK, hD⟩ := hv
  have hx := B.exec
  have hb := B.bytes
  have hr := B.returns
  have hts := atoms_spec (ws := w_D_paidBy) B.pre
  have hown : s.vm.findClass R_D = some m.cls := findClass_of_methodNamed B.named
  have hlocks := B.notSynchronized
  have hS : va_S A s.heap s.heap [] := va_S.rf
  have hU : dUpd w w k cI cL h0 hp hq d := dUpd.rf hU0
  have hl := lv_entry ([.ref h0, .int (pl)]) (n := 2) (Nat.le_of_ble_eq_true rfl)
  rw [lg_entry_eq]
  generalize (lg_sl ([.ref h0, .int (pl)]) ++ List.replicate (2 - (lg_sl ([.ref h0, .int (pl)])).length) Slot.unset).toArray = ls at hl ⊢
  have hl : lv_has ls 2 [(0, .ref h0), (1, .int (pl))] := hl
  refine lv_aload_n hx hb d_D_paidBy_0 rfl (lv_at hl 0 rfl) ?_
  refine lv_iload_n hx hb d_D_paidBy_1 rfl (lv_at hl 1 rfl) ?_
  refine vp_callSi (W.runV (As := [.int (pl)]) (rest := []) ⟨hx, hb, hml, hown, hts⟩ (c_hasPlace l D A w cI cL cD k h0 hp hq d (pl) hU.1) (cwV 1 hts (gV _ mB_300 mB_301 mB_302 mB_24 mB_303) rfl rfl rfl (by decide +kernel) ⟨(Nat.le_of_ble_eq_true rfl), (Nat.le_of_ble_eq_true rfl)⟩) ⟨mPc_bl, va_recv hK hP (ci := 0) (q0 := k) rfl hU.o, mPc_pr hP hK hD⟩ rfl rfl hl.1 rfl (lv_room (Nat.le_of_ble_eq_true rfl)) d_D_paidBy_2 ⟨Nat.zero_le _, Nat.zero_le _⟩) (fun v_26 ev_26 => ?_)
  subst ev_26
  refine lv_if_eq (tgt := 17) hx hb d_D_paidBy_5 (by decide) (fun c_27 => ?_) (fun c_27 => ?_)
  · refine lv_lconst (v := 0) hx hb d_D_paidBy_17 (by decide) ?_
    exact W.lret (v := 0) hx hb hr (fun t ht hW => ⟨_, rfl, by rw [f_paidBy, if_pos c_27], ht⟩) t_nil d_D_paidBy_18
  · refine lv_aload_n hx hb d_D_paidBy_8 rfl (lv_at hl 0 rfl) ?_
    refine va_get (D := D) (ci := 0) (v := .ref hq) (C := R_D) (T := F_D) (N := 15) hx hb hts (in_D _) hown hK hP k hU.o rfl 3 (by decide) (hts (.fieldLink R_D 23 "DebtRows$Debt" "paid" "[J") (List.mem_cons_of_mem _ mB_213)) (fun _ h9 => h9) rfl d_D_paidBy_9 ?_
    refine lv_iload_n hx hb d_D_paidBy_12 rfl (lv_at hl 1 rfl) ?_
    refine va_lald hx hb hK hP (k + 2) 1 hU.q rfl (in_has hw c_27) d_D_paidBy_13 ?_
    refine lv_goto (tgt := 18) hx hb d_D_paidBy_14 (by decide) ?_
    exact W.lret (v := ((d_paid d) (pl).toNatClampNeg)) hx hb hr (fun t ht hW => ⟨_, rfl, by rw [f_paidBy, if_neg c_27], ht⟩) t_nil d_D_paidBy_18
def f_shareOf (d : DT) (pl : Int32) : Int64 :=
  if 1 ≤ d_debtors d then (if (d_cents d - d_cents d / (d_debtors d : Int32).toInt64 * (d_debtors d : Int32).toInt64) ≤ (pl : Int32).toInt64 then ((d_cents d / (d_debtors d : Int32).toInt64) + (0 : Int32).toInt64)
    else ((d_cents d / (d_debtors d : Int32).toInt64) + (1 : Int32).toInt64))
  else 0
set_option maxHeartbeats 4000000 in
set_option maxRecDepth 100000 in
theorem c_shareOf (l : Launch) (D : va_G) (A : Nat → Prop) (w : va_W) (cI cL cD : ClassId) (k h0 hp hq : Nat) (d : DT) (pl : Int32) (hU0 : dAt w k cI cL h0 hp hq d) : Met l y_D_shareOf w_D_shareOf ({ frames := 0, cells := 0, slots := 0, locals := 0 }) (mPc D w (tyL cI cL cD) A [.ref h0, .int (pl)]) (vp_Sl (fun z9 => z9 = f_shareOf d pl)) 0 0 (fun _ => False) := by
  refine Met.ofW (cc := b_D_shareOf) (maxL := 2) (ret := (some .long)) (by decide) rfl ?_
  intro p e s m args below meth c s₁ B hml hv
  obtain ⟨rfl, hP, hK, hD⟩ := hv
  have hx := B.exec
  have hb := B.bytes
  have hr := B.returns
  have hts := atoms_spec (ws := w_D_shareOf) B.pre
  have hown : s.vm.findClass R_D = some m.cls := findClass_of_methodNamed B.named
  have hlocks := B.notSynchronized
  have hS : va_S A s.heap s.heap [] := va_S.rf
  have hU : dUpd w w k cI cL h0 hp hq d := dUpd.rf hU0
  have hl := lv_entry ([.ref h0, .int (pl)]) (n := 2) (Nat.le_of_ble_eq_true rfl)
  rw [lg_entry_eq]
  generalize (lg_sl ([.ref h0, .int (pl)]) ++ List.replicate (2 - (lg_sl ([.ref h0, .int (pl)])).length) Slot.unset).toArray = ls at hl ⊢
  have hl : lv_has ls 2 [(0, .ref h0), (1, .int (pl))] := hl
  refine lv_aload_n hx hb d_D_shareOf_0 rfl (lv_at hl 0 rfl) ?_
  refine va_get (D := D) (ci := 0) (v := .int (d_debtors d)) (C := R_D) (T := F_D) (N := 15) hx hb hts (in_D _) hown hK hP k hU.o rfl 4 (by decide) (hts (.fieldLink R_D 36 "DebtRows$Debt" "debtors" "I") (List.mem_cons_of_mem _ mB_214)) (fun _ h9 => h9) rfl d_D_shareOf_1 ?_
  refine lv_iconst (v := 1) hx hb d_D_shareOf_4 (by decide) ?_
  refine lv_icmp_ge (tgt := 10) hx hb d_D_shareOf_5 (by decide) (fun c_28 => ?_) (fun c_28 => ?_)
  · refine lv_aload_n hx hb d_D_shareOf_10 rfl (lv_at hl 0 rfl) ?_
    refine va_get (D := D) (ci := 0) (v := .long (d_cents d)) (C := R_D) (T := F_D) (N := 15) hx hb hts (in_D _) hown hK hP k hU.o rfl 0 (by decide) (hts (.fieldLink R_D 9 "DebtRows$Debt" "cents" "J") (List.mem_cons_of_mem _ mB_208)) (fun _ h9 => h9) rfl d_D_shareOf_11 ?_
    refine lv_aload_n hx hb d_D_shareOf_14 rfl (lv_at hl 0 rfl) ?_
    refine va_get (D := D) (ci := 0) (v := .int (d_debtors d)) (C := R_D) (T := F_D) (N := 15) hx hb hts (in_D _) hown hK hP k hU.o rfl 4 (by decide) (hts (.fieldLink R_D 36 "DebtRows$Debt" "debtors" "I") (List.mem_cons_of_mem _ mB_214)) (fun _ h9 => h9) rfl d_D_shareOf_15 ?_
    refine lv_i2l hx hb d_D_shareOf_18 rfl ?_
    refine lv_ldiv hx hb d_D_shareOf_19 (n64_0 c_28) ?_
    refine lv_iload_n hx hb d_D_shareOf_20 rfl (lv_at hl 1 rfl) ?_
    refine lv_i2l hx hb d_D_shareOf_21 rfl ?_
    refine lv_aload_n hx hb d_D_shareOf_22 rfl (lv_at hl 0 rfl) ?_
    refine va_get (D := D) (ci := 0) (v := .long (d_cents d)) (C := R_D) (T := F_D) (N := 15) hx hb hts (in_D _) hown hK hP k hU.o rfl 0 (by decide) (hts (.fieldLink R_D 9 "DebtRows$Debt" "cents" "J") (List.mem_cons_of_mem _ mB_208)) (fun _ h9 => h9) rfl d_D_shareOf_23 ?_
    refine lv_aload_n hx hb d_D_shareOf_26 rfl (lv_at hl 0 rfl) ?_
    refine va_get (D := D) (ci := 0) (v := .int (d_debtors d)) (C := R_D) (T := F_D) (N := 15) hx hb hts (in_D _) hown hK hP k hU.o rfl 4 (by decide) (hts (.fieldLink R_D 36 "DebtRows$Debt" "debtors" "I") (List.mem_cons_of_mem _ mB_214)) (fun _ h9 => h9) rfl d_D_shareOf_27 ?_
    refine lv_i2l hx hb d_D_shareOf_30 rfl ?_
    refine lv_lrem hx hb d_D_shareOf_31 (n64_0 c_28) ?_
    refine W.lcmp hx hb d_D_shareOf_32 ?_
    refine lv_if_ge (tgt := 40) hx hb d_D_shareOf_33 (by decide) (fun c_29 => ?_) (fun c_29 => ?_)
    · have c_29 : (d_cents d - d_cents d / (d_debtors d : Int32).toInt64 * (d_debtors d : Int32).toInt64) ≤ (pl : Int32).toInt64 := (lg_cmp_ge _ _).mp c_29
      refine lv_iconst (v := 0) hx hb d_D_shareOf_40 (by decide) ?_
      refine lv_i2l hx hb d_D_shareOf_41 rfl ?_
      refine lv_ladd hx hb d_D_shareOf_42 ?_
      exact W.lret (v := ((d_cents d / (d_debtors d : Int32).toInt64) + (0 : Int32).toInt64)) hx hb hr (fun t ht hW => ⟨_, rfl, by rw [f_shareOf, if_pos c_28, if_pos c_29], ht⟩) t_nil d_D_shareOf_43
    · have c_29 : ¬ (d_cents d - d_cents d / (d_debtors d : Int32).toInt64 * (d_debtors d : Int32).toInt64) ≤ (pl : Int32).toInt64 := fun h9 => c_29 ((lg_cmp_ge _ _).mpr h9)
      refine lv_iconst (v := 1) hx hb d_D_shareOf_36 (by decide) ?_
      refine lv_goto (tgt := 41) hx hb d_D_shareOf_37 (by decide) ?_
      refine lv_i2l hx hb d_D_shareOf_41 rfl ?_
      refine lv_ladd hx hb d_D_shareOf_42 ?_
      exact W.lret (v := ((d_cents d / (d_debtors d : Int32).toInt64) + (1 : Int32).toInt64)) hx hb hr (fun t ht hW => ⟨_, rfl, by rw [f_shareOf, if_pos c_28, if_neg c_29], ht⟩) t_nil d_D_shareOf_43
  · refine lv_lconst (v := 0) hx hb d_D_shareOf_8 (by decide) ?_
    exact W.lret (v := 0) hx hb hr (fun t ht hW => ⟨_, rfl, by rw [f_shareOf, if_neg c_28], ht⟩) t_nil d_D_shareOf_9
def f_mayBeOpen (d : DT) (kk : Int32) : Int64 :=
  if 1 ≤ d_dParts d then ((d_dOpen d * ((d_dParts d - kk) : Int32).toInt64) / (d_dParts d : Int32).toInt64)
  else 0
set_option maxHeartbeats 4000000 in
set_option maxRecDepth 100000 in
theorem c_mayBeOpen (l : Launch) (D : va_G) (A : Nat → Prop) (w : va_W) (cI cL cD : ClassId) (k h0 hp hq : Nat) (d : DT) (kk : Int32) (hU0 : dAt w k cI cL h0 hp hq d) : Met l y_D_mayBeOpen w_D_mayBeOpen ({ frames := 0, cells := 0, slots := 0, locals := 0 }) (mPc D w (tyL cI cL cD) A [.ref h0, .int (kk)]) (vp_Sl (fun z9 => z9 = f_mayBeOpen d kk)) 0 0 (fun _ => False) := by
  refine Met.ofW (cc := b_D_mayBeOpen) (maxL := 2) (ret := (some .long)) (by decide) rfl ?_
  intro p e s m args below meth c s₁ B hml hv
  obtain ⟨rfl, hP, hK, hD⟩ := hv
  have hx := B.exec
  have hb := B.bytes
  have hr := B.returns
  have hts := atoms_spec (ws := w_D_mayBeOpen) B.pre
  have hown : s.vm.findClass R_D = some m.cls := findClass_of_methodNamed B.named
  have hlocks := B.notSynchronized
  have hS : va_S A s.heap s.heap [] := va_S.rf
  have hU : dUpd w w k cI cL h0 hp hq d := dUpd.rf hU0
  have hl := lv_entry ([.ref h0, .int (kk)]) (n := 2) (Nat.le_of_ble_eq_true rfl)
  rw [lg_entry_eq]
  generalize (lg_sl ([.ref h0, .int (kk)]) ++ List.replicate (2 - (lg_sl ([.ref h0, .int (kk)])).length) Slot.unset).toArray = ls at hl ⊢
  have hl : lv_has ls 2 [(0, .ref h0), (1, .int (kk))] := hl
  refine lv_aload_n hx hb d_D_mayBeOpen_0 rfl (lv_at hl 0 rfl) ?_
  refine va_get (D := D) (ci := 0) (v := .int (d_dParts d)) (C := R_D) (T := F_D) (N := 15) hx hb hts (in_D _) hown hK hP k hU.o rfl 13 (by decide) (hts (.fieldLink R_D 91 "DebtRows$Debt" "deferralParts" "I") (List.mem_cons_of_mem _ mB_230)) (fun _ h9 => h9) rfl d_D_mayBeOpen_1 ?_
  refine lv_iconst (v := 1) hx hb d_D_mayBeOpen_4 (by decide) ?_
  refine lv_icmp_ge (tgt := 12) hx hb d_D_mayBeOpen_5 (by decide) (fun c_30 => ?_) (fun c_30 => ?_)
  · refine lv_aload_n hx hb d_D_mayBeOpen_12 rfl (lv_at hl 0 rfl) ?_
    refine va_get (D := D) (ci := 0) (v := .long (d_dOpen d)) (C := R_D) (T := F_D) (N := 15) hx hb hts (in_D _) hown hK hP k hU.o rfl 14 (by decide) (hts (.fieldLink R_D 94 "DebtRows$Debt" "deferralOpen" "J") (List.mem_cons_of_mem _ mB_231)) (fun _ h9 => h9) rfl d_D_mayBeOpen_13 ?_
    refine lv_aload_n hx hb d_D_mayBeOpen_16 rfl (lv_at hl 0 rfl) ?_
    refine va_get (D := D) (ci := 0) (v := .int (d_dParts d)) (C := R_D) (T := F_D) (N := 15) hx hb hts (in_D _) hown hK hP k hU.o rfl 13 (by decide) (hts (.fieldLink R_D 91 "DebtRows$Debt" "deferralParts" "I") (List.mem_cons_of_mem _ mB_230)) (fun _ h9 => h9) rfl d_D_mayBeOpen_17 ?_
    refine lv_iload_n hx hb d_D_mayBeOpen_20 rfl (lv_at hl 1 rfl) ?_
    refine lv_isub hx hb d_D_mayBeOpen_21 ?_
    refine lv_i2l hx hb d_D_mayBeOpen_22 rfl ?_
    refine lv_lmul hx hb d_D_mayBeOpen_23 ?_
    refine lv_aload_n hx hb d_D_mayBeOpen_24 rfl (lv_at hl 0 rfl) ?_
    refine va_get (D := D) (ci := 0) (v := .int (d_dParts d)) (C := R_D) (T := F_D) (N := 15) hx hb hts (in_D _) hown hK hP k hU.o rfl 13 (by decide) (hts (.fieldLink R_D 91 "DebtRows$Debt" "deferralParts" "I") (List.mem_cons_of_mem _ mB_230)) (fun _ h9 => h9) rfl d_D_mayBeOpen_25 ?_
    refine lv_i2l hx hb d_D_mayBeOpen_28 rfl ?_
    refine lv_ldiv hx hb d_D_mayBeOpen_29 (n64_0 c_30) ?_
    exact W.lret (v := ((d_dOpen d * ((d_dParts d - kk) : Int32).toInt64) / (d_dParts d : Int32).toInt64)) hx hb hr (fun t ht hW => ⟨_, rfl, by rw [f_mayBeOpen, if_pos c_30], ht⟩) t_nil d_D_mayBeOpen_30
  · refine lv_lconst (v := 0) hx hb d_D_mayBeOpen_8 (by decide) ?_
    refine lv_goto (tgt := 30) hx hb d_D_mayBeOpen_9 (by decide) ?_
    exact W.lret (v := 0) hx hb hr (fun t ht hW => ⟨_, rfl, by rw [f_mayBeOpen, if_neg c_30], ht⟩) t_nil d_D_mayBeOpen_30
def f_settle (d : DT) : DT :=
  if 0 < d_fixed d then d
  else if d_open d ≤ 10 then (if d_open d = 0 then (s_state d (4))
      else (f_lose d (7)))
    else d
set_option maxHeartbeats 4000000 in
set_option maxRecDepth 100000 in
theorem c_settle (l : Launch) (D : va_G) (A : Nat → Prop) (w : va_W) (cI cL cD : ClassId) (k h0 hp hq : Nat) (d : DT)  (hU0 : dAt w k cI cL h0 hp hq d) : Met l y_D_settle w_D_settle ({ frames := 1, cells := 0, slots := 0, locals := 21 }) (mPc D w (tyL cI cL cD) A [.ref h0]) (va_Qv (fun _ : Unit => True) (fun (_ : Unit) t => ∃ w9 : va_W, va_P D vwCl w9 t.heap ∧ va_D A w9 ∧ dUpd w w9 k cI cL h0 hp hq (f_settle d)) A) 0 0 A := by
  refine Met.ofW (cc := b_D_settle) (maxL := 1) (ret := none) (by decide) rfl ?_
  intro p e s m args below meth c s₁ B hml hv
  obtain ⟨rfl, hP, hK, hD⟩ := hv
  have hx := B.exec
  have hb := B.bytes
  have hr := B.returns
  have hts := atoms_spec (ws := w_D_settle) B.pre
  have hown : s.vm.findClass R_D = some m.cls := findClass_of_methodNamed B.named
  have hlocks := B.notSynchronized
  have hS : va_S A s.heap s.heap [] := va_S.rf
  have hU : dUpd w w k cI cL h0 hp hq d := dUpd.rf hU0
  have hl := lv_entry ([.ref h0]) (n := 1) (Nat.le_of_ble_eq_true rfl)
  rw [lg_entry_eq]
  generalize (lg_sl ([.ref h0]) ++ List.replicate (1 - (lg_sl ([.ref h0])).length) Slot.unset).toArray = ls at hl ⊢
  have hl : lv_has ls 1 [(0, .ref h0)] := hl
  refine lv_aload_n hx hb d_D_settle_0 rfl (lv_at hl 0 rfl) ?_
  refine va_get (D := D) (ci := 0) (v := .long (d_fixed d)) (C := R_D) (T := F_D) (N := 15) hx hb hts (in_D _) hown hK hP k hU.o rfl 10 (by decide) (hts (.fieldLink R_D 62 "DebtRows$Debt" "fixedInterest" "J") (List.mem_cons_of_mem _ mB_226)) (fun _ h9 => h9) rfl d_D_settle_1 ?_
  refine lv_lconst (v := 0) hx hb d_D_settle_4 (by decide) ?_
  refine W.lcmp hx hb d_D_settle_5 ?_
  refine lv_if_gt (tgt := 20) hx hb d_D_settle_6 (by decide) (fun c_31 => ?_) (fun c_31 => ?_)
  · have c_31 : 0 < d_fixed d := (lg_cmp_gt _ _).mp c_31
    exact W.vret hx hb hr (fun t ht hW => ⟨⟨(), rfl, trivial, w, by rw [ht]; exact hP, hD, by rw [f_settle, if_pos c_31]; exact hU⟩, hS.F ht⟩) hS.2.2 d_D_settle_20
  · have c_31 : ¬ 0 < d_fixed d := fun h9 => c_31 ((lg_cmp_gt _ _).mpr h9)
    refine lv_aload_n hx hb d_D_settle_9 rfl (lv_at hl 0 rfl) ?_
    refine va_get (D := D) (ci := 0) (v := .long (d_open d)) (C := R_D) (T := F_D) (N := 15) hx hb hts (in_D _) hown hK hP k hU.o rfl 8 (by decide) (hts (.fieldLink R_D 33 "DebtRows$Debt" "open" "J") (List.mem_cons_of_mem _ mB_221)) (fun _ h9 => h9) rfl d_D_settle_10 ?_
    refine lv_ldc2 (own := R_D) (index := 79) (v := 10) hx hb hown (hts (.constantLong R_D 79 (10)) (List.mem_cons_of_mem _ mB_311)) d_D_settle_13 ?_
    refine W.lcmp hx hb d_D_settle_16 ?_
    refine lv_if_le (tgt := 21) hx hb d_D_settle_17 (by decide) (fun c_32 => ?_) (fun c_32 => ?_)
    · have c_32 : d_open d ≤ 10 := (lg_cmp_le _ _).mp c_32
      refine lv_aload_n hx hb d_D_settle_21 rfl (lv_at hl 0 rfl) ?_
      refine va_get (D := D) (ci := 0) (v := .long (d_open d)) (C := R_D) (T := F_D) (N := 15) hx hb hts (in_D _) hown hK hP k hU.o rfl 8 (by decide) (hts (.fieldLink R_D 33 "DebtRows$Debt" "open" "J") (List.mem_cons_of_mem _ mB_221)) (fun _ h9 => h9) rfl d_D_settle_22 ?_
      refine lv_lconst (v := 0) hx hb d_D_settle_25 (by decide) ?_
      refine W.lcmp hx hb d_D_settle_26 ?_
      refine lv_if_ne (tgt := 38) hx hb d_D_settle_27 (by decide) (fun c_33 => ?_) (fun c_33 => ?_)
      · have c_33 : ¬ d_open d = 0 := fun h9 => c_33 ((lg_cmp_eq _ _).mpr h9)
        refine lv_aload_n hx hb d_D_settle_38 rfl (lv_at hl 0 rfl) ?_
        refine lv_bipush (v := 7) hx hb d_D_settle_39 (by decide) ?_
        refine va_callv (va_runV (As := [.int (7)]) (rest := []) ⟨hx, hb, hml, hown, hts⟩ (c_lose l D A w cI cL cD k h0 hp hq d (7) hU.1) (cwV 1 hts (gV _ mB_312 mB_313 mB_314 mB_24 mB_315) rfl rfl rfl (by decide +kernel) ⟨(Nat.le_of_ble_eq_true rfl), (Nat.le_of_ble_eq_true rfl)⟩) ⟨mPc_bl, va_recv hK hP (ci := 0) (q0 := k) rfl hU.o, mPc_pr hP hK hD⟩ rfl rfl hl.1 rfl (lv_room (Nat.le_of_ble_eq_true rfl)) d_D_settle_41 ⟨Nat.zero_le _, Nat.zero_le _⟩) hS (fun _ _ h => h) (fun _ h => h) (fun u9 t H locs ht hvm ev_34 hB hz1 hk1 hS => ?_)
        obtain ⟨w_35, hP, hD, hU1⟩ := hB
        rw [ht] at hP
        have hU := hU.tr hU1
        exact W.vret hx hb hr (fun t ht hW => ⟨⟨(), rfl, trivial, w_35, by rw [ht]; exact hP, hD, by rw [f_settle, if_neg c_31, if_pos c_32, if_neg c_33]; exact hU⟩, hS.F ht⟩) hS.2.2 d_D_settle_44
      · have c_33 : d_open d = 0 := (lg_cmp_eq _ _).mp c_33
        refine lv_aload_n hx hb d_D_settle_30 rfl (lv_at hl 0 rfl) ?_
        refine lv_iconst (v := 4) hx hb d_D_settle_31 (by decide) ?_
        refine va_put (D := D) (ci := 0) (v := .int (4)) (ty := .int) (C := R_D) (T := F_D) (N := 15) hx hb hts (in_D _) t_D to_D nn_D hown hK hP hD hS k hU.o rfl 5 (by decide) (hts (.fieldLink R_D 27 "DebtRows$Debt" "state" "I") (List.mem_cons_of_mem _ mB_216)) (fun _ h9 => h9) rfl (by decide +kernel) rfl rfl (Nat.le_of_ble_eq_true rfl) d_D_settle_32 (fun H locs hP hD hS => ?_)
        have hU := hU.so (s_state d (4)) rfl rfl
        have hP : va_P D vwCl (w.set k (h0, dE hp hq (s_state d (4)))) H := hP
        have hD : va_D A (w.set k (h0, dE hp hq (s_state d (4)))) := hD
        generalize w.set k (h0, dE hp hq (s_state d (4))) = w_36 at hP hD hU
        refine lv_goto (tgt := 44) hx hb d_D_settle_35 (by decide) ?_
        exact W.vret hx hb hr (fun t ht hW => ⟨⟨(), rfl, trivial, w_36, by rw [ht]; exact hP, hD, by rw [f_settle, if_neg c_31, if_pos c_32, if_pos c_33]; exact hU⟩, hS.F ht⟩) hS.2.2 d_D_settle_44
    · have c_32 : ¬ d_open d ≤ 10 := fun h9 => c_32 ((lg_cmp_le _ _).mpr h9)
      exact W.vret hx hb hr (fun t ht hW => ⟨⟨(), rfl, trivial, w, by rw [ht]; exact hP, hD, by rw [f_settle, if_neg c_31, if_neg c_32]; exact hU⟩, hS.F ht⟩) hS.2.2 d_D_settle_20
def f_take (d : DT) (pl : Int32) (mo : Int64) : Int64 × DT :=
  if (f_hasPlace d (pl)) = 0 then (0, d)
  else (((jMin (mo) (d_fixed d)) + (jMin ((mo - (jMin (mo) (d_fixed d)))) (d_open d))), (f_settle (s_paid (s_open (s_paidI (s_fixed d ((d_fixed d - (jMin (mo) (d_fixed d))))) ((d_paidI d + (jMin (mo) (d_fixed d))))) ((d_open d - (jMin ((mo - (jMin (mo) (d_fixed d)))) (d_open d))))) (vp_updL (d_paid d) (pl).toNatClampNeg ((((d_paid d) (pl).toNatClampNeg) + (jMin ((mo - (jMin (mo) (d_fixed d)))) (d_open d))))))))
set_option maxHeartbeats 4000000 in
set_option maxRecDepth 100000 in
theorem c_take (l : Launch) (D : va_G) (A : Nat → Prop) (w : va_W) (cI cL cD : ClassId) (k h0 hp hq : Nat) (d : DT) (pl : Int32) (mo : Int64) (hU0 : dAt w k cI cL h0 hp hq d) (hw : wfD d) : Met l y_D_take w_D_take ({ frames := 2, cells := 0, slots := 0, locals := 41 }) (mPc D w (tyL cI cL cD) A [.ref h0, .int (pl), .long (mo)]) (va_Ql (fun z9 (_ : Unit) => z9 = (f_take d pl mo).1) (fun (_ : Unit) t => ∃ w9 : va_W, va_P D vwCl w9 t.heap ∧ va_D A w9 ∧ dUpd w w9 k cI cL h0 hp hq ((f_take d pl mo).2)) A) 0 0 A := by
  refine Met.ofW (cc := b_D_take) (maxL := 8) (ret := (some .long)) (by decide) rfl ?_
  intro p e s m args below meth c s₁ B hml hv
  obtain ⟨rfl, hP, hK, hD⟩ := hv
  have hx := B.exec
  have hb := B.bytes
  have hr := B.returns
  have hts := atoms_spec (ws := w_D_take) B.pre
  have hown : s.vm.findClass R_D = some m.cls := findClass_of_methodNamed B.named
  have hlocks := B.notSynchronized
  have hS : va_S A s.heap s.heap [] := va_S.rf
  have hU : dUpd w w k cI cL h0 hp hq d := dUpd.rf hU0
  have hl := lv_entry ([.ref h0, .int (pl), .long (mo)]) (n := 8) (Nat.le_of_ble_eq_true rfl)
  rw [lg_entry_eq]
  generalize (lg_sl ([.ref h0, .int (pl), .long (mo)]) ++ List.replicate (8 - (lg_sl ([.ref h0, .int (pl), .long (mo)])).length) Slot.unset).toArray = ls at hl ⊢
  have hl : lv_has ls 8 [(0, .ref h0), (1, .int (pl)), (2, .long (mo))] := hl
  refine lv_aload_n hx hb d_D_take_0 rfl (lv_at hl 0 rfl) ?_
  refine lv_iload_n hx hb d_D_take_1 rfl (lv_at hl 1 rfl) ?_
  refine vp_callSi (W.runV (As := [.int (pl)]) (rest := []) ⟨hx, hb, hml, hown, hts⟩ (c_hasPlace l D A w cI cL cD k h0 hp hq d (pl) hU.1) (cwV 1 hts (gV _ mB_300 mB_301 mB_302 mB_24 mB_303) rfl rfl rfl (by decide +kernel) ⟨(Nat.le_of_ble_eq_true rfl), (Nat.le_of_ble_eq_true rfl)⟩) ⟨mPc_bl, va_recv hK hP (ci := 0) (q0 := k) rfl hU.o, mPc_pr hP hK hD⟩ rfl rfl hl.1 rfl (lv_room (Nat.le_of_ble_eq_true rfl)) d_D_take_2 ⟨Nat.zero_le _, Nat.zero_le _⟩) (fun v_37 ev_37 => ?_)
  subst ev_37
  refine lv_if_ne (tgt := 10) hx hb d_D_take_5 (by decide) (fun c_38 => ?_) (fun c_38 => ?_)
  · refine lv_lload_n hx hb d_D_take_10 rfl (lv_at hl 2 rfl) ?_
    refine lv_aload_n hx hb d_D_take_11 rfl (lv_at hl 0 rfl) ?_
    refine va_get (D := D) (ci := 0) (v := .long (d_fixed d)) (C := R_D) (T := F_D) (N := 15) hx hb hts (in_D _) hown hK hP k hU.o rfl 10 (by decide) (hts (.fieldLink R_D 62 "DebtRows$Debt" "fixedInterest" "J") (List.mem_cons_of_mem _ mB_226)) (fun _ h9 => h9) rfl d_D_take_12 ?_
    refine va_mmin_long (own := R_D) (index := 69) hx hb (hml.trans hl.1.symm) hown (hts (.methodLink R_D 69 Lib.MathLoose.min_long.x) (List.mem_cons_of_mem _ mB_304)) (hts (.static Lib.MathLoose.min_long.x) (List.mem_cons_of_mem _ mB_305)) (hts (.initialized "java/lang/Math") (List.mem_cons_of_mem _ mB_25)) (hts _ (List.mem_cons_of_mem _ mC_lmin)) (Nat.le_of_ble_eq_true rfl) (Nat.le_of_ble_eq_true rfl) (Nat.le_of_ble_eq_true rfl) (Nat.le_of_ble_eq_true rfl) d_D_take_15 ?_
    refine lv_topl (fun v_39 ev_39 => ?_)
    have ev_39 : v_39 = jMin (mo) (d_fixed d) := ev_39
    subst ev_39
    refine lv_lstore (lv' := [(4, .long ((jMin (mo) (d_fixed d)))), (0, .ref h0), (1, .int (pl)), (2, .long (mo))]) hx hb d_D_take_18 hl (by decide) rfl (fun ls hl => ?_)
    refine lv_lload_n hx hb d_D_take_20 rfl (lv_at hl 3 rfl) ?_
    refine lv_lload hx hb d_D_take_21 (lv_at hl 0 rfl) ?_
    refine lv_lsub hx hb d_D_take_23 ?_
    refine lv_aload_n hx hb d_D_take_24 rfl (lv_at hl 1 rfl) ?_
    refine va_get (D := D) (ci := 0) (v := .long (d_open d)) (C := R_D) (T := F_D) (N := 15) hx hb hts (in_D _) hown hK hP k hU.o rfl 8 (by decide) (hts (.fieldLink R_D 33 "DebtRows$Debt" "open" "J") (List.mem_cons_of_mem _ mB_221)) (fun _ h9 => h9) rfl d_D_take_25 ?_
    refine va_mmin_long (own := R_D) (index := 69) hx hb (hml.trans hl.1.symm) hown (hts (.methodLink R_D 69 Lib.MathLoose.min_long.x) (List.mem_cons_of_mem _ mB_304)) (hts (.static Lib.MathLoose.min_long.x) (List.mem_cons_of_mem _ mB_305)) (hts (.initialized "java/lang/Math") (List.mem_cons_of_mem _ mB_25)) (hts _ (List.mem_cons_of_mem _ mC_lmin)) (Nat.le_of_ble_eq_true rfl) (Nat.le_of_ble_eq_true rfl) (Nat.le_of_ble_eq_true rfl) (Nat.le_of_ble_eq_true rfl) d_D_take_28 ?_
    refine lv_topl (fun v_40 ev_40 => ?_)
    have ev_40 : v_40 = jMin ((mo - (jMin (mo) (d_fixed d)))) (d_open d) := ev_40
    subst ev_40
    refine lv_lstore (lv' := [(6, .long ((jMin ((mo - (jMin (mo) (d_fixed d)))) (d_open d)))), (4, .long ((jMin (mo) (d_fixed d)))), (0, .ref h0), (1, .int (pl)), (2, .long (mo))]) hx hb d_D_take_31 hl (by decide) rfl (fun ls hl => ?_)
    refine lv_aload_n hx hb d_D_take_33 rfl (lv_at hl 2 rfl) ?_
    refine lv_dup hx hb d_D_take_34 rfl ?_
    refine va_get (D := D) (ci := 0) (v := .long (d_fixed d)) (C := R_D) (T := F_D) (N := 15) hx hb hts (in_D _) hown hK hP k hU.o rfl 10 (by decide) (hts (.fieldLink R_D 62 "DebtRows$Debt" "fixedInterest" "J") (List.mem_cons_of_mem _ mB_226)) (fun _ h9 => h9) rfl d_D_take_35 ?_
    refine lv_lload hx hb d_D_take_38 (lv_at hl 1 rfl) ?_
    refine lv_lsub hx hb d_D_take_40 ?_
    refine va_put (D := D) (ci := 0) (v := .long ((d_fixed d - (jMin (mo) (d_fixed d))))) (ty := .long) (C := R_D) (T := F_D) (N := 15) hx hb hts (in_D _) t_D to_D nn_D hown hK hP hD hS k hU.o rfl 10 (by decide) (hts (.fieldLink R_D 62 "DebtRows$Debt" "fixedInterest" "J") (List.mem_cons_of_mem _ mB_226)) (fun _ h9 => h9) rfl (by decide +kernel) rfl rfl (Nat.le_of_ble_eq_true rfl) d_D_take_41 (fun H locs hP hD hS => ?_)
    have hU := hU.so (s_fixed d ((d_fixed d - (jMin (mo) (d_fixed d))))) rfl rfl
    have hP : va_P D vwCl (w.set k (h0, dE hp hq (s_fixed d ((d_fixed d - (jMin (mo) (d_fixed d))))))) H := hP
    have hD : va_D A (w.set k (h0, dE hp hq (s_fixed d ((d_fixed d - (jMin (mo) (d_fixed d))))))) := hD
    generalize w.set k (h0, dE hp hq (s_fixed d ((d_fixed d - (jMin (mo) (d_fixed d)))))) = w_41 at hP hD hU
    refine lv_aload_n hx hb d_D_take_44 rfl (lv_at hl 2 rfl) ?_
    refine lv_dup hx hb d_D_take_45 rfl ?_
    refine va_get (D := D) (ci := 0) (v := .long (d_paidI d)) (C := R_D) (T := F_D) (N := 15) hx hb hts (in_D _) hown hK hP k hU.o rfl 11 (by decide) (hts (.fieldLink R_D 73 "DebtRows$Debt" "paidInterest" "J") (List.mem_cons_of_mem _ mB_228)) (fun _ h9 => h9) rfl d_D_take_46 ?_
    refine lv_lload hx hb d_D_take_49 (lv_at hl 1 rfl) ?_
    refine lv_ladd hx hb d_D_take_51 ?_
    refine va_put (D := D) (ci := 0) (v := .long ((d_paidI d + (jMin (mo) (d_fixed d))))) (ty := .long) (C := R_D) (T := F_D) (N := 15) hx hb hts (in_D _) t_D to_D nn_D hown hK hP hD hS k hU.o rfl 11 (by decide) (hts (.fieldLink R_D 73 "DebtRows$Debt" "paidInterest" "J") (List.mem_cons_of_mem _ mB_228)) (fun _ h9 => h9) rfl (by decide +kernel) rfl rfl (Nat.le_of_ble_eq_true rfl) d_D_take_52 (fun H locs hP hD hS => ?_)
    have hU := hU.so (s_paidI (s_fixed d ((d_fixed d - (jMin (mo) (d_fixed d))))) ((d_paidI d + (jMin (mo) (d_fixed d))))) rfl rfl
    have hP : va_P D vwCl (w_41.set k (h0, dE hp hq (s_paidI (s_fixed d ((d_fixed d - (jMin (mo) (d_fixed d))))) ((d_paidI d + (jMin (mo) (d_fixed d))))))) H := hP
    have hD : va_D A (w_41.set k (h0, dE hp hq (s_paidI (s_fixed d ((d_fixed d - (jMin (mo) (d_fixed d))))) ((d_paidI d + (jMin (mo) (d_fixed d))))))) := hD
    generalize w_41.set k (h0, dE hp hq (s_paidI (s_fixed d ((d_fixed d - (jMin (mo) (d_fixed d))))) ((d_paidI d + (jMin (mo) (d_fixed d)))))) = w_42 at hP hD hU
    refine lv_aload_n hx hb d_D_take_55 rfl (lv_at hl 2 rfl) ?_
    refine lv_dup hx hb d_D_take_56 rfl ?_
    refine va_get (D := D) (ci := 0) (v := .long (d_open d)) (C := R_D) (T := F_D) (N := 15) hx hb hts (in_D _) hown hK hP k hU.o rfl 8 (by decide) (hts (.fieldLink R_D 33 "DebtRows$Debt" "open" "J") (List.mem_cons_of_mem _ mB_221)) (fun _ h9 => h9) rfl d_D_take_57 ?_
    refine lv_lload hx hb d_D_take_60 (lv_at hl 0 rfl) ?_
    refine lv_lsub hx hb d_D_take_62 ?_
    refine va_put (D := D) (ci := 0) (v := .long ((d_open d - (jMin ((mo - (jMin (mo) (d_fixed d)))) (d_open d))))) (ty := .long) (C := R_D) (T := F_D) (N := 15) hx hb hts (in_D _) t_D to_D nn_D hown hK hP hD hS k hU.o rfl 8 (by decide) (hts (.fieldLink R_D 33 "DebtRows$Debt" "open" "J") (List.mem_cons_of_mem _ mB_221)) (fun _ h9 => h9) rfl (by decide +kernel) rfl rfl (Nat.le_of_ble_eq_true rfl) d_D_take_63 (fun H locs hP hD hS => ?_)
    have hU := hU.so (s_open (s_paidI (s_fixed d ((d_fixed d - (jMin (mo) (d_fixed d))))) ((d_paidI d + (jMin (mo) (d_fixed d))))) ((d_open d - (jMin ((mo - (jMin (mo) (d_fixed d)))) (d_open d))))) rfl rfl
    have hP : va_P D vwCl (w_42.set k (h0, dE hp hq (s_open (s_paidI (s_fixed d ((d_fixed d - (jMin (mo) (d_fixed d))))) ((d_paidI d + (jMin (mo) (d_fixed d))))) ((d_open d - (jMin ((mo - (jMin (mo) (d_fixed d)))) (d_open d))))))) H := hP
    have hD : va_D A (w_42.set k (h0, dE hp hq (s_open (s_paidI (s_fixed d ((d_fixed d - (jMin (mo) (d_fixed d))))) ((d_paidI d + (jMin (mo) (d_fixed d))))) ((d_open d - (jMin ((mo - (jMin (mo) (d_fixed d)))) (d_open d))))))) := hD
    generalize w_42.set k (h0, dE hp hq (s_open (s_paidI (s_fixed d ((d_fixed d - (jMin (mo) (d_fixed d))))) ((d_paidI d + (jMin (mo) (d_fixed d))))) ((d_open d - (jMin ((mo - (jMin (mo) (d_fixed d)))) (d_open d)))))) = w_43 at hP hD hU
    refine lv_aload_n hx hb d_D_take_66 rfl (lv_at hl 2 rfl) ?_
    refine va_get (D := D) (ci := 0) (v := .ref hq) (C := R_D) (T := F_D) (N := 15) hx hb hts (in_D _) hown hK hP k hU.o rfl 3 (by decide) (hts (.fieldLink R_D 23 "DebtRows$Debt" "paid" "[J") (List.mem_cons_of_mem _ mB_213)) (fun _ h9 => h9) rfl d_D_take_67 ?_
    refine lv_iload_n hx hb d_D_take_70 rfl (lv_at hl 3 rfl) ?_
    refine lv_dup2_11 hx hb d_D_take_71 rfl rfl ?_
    refine va_lald hx hb hK hP (k + 2) 1 hU.q rfl (in_has hw c_38) d_D_take_72 ?_
    refine lv_lload hx hb d_D_take_73 (lv_at hl 0 rfl) ?_
    refine lv_ladd hx hb d_D_take_75 ?_
    refine va_last hx hb hK hP hD hS (k + 2) 1 hU.q rfl (in_has hw c_38) d_D_take_76 (fun H locs hP hD hS => ?_)
    have hU := hU.sq (vp_updL (d_paid d) (pl).toNatClampNeg ((((d_paid d) (pl).toNatClampNeg) + (jMin ((mo - (jMin (mo) (d_fixed d)))) (d_open d)))))
    have hP : va_P D vwCl (w_43.set (k + 2) (hq, aL cL 4 (vp_updL (d_paid d) (pl).toNatClampNeg ((((d_paid d) (pl).toNatClampNeg) + (jMin ((mo - (jMin (mo) (d_fixed d)))) (d_open d))))))) H := hP
    have hD : va_D A (w_43.set (k + 2) (hq, aL cL 4 (vp_updL (d_paid d) (pl).toNatClampNeg ((((d_paid d) (pl).toNatClampNeg) + (jMin ((mo - (jMin (mo) (d_fixed d)))) (d_open d))))))) := hD
    generalize w_43.set (k + 2) (hq, aL cL 4 (vp_updL (d_paid d) (pl).toNatClampNeg ((((d_paid d) (pl).toNatClampNeg) + (jMin ((mo - (jMin (mo) (d_fixed d)))) (d_open d)))))) = w_44 at hP hD hU
    refine lv_aload_n hx hb d_D_take_77 rfl (lv_at hl 2 rfl) ?_
    refine va_callv (va_runV (As := []) (rest := []) ⟨hx, hb, hml, hown, hts⟩ (c_settle l D A w_44 cI cL cD k h0 hp hq (s_paid (s_open (s_paidI (s_fixed d ((d_fixed d - (jMin (mo) (d_fixed d))))) ((d_paidI d + (jMin (mo) (d_fixed d))))) ((d_open d - (jMin ((mo - (jMin (mo) (d_fixed d)))) (d_open d))))) (vp_updL (d_paid d) (pl).toNatClampNeg ((((d_paid d) (pl).toNatClampNeg) + (jMin ((mo - (jMin (mo) (d_fixed d)))) (d_open d)))))) hU.1) (cwV 0 hts (gV _ mB_307 mB_308 mB_309 mB_24 mB_310) rfl rfl rfl (by decide +kernel) ⟨(Nat.le_of_ble_eq_true rfl), (Nat.le_of_ble_eq_true rfl)⟩) ⟨mPc_bl, va_recv hK hP (ci := 0) (q0 := k) rfl hU.o, mPc_pr hP hK hD⟩ rfl rfl hl.1 rfl (lv_room (Nat.le_of_ble_eq_true rfl)) d_D_take_78 ⟨Nat.zero_le _, Nat.zero_le _⟩) hS (fun _ _ h => h) (fun _ h => h) (fun u9 t H locs ht hvm ev_45 hB hz1 hk1 hS => ?_)
    obtain ⟨w_46, hP, hD, hU1⟩ := hB
    rw [ht] at hP
    have hU := hU.tr hU1
    refine lv_lload hx hb d_D_take_81 (lv_at hl 1 rfl) ?_
    refine lv_lload hx hb d_D_take_83 (lv_at hl 0 rfl) ?_
    refine lv_ladd hx hb d_D_take_85 ?_
    exact W.lret (v := ((jMin (mo) (d_fixed d)) + (jMin ((mo - (jMin (mo) (d_fixed d)))) (d_open d)))) hx hb hr (fun t ht hW => ⟨⟨_, (), rfl, by rw [f_take, if_neg c_38], w_46, by rw [ht]; exact hP, hD, by rw [f_take, if_neg c_38]; exact hU⟩, hS.F ht⟩) hS.2.2 d_D_take_86
  · refine lv_lconst (v := 0) hx hb d_D_take_8 (by decide) ?_
    exact W.lret (v := 0) hx hb hr (fun t ht hW => ⟨⟨_, (), rfl, by rw [f_take, if_pos c_38], w, by rw [ht]; exact hP, hD, by rw [f_take, if_pos c_38]; exact hU⟩, hS.F ht⟩) hS.2.2 d_D_take_9
def fmL (d : DT) : Nat → Nat → Nat
  | i, 0 => i
  | i, n + 1 => if f_mayBeOpen d (nI i) < d_open d then i else fmL d (i + 1) n
def f_firstMissedDay (d : DT) : Int32 := d_dDay d + 30 * nI (fmL d 1 ((d_dParts d).toNatClampNeg - 1))
set_option maxHeartbeats 4000000 in
set_option maxRecDepth 100000 in
theorem c_firstMissedDay (l : Launch) (D : va_G) (A : Nat → Prop) (w : va_W) (cI cL cD : ClassId) (k h0 hp hq : Nat) (d : DT)  (hU0 : dAt w k cI cL h0 hp hq d) (hw : wfD d) : Met l y_D_firstMissedDay w_D_firstMissedDay ({ frames := 1, cells := 0, slots := 0, locals := 21 }) (mPc D w (tyL cI cL cD) A [.ref h0]) (vp_Si (fun z9 => z9 = f_firstMissedDay d)) 0 0 (fun _ => False) := by
  refine Met.ofW (cc := b_D_firstMissedDay) (maxL := 2) (ret := (some .int)) (by decide) rfl ?_
  intro p e s m args below meth c s₁ B hml hv
  obtain ⟨rfl, hP, hK, hD⟩ := hv
  have hx := B.exec
  have hb := B.bytes
  have hr := B.returns
  have hts := atoms_spec (ws := w_D_firstMissedDay) B.pre
  have hown : s.vm.findClass R_D = some m.cls := findClass_of_methodNamed B.named
  have hlocks := B.notSynchronized
  have hS : va_S A s.heap s.heap [] := va_S.rf
  have hU : dUpd w w k cI cL h0 hp hq d := dUpd.rf hU0
  have hl := lv_entry ([.ref h0]) (n := 2) (Nat.le_of_ble_eq_true rfl)
  rw [lg_entry_eq]
  generalize (lg_sl ([.ref h0]) ++ List.replicate (2 - (lg_sl ([.ref h0])).length) Slot.unset).toArray = ls at hl ⊢
  have hl : lv_has ls 2 [(0, .ref h0)] := hl
  refine lv_iconst (v := 1) hx hb d_D_firstMissedDay_0 (by decide) ?_
  refine lv_istore_n (lv' := [(1, .int (1)), (0, .ref h0)]) hx hb d_D_firstMissedDay_1 rfl hl (by decide) rfl (fun ls hl => ?_)
  obtain ⟨PP, hPP, eP⟩ := hw.2
  have loop : ∀ (n i : Nat), PP - i = n → i ≤ 12 → fmL d i n = fmL d 1 ((d_dParts d).toNatClampNeg - 1) → ∀ (ls : Array Slot), lv_has ls 2 [(1, .int (nI i)), (0, .ref h0)] → W p l e (headSpec w_D_firstMissedDay ({ frames := 1, cells := 0, slots := 0, locals := 21 })).room s m [.ref h0].toArray below meth c s.heap [] 0 0 (MQ below (vp_Si (fun z9 => z9 = f_firstMissedDay d)) [.ref h0].toArray s 0 0 (fun _ => False)) (F0 m 2 ls []) := by
    intro n
    induction n with
    | zero =>
      intro i hin hi12 hv ls hl
      refine lv_iload_n hx hb d_D_firstMissedDay_2 rfl (lv_at hl 0 rfl) ?_
      refine lv_aload_n hx hb d_D_firstMissedDay_3 rfl (lv_at hl 1 rfl) ?_
      refine va_get (D := D) (ci := 0) (v := .int (d_dParts d)) (C := R_D) (T := F_D) (N := 15) hx hb hts (in_D _) hown hK hP k hU.o rfl 13 (by decide) (hts (.fieldLink R_D 91 "DebtRows$Debt" "deferralParts" "I") (List.mem_cons_of_mem _ mB_230)) (fun _ h9 => h9) rfl d_D_firstMissedDay_4 ?_
      refine lv_icmp_ge (tgt := 29) hx hb d_D_firstMissedDay_7 (by decide) (fun c_47 => ?_) (fun c_47 => ?_)
      · refine lv_aload_n hx hb d_D_firstMissedDay_29 rfl (lv_at hl 1 rfl) ?_
        refine va_get (D := D) (ci := 0) (v := .int (d_dDay d)) (C := R_D) (T := F_D) (N := 15) hx hb hts (in_D _) hown hK hP k hU.o rfl 12 (by decide) (hts (.fieldLink R_D 88 "DebtRows$Debt" "deferralDay" "I") (List.mem_cons_of_mem _ mB_229)) (fun _ h9 => h9) rfl d_D_firstMissedDay_30 ?_
        refine lv_bipush (v := 30) hx hb d_D_firstMissedDay_33 (by decide) ?_
        refine lv_iload_n hx hb d_D_firstMissedDay_35 rfl (lv_at hl 0 rfl) ?_
        refine lv_imul hx hb d_D_firstMissedDay_36 ?_
        refine lv_iadd hx hb d_D_firstMissedDay_37 ?_
        exact W.iret (v := (d_dDay d + (30 * nI i))) hx hb hr (fun t ht hW => ⟨_, rfl, by rw [f_firstMissedDay, ← hv]; rfl, ht⟩) t_nil d_D_firstMissedDay_38
      · exact absurd (by rw [eP]; exact nI_le (by omega) (by omega)) c_47
    | succ n ih =>
      intro i hin hi12 hv ls hl
      refine lv_iload_n hx hb d_D_firstMissedDay_2 rfl (lv_at hl 0 rfl) ?_
      refine lv_aload_n hx hb d_D_firstMissedDay_3 rfl (lv_at hl 1 rfl) ?_
      refine va_get (D := D) (ci := 0) (v := .int (d_dParts d)) (C := R_D) (T := F_D) (N := 15) hx hb hts (in_D _) hown hK hP k hU.o rfl 13 (by decide) (hts (.fieldLink R_D 91 "DebtRows$Debt" "deferralParts" "I") (List.mem_cons_of_mem _ mB_230)) (fun _ h9 => h9) rfl d_D_firstMissedDay_4 ?_
      refine lv_icmp_ge (tgt := 29) hx hb d_D_firstMissedDay_7 (by decide) (fun c_48 => ?_) (fun c_48 => ?_)
      · exact absurd c_48 (by rw [eP]; exact nI_ge (by omega) (by omega))
      · refine lv_aload_n hx hb d_D_firstMissedDay_10 rfl (lv_at hl 1 rfl) ?_
        refine va_get (D := D) (ci := 0) (v := .long (d_open d)) (C := R_D) (T := F_D) (N := 15) hx hb hts (in_D _) hown hK hP k hU.o rfl 8 (by decide) (hts (.fieldLink R_D 33 "DebtRows$Debt" "open" "J") (List.mem_cons_of_mem _ mB_221)) (fun _ h9 => h9) rfl d_D_firstMissedDay_11 ?_
        refine lv_aload_n hx hb d_D_firstMissedDay_14 rfl (lv_at hl 1 rfl) ?_
        refine lv_iload_n hx hb d_D_firstMissedDay_15 rfl (lv_at hl 0 rfl) ?_
        refine vp_callSl (W.runV (As := [.int (nI i)]) (rest := [.long (d_open d)]) ⟨hx, hb, hml, hown, hts⟩ (c_mayBeOpen l D A w cI cL cD k h0 hp hq d (nI i) hU.1) (cwV 1 hts (gV _ mB_354 mB_355 mB_356 mB_24 mB_357) rfl rfl rfl (by decide +kernel) ⟨(Nat.le_of_ble_eq_true rfl), (Nat.le_of_ble_eq_true rfl)⟩) ⟨mPc_bl, va_recv hK hP (ci := 0) (q0 := k) rfl hU.o, mPc_pr hP hK hD⟩ rfl rfl hl.1 rfl (lv_room (Nat.le_of_ble_eq_true rfl)) d_D_firstMissedDay_16 ⟨Nat.zero_le _, Nat.zero_le _⟩) (fun v_49 ev_49 => ?_)
        subst ev_49
        refine W.lcmp hx hb d_D_firstMissedDay_19 ?_
        refine lv_if_gt (tgt := 29) hx hb d_D_firstMissedDay_20 (by decide) (fun c_50 => ?_) (fun c_50 => ?_)
        · have c_50 : (f_mayBeOpen d (nI i)) < d_open d := (lg_cmp_gt _ _).mp c_50
          refine lv_aload_n hx hb d_D_firstMissedDay_29 rfl (lv_at hl 1 rfl) ?_
          refine va_get (D := D) (ci := 0) (v := .int (d_dDay d)) (C := R_D) (T := F_D) (N := 15) hx hb hts (in_D _) hown hK hP k hU.o rfl 12 (by decide) (hts (.fieldLink R_D 88 "DebtRows$Debt" "deferralDay" "I") (List.mem_cons_of_mem _ mB_229)) (fun _ h9 => h9) rfl d_D_firstMissedDay_30 ?_
          refine lv_bipush (v := 30) hx hb d_D_firstMissedDay_33 (by decide) ?_
          refine lv_iload_n hx hb d_D_firstMissedDay_35 rfl (lv_at hl 0 rfl) ?_
          refine lv_imul hx hb d_D_firstMissedDay_36 ?_
          refine lv_iadd hx hb d_D_firstMissedDay_37 ?_
          exact W.iret (v := (d_dDay d + (30 * nI i))) hx hb hr (fun t ht hW => ⟨_, rfl, by rw [f_firstMissedDay, ← hv, fmL, if_pos c_50], ht⟩) t_nil d_D_firstMissedDay_38
        · have c_50 : ¬ (f_mayBeOpen d (nI i)) < d_open d := fun h9 => c_50 ((lg_cmp_gt _ _).mpr h9)
          refine lv_iinc (v := nI (i + 1)) (lv' := [(1, .int (nI (i + 1))), (0, .ref h0)]) hx hb d_D_firstMissedDay_23 hl (k := 0) rfl (nI_inc i) (by decide) rfl (fun ls hl => ?_)
          refine lv_goto (tgt := 2) hx hb d_D_firstMissedDay_26 (by decide) ?_
          exact ih (i + 1) (by omega) (by omega) (by rw [← hv, fmL, if_neg c_50]) ls (lv_sub hl [0, 1] rfl)
  exact loop (PP - 1) 1 rfl (by omega) (by rw [eP, nI_clamp (by omega)]) ls hl
def f_endsBy (d : DT) (day : Int32) : Int32 × DT :=
  if d_state d = 0 then (if (f_isTooLate d (day)) = 0 then (if d_state d = 2 then (if (f_firstMissedDay d) < day then (1, (f_runAgain d (((f_firstMissedDay d) + 1))))
        else (0, d))
      else (0, d))
    else (1, (f_lose d (6))))
  else if d_state d = 2 then (if (f_firstMissedDay d) < day then (1, (f_runAgain d (((f_firstMissedDay d) + 1))))
      else (0, d))
    else (0, d)
set_option maxHeartbeats 4000000 in
set_option maxRecDepth 100000 in
theorem c_endsBy (l : Launch) (D : va_G) (A : Nat → Prop) (w : va_W) (cI cL cD : ClassId) (k h0 hp hq : Nat) (d : DT) (day : Int32) (hU0 : dAt w k cI cL h0 hp hq d) (hw : wfD d) : Met l y_D_endsBy w_D_endsBy ({ frames := 2, cells := 0, slots := 0, locals := 45 }) (mPc D w (tyL cI cL cD) A [.ref h0, .int (day)]) (va_Qi (fun z9 (_ : Unit) => z9 = (f_endsBy d day).1) (fun (_ : Unit) t => ∃ w9 : va_W, va_P D vwCl w9 t.heap ∧ va_D A w9 ∧ dUpd w w9 k cI cL h0 hp hq ((f_endsBy d day).2)) A) 0 0 A := by
  refine Met.ofW (cc := b_D_endsBy) (maxL := 3) (ret := (some .boolean)) (by decide) rfl ?_
  intro p e s m args below meth c s₁ B hml hv
  obtain ⟨rfl, hP, hK, hD⟩ := hv
  have hx := B.exec
  have hb := B.bytes
  have hr := B.returns
  have hts := atoms_spec (ws := w_D_endsBy) B.pre
  have hown : s.vm.findClass R_D = some m.cls := findClass_of_methodNamed B.named
  have hlocks := B.notSynchronized
  have hS : va_S A s.heap s.heap [] := va_S.rf
  have hU : dUpd w w k cI cL h0 hp hq d := dUpd.rf hU0
  have hl := lv_entry ([.ref h0, .int (day)]) (n := 3) (Nat.le_of_ble_eq_true rfl)
  rw [lg_entry_eq]
  generalize (lg_sl ([.ref h0, .int (day)]) ++ List.replicate (3 - (lg_sl ([.ref h0, .int (day)])).length) Slot.unset).toArray = ls at hl ⊢
  have hl : lv_has ls 3 [(0, .ref h0), (1, .int (day))] := hl
  refine lv_aload_n hx hb d_D_endsBy_0 rfl (lv_at hl 0 rfl) ?_
  refine va_get (D := D) (ci := 0) (v := .int (d_state d)) (C := R_D) (T := F_D) (N := 15) hx hb hts (in_D _) hown hK hP k hU.o rfl 5 (by decide) (hts (.fieldLink R_D 27 "DebtRows$Debt" "state" "I") (List.mem_cons_of_mem _ mB_216)) (fun _ h9 => h9) rfl d_D_endsBy_1 ?_
  refine lv_if_ne (tgt := 23) hx hb d_D_endsBy_4 (by decide) (fun c_51 => ?_) (fun c_51 => ?_)
  · refine lv_aload_n hx hb d_D_endsBy_23 rfl (lv_at hl 0 rfl) ?_
    refine va_get (D := D) (ci := 0) (v := .int (d_state d)) (C := R_D) (T := F_D) (N := 15) hx hb hts (in_D _) hown hK hP k hU.o rfl 5 (by decide) (hts (.fieldLink R_D 27 "DebtRows$Debt" "state" "I") (List.mem_cons_of_mem _ mB_216)) (fun _ h9 => h9) rfl d_D_endsBy_24 ?_
    refine lv_iconst (v := 2) hx hb d_D_endsBy_27 (by decide) ?_
    refine lv_icmp_eq (tgt := 33) hx hb d_D_endsBy_28 (by decide) (fun c_52 => ?_) (fun c_52 => ?_)
    · refine lv_aload_n hx hb d_D_endsBy_33 rfl (lv_at hl 0 rfl) ?_
      refine vp_callSi (W.runV (As := []) (rest := []) ⟨hx, hb, hml, hown, hts⟩ (c_firstMissedDay l D A w cI cL cD k h0 hp hq d hU.1 hw) (cwV 0 hts (gV _ mB_350 mB_351 mB_352 mB_24 mB_353) rfl rfl rfl (by decide +kernel) ⟨(Nat.le_of_ble_eq_true rfl), (Nat.le_of_ble_eq_true rfl)⟩) ⟨mPc_bl, va_recv hK hP (ci := 0) (q0 := k) rfl hU.o, mPc_pr hP hK hD⟩ rfl rfl hl.1 rfl (lv_room (Nat.le_of_ble_eq_true rfl)) d_D_endsBy_34 ⟨Nat.zero_le _, Nat.zero_le _⟩) (fun v_53 ev_53 => ?_)
      subst ev_53
      refine lv_istore_n (lv' := [(2, .int ((f_firstMissedDay d))), (0, .ref h0), (1, .int (day))]) hx hb d_D_endsBy_37 rfl hl (by decide) rfl (fun ls hl => ?_)
      refine lv_iload_n hx hb d_D_endsBy_38 rfl (lv_at hl 0 rfl) ?_
      refine lv_iload_n hx hb d_D_endsBy_39 rfl (lv_at hl 2 rfl) ?_
      refine lv_icmp_lt (tgt := 45) hx hb d_D_endsBy_40 (by decide) (fun c_54 => ?_) (fun c_54 => ?_)
      · refine lv_aload_n hx hb d_D_endsBy_45 rfl (lv_at hl 1 rfl) ?_
        refine lv_iload_n hx hb d_D_endsBy_46 rfl (lv_at hl 0 rfl) ?_
        refine lv_iconst (v := 1) hx hb d_D_endsBy_47 (by decide) ?_
        refine lv_iadd hx hb d_D_endsBy_48 ?_
        refine va_callv (va_runV (As := [.int (((f_firstMissedDay d) + 1))]) (rest := []) ⟨hx, hb, hml, hown, hts⟩ (c_runAgain l D A w cI cL cD k h0 hp hq d (((f_firstMissedDay d) + 1)) hU.1) (cwV 1 hts (gV _ mB_358 mB_262 mB_263 mB_24 mB_264) rfl rfl rfl (by decide +kernel) ⟨(Nat.le_of_ble_eq_true rfl), (Nat.le_of_ble_eq_true rfl)⟩) ⟨mPc_bl, va_recv hK hP (ci := 0) (q0 := k) rfl hU.o, mPc_pr hP hK hD⟩ rfl rfl hl.1 rfl (lv_room (Nat.le_of_ble_eq_true rfl)) d_D_endsBy_49 ⟨Nat.zero_le _, Nat.zero_le _⟩) hS (fun _ _ h => h) (fun _ h => h) (fun u9 t H locs ht hvm ev_55 hB hz1 hk1 hS => ?_)
        obtain ⟨w_56, hP, hD, hU1⟩ := hB
        rw [ht] at hP
        have hU := hU.tr hU1
        refine lv_iconst (v := 1) hx hb d_D_endsBy_52 (by decide) ?_
        exact W.zret (v := 1) hx hb hr rfl (fun t ht hW => ⟨⟨_, (), rfl, by rw [f_endsBy, if_neg c_51, if_pos c_52, if_pos c_54], w_56, by rw [ht]; exact hP, hD, by rw [f_endsBy, if_neg c_51, if_pos c_52, if_pos c_54]; exact hU⟩, hS.F ht⟩) hS.2.2 d_D_endsBy_53
      · refine lv_iconst (v := 0) hx hb d_D_endsBy_43 (by decide) ?_
        exact W.zret (v := 0) hx hb hr rfl (fun t ht hW => ⟨⟨_, (), rfl, by rw [f_endsBy, if_neg c_51, if_pos c_52, if_neg c_54], w, by rw [ht]; exact hP, hD, by rw [f_endsBy, if_neg c_51, if_pos c_52, if_neg c_54]; exact hU⟩, hS.F ht⟩) hS.2.2 d_D_endsBy_44
    · refine lv_iconst (v := 0) hx hb d_D_endsBy_31 (by decide) ?_
      exact W.zret (v := 0) hx hb hr rfl (fun t ht hW => ⟨⟨_, (), rfl, by rw [f_endsBy, if_neg c_51, if_neg c_52], w, by rw [ht]; exact hP, hD, by rw [f_endsBy, if_neg c_51, if_neg c_52]; exact hU⟩, hS.F ht⟩) hS.2.2 d_D_endsBy_32
  · refine lv_aload_n hx hb d_D_endsBy_7 rfl (lv_at hl 0 rfl) ?_
    refine lv_iload_n hx hb d_D_endsBy_8 rfl (lv_at hl 1 rfl) ?_
    refine vp_callSi (W.runV (As := [.int (day)]) (rest := []) ⟨hx, hb, hml, hown, hts⟩ (c_isTooLate l D A w cI cL cD k h0 hp hq d (day) hU.1) (cwV 1 hts (gV _ mB_349 mB_258 mB_259 mB_24 mB_260) rfl rfl rfl (by decide +kernel) ⟨(Nat.le_of_ble_eq_true rfl), (Nat.le_of_ble_eq_true rfl)⟩) ⟨mPc_bl, va_recv hK hP (ci := 0) (q0 := k) rfl hU.o, mPc_pr hP hK hD⟩ rfl rfl hl.1 rfl (lv_room (Nat.le_of_ble_eq_true rfl)) d_D_endsBy_9 ⟨Nat.zero_le _, Nat.zero_le _⟩) (fun v_57 ev_57 => ?_)
    subst ev_57
    refine lv_if_eq (tgt := 23) hx hb d_D_endsBy_12 (by decide) (fun c_58 => ?_) (fun c_58 => ?_)
    · refine lv_aload_n hx hb d_D_endsBy_23 rfl (lv_at hl 0 rfl) ?_
      refine va_get (D := D) (ci := 0) (v := .int (d_state d)) (C := R_D) (T := F_D) (N := 15) hx hb hts (in_D _) hown hK hP k hU.o rfl 5 (by decide) (hts (.fieldLink R_D 27 "DebtRows$Debt" "state" "I") (List.mem_cons_of_mem _ mB_216)) (fun _ h9 => h9) rfl d_D_endsBy_24 ?_
      refine lv_iconst (v := 2) hx hb d_D_endsBy_27 (by decide) ?_
      refine lv_icmp_eq (tgt := 33) hx hb d_D_endsBy_28 (by decide) (fun c_59 => ?_) (fun c_59 => ?_)
      · refine lv_aload_n hx hb d_D_endsBy_33 rfl (lv_at hl 0 rfl) ?_
        refine vp_callSi (W.runV (As := []) (rest := []) ⟨hx, hb, hml, hown, hts⟩ (c_firstMissedDay l D A w cI cL cD k h0 hp hq d hU.1 hw) (cwV 0 hts (gV _ mB_350 mB_351 mB_352 mB_24 mB_353) rfl rfl rfl (by decide +kernel) ⟨(Nat.le_of_ble_eq_true rfl), (Nat.le_of_ble_eq_true rfl)⟩) ⟨mPc_bl, va_recv hK hP (ci := 0) (q0 := k) rfl hU.o, mPc_pr hP hK hD⟩ rfl rfl hl.1 rfl (lv_room (Nat.le_of_ble_eq_true rfl)) d_D_endsBy_34 ⟨Nat.zero_le _, Nat.zero_le _⟩) (fun v_60 ev_60 => ?_)
        subst ev_60
        refine lv_istore_n (lv' := [(2, .int ((f_firstMissedDay d))), (0, .ref h0), (1, .int (day))]) hx hb d_D_endsBy_37 rfl hl (by decide) rfl (fun ls hl => ?_)
        refine lv_iload_n hx hb d_D_endsBy_38 rfl (lv_at hl 0 rfl) ?_
        refine lv_iload_n hx hb d_D_endsBy_39 rfl (lv_at hl 2 rfl) ?_
        refine lv_icmp_lt (tgt := 45) hx hb d_D_endsBy_40 (by decide) (fun c_61 => ?_) (fun c_61 => ?_)
        · refine lv_aload_n hx hb d_D_endsBy_45 rfl (lv_at hl 1 rfl) ?_
          refine lv_iload_n hx hb d_D_endsBy_46 rfl (lv_at hl 0 rfl) ?_
          refine lv_iconst (v := 1) hx hb d_D_endsBy_47 (by decide) ?_
          refine lv_iadd hx hb d_D_endsBy_48 ?_
          refine va_callv (va_runV (As := [.int (((f_firstMissedDay d) + 1))]) (rest := []) ⟨hx, hb, hml, hown, hts⟩ (c_runAgain l D A w cI cL cD k h0 hp hq d (((f_firstMissedDay d) + 1)) hU.1) (cwV 1 hts (gV _ mB_358 mB_262 mB_263 mB_24 mB_264) rfl rfl rfl (by decide +kernel) ⟨(Nat.le_of_ble_eq_true rfl), (Nat.le_of_ble_eq_true rfl)⟩) ⟨mPc_bl, va_recv hK hP (ci := 0) (q0 := k) rfl hU.o, mPc_pr hP hK hD⟩ rfl rfl hl.1 rfl (lv_room (Nat.le_of_ble_eq_true rfl)) d_D_endsBy_49 ⟨Nat.zero_le _, Nat.zero_le _⟩) hS (fun _ _ h => h) (fun _ h => h) (fun u9 t H locs ht hvm ev_62 hB hz1 hk1 hS => ?_)
          obtain ⟨w_63, hP, hD, hU1⟩ := hB
          rw [ht] at hP
          have hU := hU.tr hU1
          refine lv_iconst (v := 1) hx hb d_D_endsBy_52 (by decide) ?_
          exact W.zret (v := 1) hx hb hr rfl (fun t ht hW => ⟨⟨_, (), rfl, by rw [f_endsBy, if_pos c_51, if_pos c_58, if_pos c_59, if_pos c_61], w_63, by rw [ht]; exact hP, hD, by rw [f_endsBy, if_pos c_51, if_pos c_58, if_pos c_59, if_pos c_61]; exact hU⟩, hS.F ht⟩) hS.2.2 d_D_endsBy_53
        · refine lv_iconst (v := 0) hx hb d_D_endsBy_43 (by decide) ?_
          exact W.zret (v := 0) hx hb hr rfl (fun t ht hW => ⟨⟨_, (), rfl, by rw [f_endsBy, if_pos c_51, if_pos c_58, if_pos c_59, if_neg c_61], w, by rw [ht]; exact hP, hD, by rw [f_endsBy, if_pos c_51, if_pos c_58, if_pos c_59, if_neg c_61]; exact hU⟩, hS.F ht⟩) hS.2.2 d_D_endsBy_44
      · refine lv_iconst (v := 0) hx hb d_D_endsBy_31 (by decide) ?_
        exact W.zret (v := 0) hx hb hr rfl (fun t ht hW => ⟨⟨_, (), rfl, by rw [f_endsBy, if_pos c_51, if_pos c_58, if_neg c_59], w, by rw [ht]; exact hP, hD, by rw [f_endsBy, if_pos c_51, if_pos c_58, if_neg c_59]; exact hU⟩, hS.F ht⟩) hS.2.2 d_D_endsBy_32
    · refine lv_aload_n hx hb d_D_endsBy_15 rfl (lv_at hl 0 rfl) ?_
      refine lv_bipush (v := 6) hx hb d_D_endsBy_16 (by decide) ?_
      refine va_callv (va_runV (As := [.int (6)]) (rest := []) ⟨hx, hb, hml, hown, hts⟩ (c_lose l D A w cI cL cD k h0 hp hq d (6) hU.1) (cwV 1 hts (gV _ mB_312 mB_313 mB_314 mB_24 mB_315) rfl rfl rfl (by decide +kernel) ⟨(Nat.le_of_ble_eq_true rfl), (Nat.le_of_ble_eq_true rfl)⟩) ⟨mPc_bl, va_recv hK hP (ci := 0) (q0 := k) rfl hU.o, mPc_pr hP hK hD⟩ rfl rfl hl.1 rfl (lv_room (Nat.le_of_ble_eq_true rfl)) d_D_endsBy_18 ⟨Nat.zero_le _, Nat.zero_le _⟩) hS (fun _ _ h => h) (fun _ h => h) (fun u9 t H locs ht hvm ev_64 hB hz1 hk1 hS => ?_)
      obtain ⟨w_65, hP, hD, hU1⟩ := hB
      rw [ht] at hP
      have hU := hU.tr hU1
      refine lv_iconst (v := 1) hx hb d_D_endsBy_21 (by decide) ?_
      exact W.zret (v := 1) hx hb hr rfl (fun t ht hW => ⟨⟨_, (), rfl, by rw [f_endsBy, if_pos c_51, if_neg c_58], w_65, by rw [ht]; exact hP, hD, by rw [f_endsBy, if_pos c_51, if_neg c_58]; exact hU⟩, hS.F ht⟩) hS.2.2 d_D_endsBy_22
def f_part (d : DT) (wh : Int32) : Int64 :=
  if wh = 0 then d_cents d
  else if wh = 1 then d_open d
    else if wh = 2 then ((d_cents d - d_open d) - d_lost d)
      else if wh = 3 then d_lost d
        else d_paidI d
set_option maxHeartbeats 4000000 in
set_option maxRecDepth 100000 in
theorem c_part (l : Launch) (D : va_G) (A : Nat → Prop) (w : va_W) (cI cL cD : ClassId) (k h0 hp hq : Nat) (d : DT) (wh : Int32) (hU0 : dAt w k cI cL h0 hp hq d) : Met l y_D_part w_D_part ({ frames := 0, cells := 0, slots := 0, locals := 0 }) (mPc D w (tyL cI cL cD) A [.ref h0, .int (wh)]) (vp_Sl (fun z9 => z9 = f_part d wh)) 0 0 (fun _ => False) := by
  refine Met.ofW (cc := b_D_part) (maxL := 2) (ret := (some .long)) (by decide) rfl ?_
  intro p e s m args below meth c s₁ B hml hv
  obtain ⟨rfl, hP, hK, hD⟩ := hv
  have hx := B.exec
  have hb := B.bytes
  have hr := B.returns
  have hts := atoms_spec (ws := w_D_part) B.pre
  have hown : s.vm.findClass R_D = some m.cls := findClass_of_methodNamed B.named
  have hlocks := B.notSynchronized
  have hS : va_S A s.heap s.heap [] := va_S.rf
  have hU : dUpd w w k cI cL h0 hp hq d := dUpd.rf hU0
  have hl := lv_entry ([.ref h0, .int (wh)]) (n := 2) (Nat.le_of_ble_eq_true rfl)
  rw [lg_entry_eq]
  generalize (lg_sl ([.ref h0, .int (wh)]) ++ List.replicate (2 - (lg_sl ([.ref h0, .int (wh)])).length) Slot.unset).toArray = ls at hl ⊢
  have hl : lv_has ls 2 [(0, .ref h0), (1, .int (wh))] := hl
  refine lv_iload_n hx hb d_D_part_0 rfl (lv_at hl 1 rfl) ?_
  rcases Decidable.em (wh = (0 : Int32)) with c_66 | c_66
  · refine lv_tableIn (tgt := 32) hx hb d_D_part_1 (by rw [c_66]; decide) (by rw [c_66]; decide) (by rw [c_66]; rfl) (by decide) ?_
    refine lv_aload_n hx hb d_D_part_32 rfl (lv_at hl 0 rfl) ?_
    refine va_get (D := D) (ci := 0) (v := .long (d_cents d)) (C := R_D) (T := F_D) (N := 15) hx hb hts (in_D _) hown hK hP k hU.o rfl 0 (by decide) (hts (.fieldLink R_D 9 "DebtRows$Debt" "cents" "J") (List.mem_cons_of_mem _ mB_208)) (fun _ h9 => h9) rfl d_D_part_33 ?_
    exact W.lret (v := d_cents d) hx hb hr (fun t ht hW => ⟨_, rfl, by rw [f_part, if_pos c_66], ht⟩) t_nil d_D_part_36
  · rcases Decidable.em (wh = (1 : Int32)) with c_67 | c_67
    · refine lv_tableIn (tgt := 37) hx hb d_D_part_1 (by rw [c_67]; decide) (by rw [c_67]; decide) (by rw [c_67]; rfl) (by decide) ?_
      refine lv_aload_n hx hb d_D_part_37 rfl (lv_at hl 0 rfl) ?_
      refine va_get (D := D) (ci := 0) (v := .long (d_open d)) (C := R_D) (T := F_D) (N := 15) hx hb hts (in_D _) hown hK hP k hU.o rfl 8 (by decide) (hts (.fieldLink R_D 33 "DebtRows$Debt" "open" "J") (List.mem_cons_of_mem _ mB_221)) (fun _ h9 => h9) rfl d_D_part_38 ?_
      exact W.lret (v := d_open d) hx hb hr (fun t ht hW => ⟨_, rfl, by rw [f_part, if_neg c_66, if_pos c_67], ht⟩) t_nil d_D_part_41
    · rcases Decidable.em (wh = (2 : Int32)) with c_68 | c_68
      · refine lv_tableIn (tgt := 42) hx hb d_D_part_1 (by rw [c_68]; decide) (by rw [c_68]; decide) (by rw [c_68]; rfl) (by decide) ?_
        refine lv_aload_n hx hb d_D_part_42 rfl (lv_at hl 0 rfl) ?_
        refine va_get (D := D) (ci := 0) (v := .long (d_cents d)) (C := R_D) (T := F_D) (N := 15) hx hb hts (in_D _) hown hK hP k hU.o rfl 0 (by decide) (hts (.fieldLink R_D 9 "DebtRows$Debt" "cents" "J") (List.mem_cons_of_mem _ mB_208)) (fun _ h9 => h9) rfl d_D_part_43 ?_
        refine lv_aload_n hx hb d_D_part_46 rfl (lv_at hl 0 rfl) ?_
        refine va_get (D := D) (ci := 0) (v := .long (d_open d)) (C := R_D) (T := F_D) (N := 15) hx hb hts (in_D _) hown hK hP k hU.o rfl 8 (by decide) (hts (.fieldLink R_D 33 "DebtRows$Debt" "open" "J") (List.mem_cons_of_mem _ mB_221)) (fun _ h9 => h9) rfl d_D_part_47 ?_
        refine lv_lsub hx hb d_D_part_50 ?_
        refine lv_aload_n hx hb d_D_part_51 rfl (lv_at hl 0 rfl) ?_
        refine va_get (D := D) (ci := 0) (v := .long (d_lost d)) (C := R_D) (T := F_D) (N := 15) hx hb hts (in_D _) hown hK hP k hU.o rfl 9 (by decide) (hts (.fieldLink R_D 85 "DebtRows$Debt" "lost" "J") (List.mem_cons_of_mem _ mB_224)) (fun _ h9 => h9) rfl d_D_part_52 ?_
        refine lv_lsub hx hb d_D_part_55 ?_
        exact W.lret (v := ((d_cents d - d_open d) - d_lost d)) hx hb hr (fun t ht hW => ⟨_, rfl, by rw [f_part, if_neg c_66, if_neg c_67, if_pos c_68], ht⟩) t_nil d_D_part_56
      · rcases Decidable.em (wh = (3 : Int32)) with c_69 | c_69
        · refine lv_tableIn (tgt := 57) hx hb d_D_part_1 (by rw [c_69]; decide) (by rw [c_69]; decide) (by rw [c_69]; rfl) (by decide) ?_
          refine lv_aload_n hx hb d_D_part_57 rfl (lv_at hl 0 rfl) ?_
          refine va_get (D := D) (ci := 0) (v := .long (d_lost d)) (C := R_D) (T := F_D) (N := 15) hx hb hts (in_D _) hown hK hP k hU.o rfl 9 (by decide) (hts (.fieldLink R_D 85 "DebtRows$Debt" "lost" "J") (List.mem_cons_of_mem _ mB_224)) (fun _ h9 => h9) rfl d_D_part_58 ?_
          exact W.lret (v := d_lost d) hx hb hr (fun t ht hW => ⟨_, rfl, by rw [f_part, if_neg c_66, if_neg c_67, if_neg c_68, if_pos c_69], ht⟩) t_nil d_D_part_61
        · refine lv_tableOut (tgt := 62) hx hb d_D_part_1 (tsw4 c_66 c_67 c_68 c_69) (by decide) ?_
          refine lv_aload_n hx hb d_D_part_62 rfl (lv_at hl 0 rfl) ?_
          refine va_get (D := D) (ci := 0) (v := .long (d_paidI d)) (C := R_D) (T := F_D) (N := 15) hx hb hts (in_D _) hown hK hP k hU.o rfl 11 (by decide) (hts (.fieldLink R_D 73 "DebtRows$Debt" "paidInterest" "J") (List.mem_cons_of_mem _ mB_228)) (fun _ h9 => h9) rfl d_D_part_63 ?_
          exact W.lret (v := d_paidI d) hx hb hr (fun t ht hW => ⟨_, rfl, by rw [f_part, if_neg c_66, if_neg c_67, if_neg c_68, if_neg c_69], ht⟩) t_nil d_D_part_66
def f_R_latestDay (r : RT) : Int32 :=
  if 1 ≤ r_count r then ((r_from r) ((r_count r - 1)).toNatClampNeg)
  else 0
set_option maxHeartbeats 4000000 in
set_option maxRecDepth 100000 in
theorem c_R_latestDay (l : Launch) (D : va_G) (A : Nat → Prop) (w : va_W) (cI cL cD : ClassId) (k h0 fr up dn : Nat) (r : RT)  (hU0 : rAt w k cI h0 fr up dn r) (hwr : wfR r) : Met l y_S_latestDay w_S_latestDay ({ frames := 0, cells := 0, slots := 0, locals := 0 }) (mPc D w (tyL cI cL cD) A [.ref h0]) (vp_Si (fun z9 => z9 = f_R_latestDay r)) 0 0 (fun _ => False) := by
  refine Met.ofW (cc := b_S_latestDay) (maxL := 1) (ret := (some .int)) (by decide) rfl ?_
  intro p e s m args below meth c s₁ B hml hv
  obtain ⟨rfl, hP, hK, hD⟩ := hv
  have hx := B.exec
  have hb := B.bytes
  have hr := B.returns
  have hts := atoms_spec (ws := w_S_latestDay) B.pre
  have hown : s.vm.findClass R_S = some m.cls := findClass_of_methodNamed B.named
  have hlocks := B.notSynchronized
  have hS : va_S A s.heap s.heap [] := va_S.rf
  have hU : rUpd w w k cI h0 fr up dn r := rUpd.rf hU0
  have hl := lv_entry ([.ref h0]) (n := 1) (Nat.le_of_ble_eq_true rfl)
  rw [lg_entry_eq]
  generalize (lg_sl ([.ref h0]) ++ List.replicate (1 - (lg_sl ([.ref h0])).length) Slot.unset).toArray = ls at hl ⊢
  have hl : lv_has ls 1 [(0, .ref h0)] := hl
  refine lv_aload_n hx hb d_S_latestDay_0 rfl (lv_at hl 0 rfl) ?_
  refine va_get (D := D) (ci := 1) (v := .int (r_count r)) (C := R_S) (T := F_S) (N := 4) hx hb hts (in_S _) hown hK hP k hU.1.1 rfl 3 (by decide) (hts (.fieldLink R_S 21 "DebtRows$Rates" "count" "I") (List.mem_cons_of_mem _ mB_44)) (fun _ h9 => h9) rfl d_S_latestDay_1 ?_
  refine lv_iconst (v := 1) hx hb d_S_latestDay_4 (by decide) ?_
  refine lv_icmp_ge (tgt := 12) hx hb d_S_latestDay_5 (by decide) (fun c_70 => ?_) (fun c_70 => ?_)
  · refine lv_aload_n hx hb d_S_latestDay_12 rfl (lv_at hl 0 rfl) ?_
    refine va_get (D := D) (ci := 1) (v := .ref fr) (C := R_S) (T := F_S) (N := 4) hx hb hts (in_S _) hown hK hP k hU.1.1 rfl 0 (by decide) (hts (.fieldLink R_S 9 "DebtRows$Rates" "from" "[I") (List.mem_cons_of_mem _ mB_41)) (fun _ h9 => h9) rfl d_S_latestDay_13 ?_
    refine lv_aload_n hx hb d_S_latestDay_16 rfl (lv_at hl 0 rfl) ?_
    refine va_get (D := D) (ci := 1) (v := .int (r_count r)) (C := R_S) (T := F_S) (N := 4) hx hb hts (in_S _) hown hK hP k hU.1.1 rfl 3 (by decide) (hts (.fieldLink R_S 21 "DebtRows$Rates" "count" "I") (List.mem_cons_of_mem _ mB_44)) (fun _ h9 => h9) rfl d_S_latestDay_17 ?_
    refine lv_iconst (v := 1) hx hb d_S_latestDay_20 (by decide) ?_
    refine lv_isub hx hb d_S_latestDay_21 ?_
    refine va_iald hx hb hK hP (k + 1) 0 hU.1.2.1 rfl (in_last hwr c_70) d_S_latestDay_22 ?_
    exact W.iret (v := ((r_from r) ((r_count r - 1)).toNatClampNeg)) hx hb hr (fun t ht hW => ⟨_, rfl, by rw [f_R_latestDay, if_pos c_70], ht⟩) t_nil d_S_latestDay_23
  · refine lv_iconst (v := 0) hx hb d_S_latestDay_8 (by decide) ?_
    refine lv_goto (tgt := 23) hx hb d_S_latestDay_9 (by decide) ?_
    exact W.iret (v := 0) hx hb hr (fun t ht hW => ⟨_, rfl, by rw [f_R_latestDay, if_neg c_70], ht⟩) t_nil d_S_latestDay_23
def f_R_append (r : RT) (a1 : Int32) (a2 : Int32) (a3 : Int32) : RT :=
  if r_count r < 20 then (q_count (q_down (q_up (q_from r (upd (r_from r) (r_count r).toNatClampNeg (a1))) (upd (r_up r) (r_count r).toNatClampNeg (a2))) (upd (r_down r) (r_count r).toNatClampNeg (a3))) ((r_count r + 1)))
  else r
set_option maxHeartbeats 4000000 in
set_option maxRecDepth 100000 in
theorem c_R_append (l : Launch) (D : va_G) (A : Nat → Prop) (w : va_W) (cI cL cD : ClassId) (k h0 fr up dn : Nat) (r : RT) (a1 : Int32) (a2 : Int32) (a3 : Int32) (hU0 : rAt w k cI h0 fr up dn r) (hwr : wfR r) : Met l y_S_append w_S_append ({ frames := 0, cells := 0, slots := 0, locals := 0 }) (mPc D w (tyL cI cL cD) A [.ref h0, .int (a1), .int (a2), .int (a3)]) (va_Qv (fun _ : Unit => True) (fun (_ : Unit) t => ∃ w9 : va_W, va_P D vwCl w9 t.heap ∧ va_D A w9 ∧ rUpd w w9 k cI h0 fr up dn (f_R_append r a1 a2 a3)) A) 0 0 A := by
  refine Met.ofW (cc := b_S_append) (maxL := 4) (ret := none) (by decide) rfl ?_
  intro p e s m args below meth c s₁ B hml hv
  obtain ⟨rfl, hP, hK, hD⟩ := hv
  have hx := B.exec
  have hb := B.bytes
  have hr := B.returns
  have hts := atoms_spec (ws := w_S_append) B.pre
  have hown : s.vm.findClass R_S = some m.cls := findClass_of_methodNamed B.named
  have hlocks := B.notSynchronized
  have hS : va_S A s.heap s.heap [] := va_S.rf
  have hU : rUpd w w k cI h0 fr up dn r := rUpd.rf hU0
  have hl := lv_entry ([.ref h0, .int (a1), .int (a2), .int (a3)]) (n := 4) (Nat.le_of_ble_eq_true rfl)
  rw [lg_entry_eq]
  generalize (lg_sl ([.ref h0, .int (a1), .int (a2), .int (a3)]) ++ List.replicate (4 - (lg_sl ([.ref h0, .int (a1), .int (a2), .int (a3)])).length) Slot.unset).toArray = ls at hl ⊢
  have hl : lv_has ls 4 [(0, .ref h0), (1, .int (a1)), (2, .int (a2)), (3, .int (a3))] := hl
  refine lv_aload_n hx hb d_S_append_0 rfl (lv_at hl 0 rfl) ?_
  refine va_get (D := D) (ci := 1) (v := .int (r_count r)) (C := R_S) (T := F_S) (N := 4) hx hb hts (in_S _) hown hK hP k hU.1.1 rfl 3 (by decide) (hts (.fieldLink R_S 21 "DebtRows$Rates" "count" "I") (List.mem_cons_of_mem _ mB_44)) (fun _ h9 => h9) rfl d_S_append_1 ?_
  refine lv_bipush (v := 20) hx hb d_S_append_4 (by decide) ?_
  refine lv_icmp_lt (tgt := 10) hx hb d_S_append_6 (by decide) (fun c_71 => ?_) (fun c_71 => ?_)
  · refine lv_aload_n hx hb d_S_append_10 rfl (lv_at hl 0 rfl) ?_
    refine va_get (D := D) (ci := 1) (v := .ref fr) (C := R_S) (T := F_S) (N := 4) hx hb hts (in_S _) hown hK hP k hU.1.1 rfl 0 (by decide) (hts (.fieldLink R_S 9 "DebtRows$Rates" "from" "[I") (List.mem_cons_of_mem _ mB_41)) (fun _ h9 => h9) rfl d_S_append_11 ?_
    refine lv_aload_n hx hb d_S_append_14 rfl (lv_at hl 0 rfl) ?_
    refine va_get (D := D) (ci := 1) (v := .int (r_count r)) (C := R_S) (T := F_S) (N := 4) hx hb hts (in_S _) hown hK hP k hU.1.1 rfl 3 (by decide) (hts (.fieldLink R_S 21 "DebtRows$Rates" "count" "I") (List.mem_cons_of_mem _ mB_44)) (fun _ h9 => h9) rfl d_S_append_15 ?_
    refine lv_iload_n hx hb d_S_append_18 rfl (lv_at hl 1 rfl) ?_
    refine va_iast hx hb hK hP hD hS (k + 1) 0 hU.1.2.1 rfl (in_count hwr c_71) d_S_append_19 (fun H locs hP hD hS => ?_)
    have hU := hU.s1 (upd (r_from r) (r_count r).toNatClampNeg (a1))
    have hP : va_P D vwCl (w.set (k + 1) (fr, aI cI 20 (upd (r_from r) (r_count r).toNatClampNeg (a1)))) H := hP
    have hD : va_D A (w.set (k + 1) (fr, aI cI 20 (upd (r_from r) (r_count r).toNatClampNeg (a1)))) := hD
    generalize w.set (k + 1) (fr, aI cI 20 (upd (r_from r) (r_count r).toNatClampNeg (a1))) = w_72 at hP hD hU
    refine lv_aload_n hx hb d_S_append_20 rfl (lv_at hl 0 rfl) ?_
    refine va_get (D := D) (ci := 1) (v := .ref up) (C := R_S) (T := F_S) (N := 4) hx hb hts (in_S _) hown hK hP k hU.1.1 rfl 1 (by decide) (hts (.fieldLink R_S 15 "DebtRows$Rates" "up" "[I") (List.mem_cons_of_mem _ mB_42)) (fun _ h9 => h9) rfl d_S_append_21 ?_
    refine lv_aload_n hx hb d_S_append_24 rfl (lv_at hl 0 rfl) ?_
    refine va_get (D := D) (ci := 1) (v := .int (r_count r)) (C := R_S) (T := F_S) (N := 4) hx hb hts (in_S _) hown hK hP k hU.1.1 rfl 3 (by decide) (hts (.fieldLink R_S 21 "DebtRows$Rates" "count" "I") (List.mem_cons_of_mem _ mB_44)) (fun _ h9 => h9) rfl d_S_append_25 ?_
    refine lv_iload_n hx hb d_S_append_28 rfl (lv_at hl 2 rfl) ?_
    refine va_iast hx hb hK hP hD hS (k + 2) 0 hU.1.2.2.1 rfl (in_count hwr c_71) d_S_append_29 (fun H locs hP hD hS => ?_)
    have hU := hU.s2 (upd (r_up r) (r_count r).toNatClampNeg (a2))
    have hP : va_P D vwCl (w_72.set (k + 2) (up, aI cI 20 (upd (r_up r) (r_count r).toNatClampNeg (a2)))) H := hP
    have hD : va_D A (w_72.set (k + 2) (up, aI cI 20 (upd (r_up r) (r_count r).toNatClampNeg (a2)))) := hD
    generalize w_72.set (k + 2) (up, aI cI 20 (upd (r_up r) (r_count r).toNatClampNeg (a2))) = w_73 at hP hD hU
    refine lv_aload_n hx hb d_S_append_30 rfl (lv_at hl 0 rfl) ?_
    refine va_get (D := D) (ci := 1) (v := .ref dn) (C := R_S) (T := F_S) (N := 4) hx hb hts (in_S _) hown hK hP k hU.1.1 rfl 2 (by decide) (hts (.fieldLink R_S 18 "DebtRows$Rates" "down" "[I") (List.mem_cons_of_mem _ mB_43)) (fun _ h9 => h9) rfl d_S_append_31 ?_
    refine lv_aload_n hx hb d_S_append_34 rfl (lv_at hl 0 rfl) ?_
    refine va_get (D := D) (ci := 1) (v := .int (r_count r)) (C := R_S) (T := F_S) (N := 4) hx hb hts (in_S _) hown hK hP k hU.1.1 rfl 3 (by decide) (hts (.fieldLink R_S 21 "DebtRows$Rates" "count" "I") (List.mem_cons_of_mem _ mB_44)) (fun _ h9 => h9) rfl d_S_append_35 ?_
    refine lv_iload_n hx hb d_S_append_38 rfl (lv_at hl 3 rfl) ?_
    refine va_iast hx hb hK hP hD hS (k + 3) 0 hU.1.2.2.2 rfl (in_count hwr c_71) d_S_append_39 (fun H locs hP hD hS => ?_)
    have hU := hU.s3 (upd (r_down r) (r_count r).toNatClampNeg (a3))
    have hP : va_P D vwCl (w_73.set (k + 3) (dn, aI cI 20 (upd (r_down r) (r_count r).toNatClampNeg (a3)))) H := hP
    have hD : va_D A (w_73.set (k + 3) (dn, aI cI 20 (upd (r_down r) (r_count r).toNatClampNeg (a3)))) := hD
    generalize w_73.set (k + 3) (dn, aI cI 20 (upd (r_down r) (r_count r).toNatClampNeg (a3))) = w_74 at hP hD hU
    refine lv_aload_n hx hb d_S_append_40 rfl (lv_at hl 0 rfl) ?_
    refine lv_dup hx hb d_S_append_41 rfl ?_
    refine va_get (D := D) (ci := 1) (v := .int (r_count r)) (C := R_S) (T := F_S) (N := 4) hx hb hts (in_S _) hown hK hP k hU.1.1 rfl 3 (by decide) (hts (.fieldLink R_S 21 "DebtRows$Rates" "count" "I") (List.mem_cons_of_mem _ mB_44)) (fun _ h9 => h9) rfl d_S_append_42 ?_
    refine lv_iconst (v := 1) hx hb d_S_append_45 (by decide) ?_
    refine lv_iadd hx hb d_S_append_46 ?_
    refine va_put (D := D) (ci := 1) (v := .int ((r_count r + 1))) (ty := .int) (C := R_S) (T := F_S) (N := 4) hx hb hts (in_S _) t_S to_S nn_S hown hK hP hD hS k hU.1.1 rfl 3 (by decide) (hts (.fieldLink R_S 21 "DebtRows$Rates" "count" "I") (List.mem_cons_of_mem _ mB_44)) (fun _ h9 => h9) rfl (by decide +kernel) rfl rfl (Nat.le_of_ble_eq_true rfl) d_S_append_47 (fun H locs hP hD hS => ?_)
    have hU := hU.so ((r_count r + 1))
    have hP : va_P D vwCl (w_74.set k (h0, rE fr up dn (q_count (q_down (q_up (q_from r (upd (r_from r) (r_count r).toNatClampNeg (a1))) (upd (r_up r) (r_count r).toNatClampNeg (a2))) (upd (r_down r) (r_count r).toNatClampNeg (a3))) ((r_count r + 1))))) H := hP
    have hD : va_D A (w_74.set k (h0, rE fr up dn (q_count (q_down (q_up (q_from r (upd (r_from r) (r_count r).toNatClampNeg (a1))) (upd (r_up r) (r_count r).toNatClampNeg (a2))) (upd (r_down r) (r_count r).toNatClampNeg (a3))) ((r_count r + 1))))) := hD
    generalize w_74.set k (h0, rE fr up dn (q_count (q_down (q_up (q_from r (upd (r_from r) (r_count r).toNatClampNeg (a1))) (upd (r_up r) (r_count r).toNatClampNeg (a2))) (upd (r_down r) (r_count r).toNatClampNeg (a3))) ((r_count r + 1)))) = w_75 at hP hD hU
    exact W.vret hx hb hr (fun t ht hW => ⟨⟨(), rfl, trivial, w_75, by rw [ht]; exact hP, hD, by rw [f_R_append, if_pos c_71]; exact hU⟩, hS.F ht⟩) hS.2.2 d_S_append_50
  · exact W.vret hx hb hr (fun t ht hW => ⟨⟨(), rfl, trivial, w, by rw [ht]; exact hP, hD, by rw [f_R_append, if_neg c_71]; exact hU⟩, hS.F ht⟩) hS.2.2 d_S_append_9
def inS (r : RT) (op : Int64) (be ut : Int32) (i : Nat) (t0 : Int64) : Int64 :=
  if r_count r ≤ (nI i + 1) then (if ut < (iMax (((r_from r) i)) ((be + 1))) then t0
    else if ((r_down r) i) ≤ 0 then t0
      else (t0 + (((op * (((ut - (iMax (((r_from r) i)) ((be + 1)))) + 1) : Int32).toInt64) * (((r_up r) i) : Int32).toInt64) / ((((r_down r) i) : Int32).toInt64 * 365))))
  else if (iMin (ut) ((((r_from r) (i + 1)) - 1))) < (iMax (((r_from r) i)) ((be + 1))) then t0
    else if ((r_down r) i) ≤ 0 then t0
      else (t0 + (((op * ((((iMin (ut) ((((r_from r) (i + 1)) - 1))) - (iMax (((r_from r) i)) ((be + 1)))) + 1) : Int32).toInt64) * (((r_up r) i) : Int32).toInt64) / ((((r_down r) i) : Int32).toInt64 * 365)))
def inL (r : RT) (op : Int64) (be ut : Int32) : Nat → Nat → Int64 → Int64
  | _, 0, t => t
  | i, n + 1, t => inL r op be ut (i + 1) n (inS r op be ut i t)
theorem inL_s (r : RT) (op : Int64) (be ut : Int32) (i n : Nat) (t : Int64) : inL r op be ut i (n + 1) t = inL r op be ut (i + 1) n (inS r op be ut i t) := rfl
def f_R_interest (r : RT) (op : Int64) (be ut : Int32) : Int64 := inL r op be ut 0 (r_count r).toNatClampNeg 0
set_option maxHeartbeats 4000000 in
set_option maxRecDepth 100000 in
theorem c_R_interest (l : Launch) (D : va_G) (A : Nat → Prop) (w : va_W) (cI cL cD : ClassId) (k h0 fr up dn : Nat) (r : RT) (op : Int64) (be : Int32) (ut : Int32) (hU0 : rAt w k cI h0 fr up dn r) (hwr : wfR r) : Met l y_S_interest w_S_interest ({ frames := 1, cells := 0, slots := 0, locals := 24 }) (mPc D w (tyL cI cL cD) A [.ref h0, .long (op), .int (be), .int (ut)]) (vp_Sl (fun z9 => z9 = f_R_interest r op be ut)) 0 0 (fun _ => False) := by
  refine Met.ofW (cc := b_S_interest) (maxL := 12) (ret := (some .long)) (by decide) rfl ?_
  intro p e s m args below meth c s₁ B hml hv
  obtain ⟨rfl, hP, hK, hD⟩ := hv
  have hx := B.exec
  have hb := B.bytes
  have hr := B.returns
  have hts := atoms_spec (ws := w_S_interest) B.pre
  have hown : s.vm.findClass R_S = some m.cls := findClass_of_methodNamed B.named
  have hlocks := B.notSynchronized
  have hS : va_S A s.heap s.heap [] := va_S.rf
  have hU : rUpd w w k cI h0 fr up dn r := rUpd.rf hU0
  have hl := lv_entry ([.ref h0, .long (op), .int (be), .int (ut)]) (n := 12) (Nat.le_of_ble_eq_true rfl)
  rw [lg_entry_eq]
  generalize (lg_sl ([.ref h0, .long (op), .int (be), .int (ut)]) ++ List.replicate (12 - (lg_sl ([.ref h0, .long (op), .int (be), .int (ut)])).length) Slot.unset).toArray = ls at hl ⊢
  have hl : lv_has ls 12 [(0, .ref h0), (1, .long (op)), (3, .int (be)), (4, .int (ut))] := hl
  refine lv_lconst (v := 0) hx hb d_S_interest_0 (by decide) ?_
  refine lv_lstore (lv' := [(5, .long (0)), (0, .ref h0), (1, .long (op)), (3, .int (be)), (4, .int (ut))]) hx hb d_S_interest_1 hl (by decide) rfl (fun ls hl => ?_)
  refine lv_iconst (v := 0) hx hb d_S_interest_3 (by decide) ?_
  refine lv_istore (lv' := [(7, .int (0)), (5, .long (0)), (0, .ref h0), (1, .long (op)), (3, .int (be)), (4, .int (ut))]) hx hb d_S_interest_4 hl (by decide) rfl (fun ls hl => ?_)
  obtain ⟨mm, hmm, em⟩ := id hwr
  have loop : ∀ (n i : Nat) (t0 : Int64), i + n = mm → inL r op be ut i n t0 = f_R_interest r op be ut → ∀ (ls : Array Slot), lv_has ls 12 [(7, .int (nI i)), (5, .long (t0)), (0, .ref h0), (1, .long (op)), (3, .int (be)), (4, .int (ut))] → W p l e (headSpec w_S_interest ({ frames := 1, cells := 0, slots := 0, locals := 24 })).room s m [.ref h0, .long (op), .int (be), .int (ut)].toArray below meth c s.heap [] 0 0 (MQ below (vp_Sl (fun z9 => z9 = f_R_interest r op be ut)) [.ref h0, .long (op), .int (be), .int (ut)].toArray s 0 0 (fun _ => False)) (F0 m 6 ls []) := by
    intro n
    induction n with
    | zero =>
      intro i t0 hin hv ls hl
      refine lv_iload hx hb d_S_interest_6 (lv_at hl 0 rfl) ?_
      refine lv_aload_n hx hb d_S_interest_8 rfl (lv_at hl 2 rfl) ?_
      refine va_get (D := D) (ci := 1) (v := .int (r_count r)) (C := R_S) (T := F_S) (N := 4) hx hb hts (in_S _) hown hK hP k hU.1.1 rfl 3 (by decide) (hts (.fieldLink R_S 21 "DebtRows$Rates" "count" "I") (List.mem_cons_of_mem _ mB_44)) (fun _ h9 => h9) rfl d_S_interest_9 ?_
      refine lv_icmp_ge (tgt := 128) hx hb d_S_interest_12 (by decide) (fun c_76 => ?_) (fun c_76 => ?_)
      · refine lv_lload hx hb d_S_interest_128 (lv_at hl 1 rfl) ?_
        exact W.lret (v := t0) hx hb hr (fun t ht hW => ⟨_, rfl, by rw [← hv]; rfl, ht⟩) t_nil d_S_interest_130
      · exact absurd (by rw [em]; exact nI_le (by omega) (by omega)) c_76
    | succ n ih =>
      intro i t0 hin hv ls hl
      refine lv_iload hx hb d_S_interest_6 (lv_at hl 0 rfl) ?_
      refine lv_aload_n hx hb d_S_interest_8 rfl (lv_at hl 2 rfl) ?_
      refine va_get (D := D) (ci := 1) (v := .int (r_count r)) (C := R_S) (T := F_S) (N := 4) hx hb hts (in_S _) hown hK hP k hU.1.1 rfl 3 (by decide) (hts (.fieldLink R_S 21 "DebtRows$Rates" "count" "I") (List.mem_cons_of_mem _ mB_44)) (fun _ h9 => h9) rfl d_S_interest_9 ?_
      refine lv_icmp_ge (tgt := 128) hx hb d_S_interest_12 (by decide) (fun c_77 => ?_) (fun c_77 => ?_)
      · exact absurd c_77 (by rw [em]; exact nI_ge (by omega) (by omega))
      · refine lv_aload_n hx hb d_S_interest_15 rfl (lv_at hl 2 rfl) ?_
        refine va_get (D := D) (ci := 1) (v := .ref fr) (C := R_S) (T := F_S) (N := 4) hx hb hts (in_S _) hown hK hP k hU.1.1 rfl 0 (by decide) (hts (.fieldLink R_S 9 "DebtRows$Rates" "from" "[I") (List.mem_cons_of_mem _ mB_41)) (fun _ h9 => h9) rfl d_S_interest_16 ?_
        refine lv_iload hx hb d_S_interest_19 (lv_at hl 0 rfl) ?_
        refine va_iald hx hb hK hP (k + 1) 0 hU.1.2.1 rfl (vp_in_nI (by omega) (by omega)) d_S_interest_21 ?_
        rw [nI_clamp (by omega)]
        refine lv_iload_n hx hb d_S_interest_22 rfl (lv_at hl 4 rfl) ?_
        refine lv_iconst (v := 1) hx hb d_S_interest_23 (by decide) ?_
        refine lv_iadd hx hb d_S_interest_24 ?_
        refine va_mmax (own := R_S) (index := 25) hx hb (hml.trans hl.1.symm) hown (hts (.methodLink R_S 25 Lib.Math.max.name) (List.mem_cons_of_mem _ mB_291)) (hts (.static Lib.Math.max.name) (List.mem_cons_of_mem _ mB_266)) (hts (.initialized "java/lang/Math") (List.mem_cons_of_mem _ mB_25)) (hts _ (List.mem_cons_of_mem _ mC_max)) (Nat.le_of_ble_eq_true rfl) (Nat.le_of_ble_eq_true rfl) (Nat.le_of_ble_eq_true rfl) (Nat.le_of_ble_eq_true rfl) d_S_interest_25 ?_
        refine lv_topi (fun v_78 ev_78 => ?_)
        have ev_78 : v_78 = iMax (((r_from r) i)) ((be + 1)) := ev_78
        subst ev_78
        refine lv_istore (lv' := [(8, .int ((iMax (((r_from r) i)) ((be + 1))))), (7, .int (nI i)), (5, .long (t0)), (0, .ref h0), (1, .long (op)), (3, .int (be)), (4, .int (ut))]) hx hb d_S_interest_28 hl (by decide) rfl (fun ls hl => ?_)
        refine lv_iload hx hb d_S_interest_30 (lv_at hl 1 rfl) ?_
        refine lv_iconst (v := 1) hx hb d_S_interest_32 (by decide) ?_
        refine lv_iadd hx hb d_S_interest_33 ?_
        refine lv_aload_n hx hb d_S_interest_34 rfl (lv_at hl 3 rfl) ?_
        refine va_get (D := D) (ci := 1) (v := .int (r_count r)) (C := R_S) (T := F_S) (N := 4) hx hb hts (in_S _) hown hK hP k hU.1.1 rfl 3 (by decide) (hts (.fieldLink R_S 21 "DebtRows$Rates" "count" "I") (List.mem_cons_of_mem _ mB_44)) (fun _ h9 => h9) rfl d_S_interest_35 ?_
        refine lv_icmp_ge (tgt := 60) hx hb d_S_interest_38 (by decide) (fun c_79 => ?_) (fun c_79 => ?_)
        · refine lv_iload hx hb d_S_interest_60 (lv_at hl 6 rfl) ?_
          refine lv_istore (lv' := [(9, .int (ut)), (8, .int ((iMax (((r_from r) i)) ((be + 1))))), (7, .int (nI i)), (5, .long (t0)), (0, .ref h0), (1, .long (op)), (3, .int (be)), (4, .int (ut))]) hx hb d_S_interest_62 hl (by decide) rfl (fun ls hl => ?_)
          refine lv_iload hx hb d_S_interest_64 (lv_at hl 1 rfl) ?_
          refine lv_iload hx hb d_S_interest_66 (lv_at hl 0 rfl) ?_
          refine lv_icmp_gt (tgt := 122) hx hb d_S_interest_68 (by decide) (fun c_80 => ?_) (fun c_80 => ?_)
          · refine lv_iinc (v := nI (i + 1)) (lv' := [(7, .int (nI (i + 1))), (9, .int (ut)), (8, .int ((iMax (((r_from r) i)) ((be + 1))))), (5, .long (t0)), (0, .ref h0), (1, .long (op)), (3, .int (be)), (4, .int (ut))]) hx hb d_S_interest_122 hl (k := 2) rfl (nI_inc i) (by decide) rfl (fun ls hl => ?_)
            refine lv_goto (tgt := 6) hx hb d_S_interest_125 (by decide) ?_
            exact ih (i + 1) (t0) (by omega) (by rw [← hv, inL_s, inS, if_pos c_79, if_pos c_80]) ls (lv_sub hl [0, 3, 4, 5, 6, 7] rfl)
          · refine lv_aload_n hx hb d_S_interest_71 rfl (lv_at hl 4 rfl) ?_
            refine va_get (D := D) (ci := 1) (v := .ref dn) (C := R_S) (T := F_S) (N := 4) hx hb hts (in_S _) hown hK hP k hU.1.1 rfl 2 (by decide) (hts (.fieldLink R_S 18 "DebtRows$Rates" "down" "[I") (List.mem_cons_of_mem _ mB_43)) (fun _ h9 => h9) rfl d_S_interest_72 ?_
            refine lv_iload hx hb d_S_interest_75 (lv_at hl 2 rfl) ?_
            refine va_iald hx hb hK hP (k + 3) 0 hU.1.2.2.2 rfl (vp_in_nI (by omega) (by omega)) d_S_interest_77 ?_
            rw [nI_clamp (by omega)]
            refine lv_if_le (tgt := 122) hx hb d_S_interest_78 (by decide) (fun c_81 => ?_) (fun c_81 => ?_)
            · refine lv_iinc (v := nI (i + 1)) (lv' := [(7, .int (nI (i + 1))), (9, .int (ut)), (8, .int ((iMax (((r_from r) i)) ((be + 1))))), (5, .long (t0)), (0, .ref h0), (1, .long (op)), (3, .int (be)), (4, .int (ut))]) hx hb d_S_interest_122 hl (k := 2) rfl (nI_inc i) (by decide) rfl (fun ls hl => ?_)
              refine lv_goto (tgt := 6) hx hb d_S_interest_125 (by decide) ?_
              exact ih (i + 1) (t0) (by omega) (by rw [← hv, inL_s, inS, if_pos c_79, if_neg c_80, if_pos c_81]) ls (lv_sub hl [0, 3, 4, 5, 6, 7] rfl)
            · refine lv_iload hx hb d_S_interest_81 (lv_at hl 0 rfl) ?_
              refine lv_iload hx hb d_S_interest_83 (lv_at hl 1 rfl) ?_
              refine lv_isub hx hb d_S_interest_85 ?_
              refine lv_iconst (v := 1) hx hb d_S_interest_86 (by decide) ?_
              refine lv_iadd hx hb d_S_interest_87 ?_
              refine lv_i2l hx hb d_S_interest_88 rfl ?_
              refine lv_lstore (lv' := [(10, .long ((((ut - (iMax (((r_from r) i)) ((be + 1)))) + 1) : Int32).toInt64)), (9, .int (ut)), (8, .int ((iMax (((r_from r) i)) ((be + 1))))), (7, .int (nI i)), (5, .long (t0)), (0, .ref h0), (1, .long (op)), (3, .int (be)), (4, .int (ut))]) hx hb d_S_interest_89 hl (by decide) rfl (fun ls hl => ?_)
              refine lv_lload hx hb d_S_interest_91 (lv_at hl 4 rfl) ?_
              refine lv_lload_n hx hb d_S_interest_93 rfl (lv_at hl 6 rfl) ?_
              refine lv_lload hx hb d_S_interest_94 (lv_at hl 0 rfl) ?_
              refine lv_lmul hx hb d_S_interest_96 ?_
              refine lv_aload_n hx hb d_S_interest_97 rfl (lv_at hl 5 rfl) ?_
              refine va_get (D := D) (ci := 1) (v := .ref up) (C := R_S) (T := F_S) (N := 4) hx hb hts (in_S _) hown hK hP k hU.1.1 rfl 1 (by decide) (hts (.fieldLink R_S 15 "DebtRows$Rates" "up" "[I") (List.mem_cons_of_mem _ mB_42)) (fun _ h9 => h9) rfl d_S_interest_98 ?_
              refine lv_iload hx hb d_S_interest_101 (lv_at hl 3 rfl) ?_
              refine va_iald hx hb hK hP (k + 2) 0 hU.1.2.2.1 rfl (vp_in_nI (by omega) (by omega)) d_S_interest_103 ?_
              rw [nI_clamp (by omega)]
              refine lv_i2l hx hb d_S_interest_104 rfl ?_
              refine lv_lmul hx hb d_S_interest_105 ?_
              refine lv_aload_n hx hb d_S_interest_106 rfl (lv_at hl 5 rfl) ?_
              refine va_get (D := D) (ci := 1) (v := .ref dn) (C := R_S) (T := F_S) (N := 4) hx hb hts (in_S _) hown hK hP k hU.1.1 rfl 2 (by decide) (hts (.fieldLink R_S 18 "DebtRows$Rates" "down" "[I") (List.mem_cons_of_mem _ mB_43)) (fun _ h9 => h9) rfl d_S_interest_107 ?_
              refine lv_iload hx hb d_S_interest_110 (lv_at hl 3 rfl) ?_
              refine va_iald hx hb hK hP (k + 3) 0 hU.1.2.2.2 rfl (vp_in_nI (by omega) (by omega)) d_S_interest_112 ?_
              rw [nI_clamp (by omega)]
              refine lv_i2l hx hb d_S_interest_113 rfl ?_
              refine lv_ldc2 (own := R_S) (index := 34) (v := 365) hx hb hown (hts (.constantLong R_S 34 (365)) (List.mem_cons_of_mem _ mB_295)) d_S_interest_114 ?_
              refine lv_lmul hx hb d_S_interest_117 ?_
              refine lv_ldiv hx hb d_S_interest_118 (n365 c_81) ?_
              refine lv_ladd hx hb d_S_interest_119 ?_
              refine lv_lstore (lv' := [(5, .long ((t0 + (((op * (((ut - (iMax (((r_from r) i)) ((be + 1)))) + 1) : Int32).toInt64) * (((r_up r) i) : Int32).toInt64) / ((((r_down r) i) : Int32).toInt64 * 365))))), (10, .long ((((ut - (iMax (((r_from r) i)) ((be + 1)))) + 1) : Int32).toInt64)), (9, .int (ut)), (8, .int ((iMax (((r_from r) i)) ((be + 1))))), (7, .int (nI i)), (0, .ref h0), (1, .long (op)), (3, .int (be)), (4, .int (ut))]) hx hb d_S_interest_120 hl (by decide) rfl (fun ls hl => ?_)
              refine lv_iinc (v := nI (i + 1)) (lv' := [(7, .int (nI (i + 1))), (5, .long ((t0 + (((op * (((ut - (iMax (((r_from r) i)) ((be + 1)))) + 1) : Int32).toInt64) * (((r_up r) i) : Int32).toInt64) / ((((r_down r) i) : Int32).toInt64 * 365))))), (10, .long ((((ut - (iMax (((r_from r) i)) ((be + 1)))) + 1) : Int32).toInt64)), (9, .int (ut)), (8, .int ((iMax (((r_from r) i)) ((be + 1))))), (0, .ref h0), (1, .long (op)), (3, .int (be)), (4, .int (ut))]) hx hb d_S_interest_122 hl (k := 4) rfl (nI_inc i) (by decide) rfl (fun ls hl => ?_)
              refine lv_goto (tgt := 6) hx hb d_S_interest_125 (by decide) ?_
              exact ih (i + 1) ((t0 + (((op * (((ut - (iMax (((r_from r) i)) ((be + 1)))) + 1) : Int32).toInt64) * (((r_up r) i) : Int32).toInt64) / ((((r_down r) i) : Int32).toInt64 * 365)))) (by omega) (by rw [← hv, inL_s, inS, if_pos c_79, if_neg c_80, if_neg c_81]) ls (lv_sub hl [0, 1, 5, 6, 7, 8] rfl)
        · refine lv_iload hx hb d_S_interest_41 (lv_at hl 6 rfl) ?_
          refine lv_aload_n hx hb d_S_interest_43 rfl (lv_at hl 3 rfl) ?_
          refine va_get (D := D) (ci := 1) (v := .ref fr) (C := R_S) (T := F_S) (N := 4) hx hb hts (in_S _) hown hK hP k hU.1.1 rfl 0 (by decide) (hts (.fieldLink R_S 9 "DebtRows$Rates" "from" "[I") (List.mem_cons_of_mem _ mB_41)) (fun _ h9 => h9) rfl d_S_interest_44 ?_
          refine lv_iload hx hb d_S_interest_47 (lv_at hl 1 rfl) ?_
          refine lv_iconst (v := 1) hx hb d_S_interest_49 (by decide) ?_
          refine lv_iadd hx hb d_S_interest_50 ?_
          refine va_iald hx hb hK hP (k + 1) 0 hU.1.2.1 rfl (in_next em hmm (by omega) c_79) d_S_interest_51 ?_
          rw [show (nI i + 1).toNatClampNeg = i + 1 from by rw [nI_1, nI_clamp (by omega)]]
          refine lv_iconst (v := 1) hx hb d_S_interest_52 (by decide) ?_
          refine lv_isub hx hb d_S_interest_53 ?_
          refine va_mmin (own := R_S) (index := 31) hx hb (hml.trans hl.1.symm) hown (hts (.methodLink R_S 31 Lib.Math.min.name) (List.mem_cons_of_mem _ mB_292)) (hts (.static Lib.Math.min.name) (List.mem_cons_of_mem _ mB_293)) (hts (.initialized "java/lang/Math") (List.mem_cons_of_mem _ mB_25)) (hts _ (List.mem_cons_of_mem _ mC_min)) (Nat.le_of_ble_eq_true rfl) (Nat.le_of_ble_eq_true rfl) (Nat.le_of_ble_eq_true rfl) (Nat.le_of_ble_eq_true rfl) d_S_interest_54 ?_
          refine lv_topi (fun v_82 ev_82 => ?_)
          have ev_82 : v_82 = iMin (ut) ((((r_from r) (i + 1)) - 1)) := ev_82
          subst ev_82
          refine lv_goto (tgt := 62) hx hb d_S_interest_57 (by decide) ?_
          refine lv_istore (lv' := [(9, .int ((iMin (ut) ((((r_from r) (i + 1)) - 1))))), (8, .int ((iMax (((r_from r) i)) ((be + 1))))), (7, .int (nI i)), (5, .long (t0)), (0, .ref h0), (1, .long (op)), (3, .int (be)), (4, .int (ut))]) hx hb d_S_interest_62 hl (by decide) rfl (fun ls hl => ?_)
          refine lv_iload hx hb d_S_interest_64 (lv_at hl 1 rfl) ?_
          refine lv_iload hx hb d_S_interest_66 (lv_at hl 0 rfl) ?_
          refine lv_icmp_gt (tgt := 122) hx hb d_S_interest_68 (by decide) (fun c_83 => ?_) (fun c_83 => ?_)
          · refine lv_iinc (v := nI (i + 1)) (lv' := [(7, .int (nI (i + 1))), (9, .int ((iMin (ut) ((((r_from r) (i + 1)) - 1))))), (8, .int ((iMax (((r_from r) i)) ((be + 1))))), (5, .long (t0)), (0, .ref h0), (1, .long (op)), (3, .int (be)), (4, .int (ut))]) hx hb d_S_interest_122 hl (k := 2) rfl (nI_inc i) (by decide) rfl (fun ls hl => ?_)
            refine lv_goto (tgt := 6) hx hb d_S_interest_125 (by decide) ?_
            exact ih (i + 1) (t0) (by omega) (by rw [← hv, inL_s, inS, if_neg c_79, if_pos c_83]) ls (lv_sub hl [0, 3, 4, 5, 6, 7] rfl)
          · refine lv_aload_n hx hb d_S_interest_71 rfl (lv_at hl 4 rfl) ?_
            refine va_get (D := D) (ci := 1) (v := .ref dn) (C := R_S) (T := F_S) (N := 4) hx hb hts (in_S _) hown hK hP k hU.1.1 rfl 2 (by decide) (hts (.fieldLink R_S 18 "DebtRows$Rates" "down" "[I") (List.mem_cons_of_mem _ mB_43)) (fun _ h9 => h9) rfl d_S_interest_72 ?_
            refine lv_iload hx hb d_S_interest_75 (lv_at hl 2 rfl) ?_
            refine va_iald hx hb hK hP (k + 3) 0 hU.1.2.2.2 rfl (vp_in_nI (by omega) (by omega)) d_S_interest_77 ?_
            rw [nI_clamp (by omega)]
            refine lv_if_le (tgt := 122) hx hb d_S_interest_78 (by decide) (fun c_84 => ?_) (fun c_84 => ?_)
            · refine lv_iinc (v := nI (i + 1)) (lv' := [(7, .int (nI (i + 1))), (9, .int ((iMin (ut) ((((r_from r) (i + 1)) - 1))))), (8, .int ((iMax (((r_from r) i)) ((be + 1))))), (5, .long (t0)), (0, .ref h0), (1, .long (op)), (3, .int (be)), (4, .int (ut))]) hx hb d_S_interest_122 hl (k := 2) rfl (nI_inc i) (by decide) rfl (fun ls hl => ?_)
              refine lv_goto (tgt := 6) hx hb d_S_interest_125 (by decide) ?_
              exact ih (i + 1) (t0) (by omega) (by rw [← hv, inL_s, inS, if_neg c_79, if_neg c_83, if_pos c_84]) ls (lv_sub hl [0, 3, 4, 5, 6, 7] rfl)
            · refine lv_iload hx hb d_S_interest_81 (lv_at hl 0 rfl) ?_
              refine lv_iload hx hb d_S_interest_83 (lv_at hl 1 rfl) ?_
              refine lv_isub hx hb d_S_interest_85 ?_
              refine lv_iconst (v := 1) hx hb d_S_interest_86 (by decide) ?_
              refine lv_iadd hx hb d_S_interest_87 ?_
              refine lv_i2l hx hb d_S_interest_88 rfl ?_
              refine lv_lstore (lv' := [(10, .long (((((iMin (ut) ((((r_from r) (i + 1)) - 1))) - (iMax (((r_from r) i)) ((be + 1)))) + 1) : Int32).toInt64)), (9, .int ((iMin (ut) ((((r_from r) (i + 1)) - 1))))), (8, .int ((iMax (((r_from r) i)) ((be + 1))))), (7, .int (nI i)), (5, .long (t0)), (0, .ref h0), (1, .long (op)), (3, .int (be)), (4, .int (ut))]) hx hb d_S_interest_89 hl (by decide) rfl (fun ls hl => ?_)
              refine lv_lload hx hb d_S_interest_91 (lv_at hl 4 rfl) ?_
              refine lv_lload_n hx hb d_S_interest_93 rfl (lv_at hl 6 rfl) ?_
              refine lv_lload hx hb d_S_interest_94 (lv_at hl 0 rfl) ?_
              refine lv_lmul hx hb d_S_interest_96 ?_
              refine lv_aload_n hx hb d_S_interest_97 rfl (lv_at hl 5 rfl) ?_
              refine va_get (D := D) (ci := 1) (v := .ref up) (C := R_S) (T := F_S) (N := 4) hx hb hts (in_S _) hown hK hP k hU.1.1 rfl 1 (by decide) (hts (.fieldLink R_S 15 "DebtRows$Rates" "up" "[I") (List.mem_cons_of_mem _ mB_42)) (fun _ h9 => h9) rfl d_S_interest_98 ?_
              refine lv_iload hx hb d_S_interest_101 (lv_at hl 3 rfl) ?_
              refine va_iald hx hb hK hP (k + 2) 0 hU.1.2.2.1 rfl (vp_in_nI (by omega) (by omega)) d_S_interest_103 ?_
              rw [nI_clamp (by omega)]
              refine lv_i2l hx hb d_S_interest_104 rfl ?_
              refine lv_lmul hx hb d_S_interest_105 ?_
              refine lv_aload_n hx hb d_S_interest_106 rfl (lv_at hl 5 rfl) ?_
              refine va_get (D := D) (ci := 1) (v := .ref dn) (C := R_S) (T := F_S) (N := 4) hx hb hts (in_S _) hown hK hP k hU.1.1 rfl 2 (by decide) (hts (.fieldLink R_S 18 "DebtRows$Rates" "down" "[I") (List.mem_cons_of_mem _ mB_43)) (fun _ h9 => h9) rfl d_S_interest_107 ?_
              refine lv_iload hx hb d_S_interest_110 (lv_at hl 3 rfl) ?_
              refine va_iald hx hb hK hP (k + 3) 0 hU.1.2.2.2 rfl (vp_in_nI (by omega) (by omega)) d_S_interest_112 ?_
              rw [nI_clamp (by omega)]
              refine lv_i2l hx hb d_S_interest_113 rfl ?_
              refine lv_ldc2 (own := R_S) (index := 34) (v := 365) hx hb hown (hts (.constantLong R_S 34 (365)) (List.mem_cons_of_mem _ mB_295)) d_S_interest_114 ?_
              refine lv_lmul hx hb d_S_interest_117 ?_
              refine lv_ldiv hx hb d_S_interest_118 (n365 c_84) ?_
              refine lv_ladd hx hb d_S_interest_119 ?_
              refine lv_lstore (lv' := [(5, .long ((t0 + (((op * ((((iMin (ut) ((((r_from r) (i + 1)) - 1))) - (iMax (((r_from r) i)) ((be + 1)))) + 1) : Int32).toInt64) * (((r_up r) i) : Int32).toInt64) / ((((r_down r) i) : Int32).toInt64 * 365))))), (10, .long (((((iMin (ut) ((((r_from r) (i + 1)) - 1))) - (iMax (((r_from r) i)) ((be + 1)))) + 1) : Int32).toInt64)), (9, .int ((iMin (ut) ((((r_from r) (i + 1)) - 1))))), (8, .int ((iMax (((r_from r) i)) ((be + 1))))), (7, .int (nI i)), (0, .ref h0), (1, .long (op)), (3, .int (be)), (4, .int (ut))]) hx hb d_S_interest_120 hl (by decide) rfl (fun ls hl => ?_)
              refine lv_iinc (v := nI (i + 1)) (lv' := [(7, .int (nI (i + 1))), (5, .long ((t0 + (((op * ((((iMin (ut) ((((r_from r) (i + 1)) - 1))) - (iMax (((r_from r) i)) ((be + 1)))) + 1) : Int32).toInt64) * (((r_up r) i) : Int32).toInt64) / ((((r_down r) i) : Int32).toInt64 * 365))))), (10, .long (((((iMin (ut) ((((r_from r) (i + 1)) - 1))) - (iMax (((r_from r) i)) ((be + 1)))) + 1) : Int32).toInt64)), (9, .int ((iMin (ut) ((((r_from r) (i + 1)) - 1))))), (8, .int ((iMax (((r_from r) i)) ((be + 1))))), (0, .ref h0), (1, .long (op)), (3, .int (be)), (4, .int (ut))]) hx hb d_S_interest_122 hl (k := 4) rfl (nI_inc i) (by decide) rfl (fun ls hl => ?_)
              refine lv_goto (tgt := 6) hx hb d_S_interest_125 (by decide) ?_
              exact ih (i + 1) ((t0 + (((op * ((((iMin (ut) ((((r_from r) (i + 1)) - 1))) - (iMax (((r_from r) i)) ((be + 1)))) + 1) : Int32).toInt64) * (((r_up r) i) : Int32).toInt64) / ((((r_down r) i) : Int32).toInt64 * 365)))) (by omega) (by rw [← hv, inL_s, inS, if_neg c_79, if_neg c_83, if_neg c_84]) ls (lv_sub hl [0, 1, 5, 6, 7, 8] rfl)
  exact loop mm 0 0 (by omega) (by rw [f_R_interest, em, nI_clamp (by omega)]) ls hl
def f_runningInterest (d : DT) (r : RT) (td : Int32) : Int64 :=
  if d_state d = 1 then (f_R_interest r (d_open d) (d_ib d) (td))
  else 0
set_option maxHeartbeats 4000000 in
set_option maxRecDepth 100000 in
theorem c_runningInterest (l : Launch) (D : va_G) (A : Nat → Prop) (w : va_W) (cI cL cD : ClassId) (k h0 hp hq : Nat) (d : DT) (kr hr0 fr up dn : Nat) (r : RT) (td : Int32) (hU0 : dAt w k cI cL h0 hp hq d) (hR0 : rAt w kr cI hr0 fr up dn r) (hkr : kr + 3 < k) (hwr : wfR r) : Met l y_D_runningInterest w_D_runningInterest ({ frames := 2, cells := 0, slots := 0, locals := 55 }) (mPc D w (tyL cI cL cD) A [.ref h0, .ref hr0, .int (td)]) (vp_Sl (fun z9 => z9 = f_runningInterest d r td)) 0 0 (fun _ => False) := by
  refine Met.ofW (cc := b_D_runningInterest) (maxL := 3) (ret := (some .long)) (by decide) rfl ?_
  intro p e s m args below meth c s₁ B hml hv
  obtain ⟨rfl, hP, hK, hD⟩ := hv
  have hx := B.exec
  have hb := B.bytes
  have hr := B.returns
  have hts := atoms_spec (ws := w_D_runningInterest) B.pre
  have hown : s.vm.findClass R_D = some m.cls := findClass_of_methodNamed B.named
  have hlocks := B.notSynchronized
  have hS : va_S A s.heap s.heap [] := va_S.rf
  have hU : dUpd w w k cI cL h0 hp hq d := dUpd.rf hU0
  have hl := lv_entry ([.ref h0, .ref hr0, .int (td)]) (n := 3) (Nat.le_of_ble_eq_true rfl)
  rw [lg_entry_eq]
  generalize (lg_sl ([.ref h0, .ref hr0, .int (td)]) ++ List.replicate (3 - (lg_sl ([.ref h0, .ref hr0, .int (td)])).length) Slot.unset).toArray = ls at hl ⊢
  have hl : lv_has ls 3 [(0, .ref h0), (1, .ref hr0), (2, .int (td))] := hl
  refine lv_aload_n hx hb d_D_runningInterest_0 rfl (lv_at hl 0 rfl) ?_
  refine va_get (D := D) (ci := 0) (v := .int (d_state d)) (C := R_D) (T := F_D) (N := 15) hx hb hts (in_D _) hown hK hP k hU.o rfl 5 (by decide) (hts (.fieldLink R_D 27 "DebtRows$Debt" "state" "I") (List.mem_cons_of_mem _ mB_216)) (fun _ h9 => h9) rfl d_D_runningInterest_1 ?_
  refine lv_iconst (v := 1) hx hb d_D_runningInterest_4 (by decide) ?_
  refine lv_icmp_ne (tgt := 24) hx hb d_D_runningInterest_5 (by decide) (fun c_85 => ?_) (fun c_85 => ?_)
  · refine lv_lconst (v := 0) hx hb d_D_runningInterest_24 (by decide) ?_
    exact W.lret (v := 0) hx hb hr (fun t ht hW => ⟨_, rfl, by rw [f_runningInterest, if_neg c_85], ht⟩) t_nil d_D_runningInterest_25
  · refine lv_aload_n hx hb d_D_runningInterest_8 rfl (lv_at hl 1 rfl) ?_
    refine lv_aload_n hx hb d_D_runningInterest_9 rfl (lv_at hl 0 rfl) ?_
    refine va_get (D := D) (ci := 0) (v := .long (d_open d)) (C := R_D) (T := F_D) (N := 15) hx hb hts (in_D _) hown hK hP k hU.o rfl 8 (by decide) (hts (.fieldLink R_D 33 "DebtRows$Debt" "open" "J") (List.mem_cons_of_mem _ mB_221)) (fun _ h9 => h9) rfl d_D_runningInterest_10 ?_
    refine lv_aload_n hx hb d_D_runningInterest_13 rfl (lv_at hl 0 rfl) ?_
    refine va_get (D := D) (ci := 0) (v := .int (d_ib d)) (C := R_D) (T := F_D) (N := 15) hx hb hts (in_D _) hown hK hP k hU.o rfl 7 (by decide) (hts (.fieldLink R_D 53 "DebtRows$Debt" "interestBehind" "I") (List.mem_cons_of_mem _ mB_220)) (fun _ h9 => h9) rfl d_D_runningInterest_14 ?_
    refine lv_iload_n hx hb d_D_runningInterest_17 rfl (lv_at hl 2 rfl) ?_
    refine vp_callSl (W.runV (As := [.long (d_open d), .int (d_ib d), .int (td)]) (rest := []) ⟨hx, hb, hml, hown, hts⟩ (c_R_interest l D A w cI cL cD kr hr0 fr up dn r (d_open d) (d_ib d) (td) hR0 hwr) (cwV 3 hts (gV _ mB_287 mB_288 mB_289 mB_16 mB_290) rfl rfl rfl (by decide +kernel) ⟨(Nat.le_of_ble_eq_true rfl), (Nat.le_of_ble_eq_true rfl)⟩) ⟨mPc_bl, va_recv hK hP (ci := 1) (q0 := kr) rfl hR0.1, mPc_pr hP hK hD⟩ rfl rfl hl.1 rfl (lv_room (Nat.le_of_ble_eq_true rfl)) d_D_runningInterest_18 ⟨Nat.zero_le _, Nat.zero_le _⟩) (fun v_86 ev_86 => ?_)
    subst ev_86
    refine lv_goto (tgt := 25) hx hb d_D_runningInterest_21 (by decide) ?_
    exact W.lret (v := (f_R_interest r (d_open d) (d_ib d) (td))) hx hb hr (fun t ht hW => ⟨_, rfl, by rw [f_runningInterest, if_pos c_85], ht⟩) t_nil d_D_runningInterest_25
def f_fixInterest (d : DT) (r : RT) (td : Int32) : DT :=
  (s_ib (s_fixed d ((d_fixed d + (f_runningInterest d r (td))))) ((iMax (d_ib d) (td))))
set_option maxHeartbeats 4000000 in
set_option maxRecDepth 100000 in
theorem c_fixInterest (l : Launch) (D : va_G) (A : Nat → Prop) (w : va_W) (cI cL cD : ClassId) (k h0 hp hq : Nat) (d : DT) (kr hr0 fr up dn : Nat) (r : RT) (td : Int32) (hU0 : dAt w k cI cL h0 hp hq d) (hR0 : rAt w kr cI hr0 fr up dn r) (hkr : kr + 3 < k) (hwr : wfR r) : Met l y_D_fixInterest w_D_fixInterest ({ frames := 3, cells := 0, slots := 0, locals := 77 }) (mPc D w (tyL cI cL cD) A [.ref h0, .ref hr0, .int (td)]) (va_Qv (fun _ : Unit => True) (fun (_ : Unit) t => ∃ w9 : va_W, va_P D vwCl w9 t.heap ∧ va_D A w9 ∧ dUpd w w9 k cI cL h0 hp hq (f_fixInterest d r td)) A) 0 0 A := by
  refine Met.ofW (cc := b_D_fixInterest) (maxL := 3) (ret := none) (by decide) rfl ?_
  intro p e s m args below meth c s₁ B hml hv
  obtain ⟨rfl, hP, hK, hD⟩ := hv
  have hx := B.exec
  have hb := B.bytes
  have hr := B.returns
  have hts := atoms_spec (ws := w_D_fixInterest) B.pre
  have hown : s.vm.findClass R_D = some m.cls := findClass_of_methodNamed B.named
  have hlocks := B.notSynchronized
  have hS : va_S A s.heap s.heap [] := va_S.rf
  have hU : dUpd w w k cI cL h0 hp hq d := dUpd.rf hU0
  have hl := lv_entry ([.ref h0, .ref hr0, .int (td)]) (n := 3) (Nat.le_of_ble_eq_true rfl)
  rw [lg_entry_eq]
  generalize (lg_sl ([.ref h0, .ref hr0, .int (td)]) ++ List.replicate (3 - (lg_sl ([.ref h0, .ref hr0, .int (td)])).length) Slot.unset).toArray = ls at hl ⊢
  have hl : lv_has ls 3 [(0, .ref h0), (1, .ref hr0), (2, .int (td))] := hl
  refine lv_aload_n hx hb d_D_fixInterest_0 rfl (lv_at hl 0 rfl) ?_
  refine lv_dup hx hb d_D_fixInterest_1 rfl ?_
  refine va_get (D := D) (ci := 0) (v := .long (d_fixed d)) (C := R_D) (T := F_D) (N := 15) hx hb hts (in_D _) hown hK hP k hU.o rfl 10 (by decide) (hts (.fieldLink R_D 62 "DebtRows$Debt" "fixedInterest" "J") (List.mem_cons_of_mem _ mB_226)) (fun _ h9 => h9) rfl d_D_fixInterest_2 ?_
  refine lv_aload_n hx hb d_D_fixInterest_5 rfl (lv_at hl 0 rfl) ?_
  refine lv_aload_n hx hb d_D_fixInterest_6 rfl (lv_at hl 1 rfl) ?_
  refine lv_iload_n hx hb d_D_fixInterest_7 rfl (lv_at hl 2 rfl) ?_
  refine vp_callSl (W.runV (As := [.ref hr0, .int (td)]) (rest := [.long (d_fixed d), .ref h0]) ⟨hx, hb, hml, hown, hts⟩ (c_runningInterest l D A w cI cL cD k h0 hp hq d kr hr0 fr up dn r (td) hU.1 hR0 hkr hwr) (cwV 2 hts (gV _ mB_283 mB_284 mB_285 mB_24 mB_286) rfl rfl rfl (by decide +kernel) ⟨(Nat.le_of_ble_eq_true rfl), (Nat.le_of_ble_eq_true rfl)⟩) ⟨mPc_bl, va_recv hK hP (ci := 0) (q0 := k) rfl hU.o, mPc_pr hP hK hD⟩ rfl rfl hl.1 rfl (lv_room (Nat.le_of_ble_eq_true rfl)) d_D_fixInterest_8 ⟨Nat.zero_le _, Nat.zero_le _⟩) (fun v_87 ev_87 => ?_)
  subst ev_87
  refine lv_ladd hx hb d_D_fixInterest_11 ?_
  refine va_put (D := D) (ci := 0) (v := .long ((d_fixed d + (f_runningInterest d r (td))))) (ty := .long) (C := R_D) (T := F_D) (N := 15) hx hb hts (in_D _) t_D to_D nn_D hown hK hP hD hS k hU.o rfl 10 (by decide) (hts (.fieldLink R_D 62 "DebtRows$Debt" "fixedInterest" "J") (List.mem_cons_of_mem _ mB_226)) (fun _ h9 => h9) rfl (by decide +kernel) rfl rfl (Nat.le_of_ble_eq_true rfl) d_D_fixInterest_12 (fun H locs hP hD hS => ?_)
  have hU := hU.so (s_fixed d ((d_fixed d + (f_runningInterest d r (td))))) rfl rfl
  have hP : va_P D vwCl (w.set k (h0, dE hp hq (s_fixed d ((d_fixed d + (f_runningInterest d r (td))))))) H := hP
  have hD : va_D A (w.set k (h0, dE hp hq (s_fixed d ((d_fixed d + (f_runningInterest d r (td))))))) := hD
  generalize w.set k (h0, dE hp hq (s_fixed d ((d_fixed d + (f_runningInterest d r (td)))))) = w_88 at hP hD hU
  refine lv_aload_n hx hb d_D_fixInterest_15 rfl (lv_at hl 0 rfl) ?_
  refine lv_aload_n hx hb d_D_fixInterest_16 rfl (lv_at hl 0 rfl) ?_
  refine va_get (D := D) (ci := 0) (v := .int (d_ib d)) (C := R_D) (T := F_D) (N := 15) hx hb hts (in_D _) hown hK hP k hU.o rfl 7 (by decide) (hts (.fieldLink R_D 53 "DebtRows$Debt" "interestBehind" "I") (List.mem_cons_of_mem _ mB_220)) (fun _ h9 => h9) rfl d_D_fixInterest_17 ?_
  refine lv_iload_n hx hb d_D_fixInterest_20 rfl (lv_at hl 2 rfl) ?_
  refine va_mmax (own := R_D) (index := 47) hx hb (hml.trans hl.1.symm) hown (hts (.methodLink R_D 47 Lib.Math.max.name) (List.mem_cons_of_mem _ mB_265)) (hts (.static Lib.Math.max.name) (List.mem_cons_of_mem _ mB_266)) (hts (.initialized "java/lang/Math") (List.mem_cons_of_mem _ mB_25)) (hts _ (List.mem_cons_of_mem _ mC_max)) (Nat.le_of_ble_eq_true rfl) (Nat.le_of_ble_eq_true rfl) (Nat.le_of_ble_eq_true rfl) (Nat.le_of_ble_eq_true rfl) d_D_fixInterest_21 ?_
  refine lv_topi (fun v_89 ev_89 => ?_)
  have ev_89 : v_89 = iMax (d_ib d) (td) := ev_89
  subst ev_89
  refine va_put (D := D) (ci := 0) (v := .int ((iMax (d_ib d) (td)))) (ty := .int) (C := R_D) (T := F_D) (N := 15) hx hb hts (in_D _) t_D to_D nn_D hown hK hP hD hS k hU.o rfl 7 (by decide) (hts (.fieldLink R_D 53 "DebtRows$Debt" "interestBehind" "I") (List.mem_cons_of_mem _ mB_220)) (fun _ h9 => h9) rfl (by decide +kernel) rfl rfl (Nat.le_of_ble_eq_true rfl) d_D_fixInterest_24 (fun H locs hP hD hS => ?_)
  have hU := hU.so (s_ib (s_fixed d ((d_fixed d + (f_runningInterest d r (td))))) ((iMax (d_ib d) (td)))) rfl rfl
  have hP : va_P D vwCl (w_88.set k (h0, dE hp hq (s_ib (s_fixed d ((d_fixed d + (f_runningInterest d r (td))))) ((iMax (d_ib d) (td)))))) H := hP
  have hD : va_D A (w_88.set k (h0, dE hp hq (s_ib (s_fixed d ((d_fixed d + (f_runningInterest d r (td))))) ((iMax (d_ib d) (td)))))) := hD
  generalize w_88.set k (h0, dE hp hq (s_ib (s_fixed d ((d_fixed d + (f_runningInterest d r (td))))) ((iMax (d_ib d) (td))))) = w_90 at hP hD hU
  exact W.vret hx hb hr (fun t ht hW => ⟨⟨(), rfl, trivial, w_90, by rw [ht]; exact hP, hD, by rw [f_fixInterest]; exact hU⟩, hS.F ht⟩) hS.2.2 d_D_fixInterest_27
end
section
theorem wf_lose {d : DT} {x : Int32} (h : wfD d) : wfD (f_lose d x) := h
theorem wf_runAgain {d : DT} {x : Int32} (h : wfD d) : wfD (f_runAgain d x) := h
theorem wf_fixInterest {d : DT} {r : RT} {x : Int32} (h : wfD d) : wfD (f_fixInterest d r x) := h
theorem wf_defer {d : DT} {x : Int32} {n : Int32} (h : wfD d) (h1 : ¬ n < 2) (h2 : n ≤ 12) : wfD (f_defer d x n) := by
  refine ⟨h.1, ?_⟩
  obtain ⟨j, hj, e⟩ := nI_of2 (x := n) (M := 12) (n := 12) (by decide) (fun q => h1 (by rw [Int32.lt_iff_toInt_lt] at q ⊢; rw [show (0 : Int32).toInt = 0 from by decide] at q; rw [show (2 : Int32).toInt = 2 from by decide]; omega)) h2
  exact ⟨j, hj, e⟩
theorem wf_settle {d : DT} (h : wfD d) : wfD (f_settle d) := by
  unfold f_settle
  split
  · exact h
  · split
    · split
      · exact h
      · exact h
    · exact h
theorem wf_take {d : DT} {x : Int32} {n : Int64} (h : wfD d) : wfD (f_take d x n).2 := by
  unfold f_take
  split
  · exact h
  · exact wf_settle h
theorem wf_endsBy {d : DT} {x : Int32} (h : wfD d) : wfD (f_endsBy d x).2 := by
  unfold f_endsBy
  repeat' split
  all_goals exact h
theorem wf_join {d : DT} {x : Int32} (h : wfD d) : wfD (f_join d x).2 := by
  unfold f_join
  split
  · exact h
  · rename_i h4
    split
    · refine ⟨?_, h.2⟩
      obtain ⟨m, hm, e⟩ := h.1
      have hm4 : m < 4 := by
        rcases Nat.lt_or_ge m 4 with q | q
        · exact q
        · exact absurd (by rw [e]; exact nI_le q (by omega)) h4
      exact ⟨m + 1, by omega, by show d_debtors d + 1 = _; rw [e, nI_1]⟩
    · exact h
theorem wf_append {r : RT} {x y v : Int32} (h : wfR r) : wfR (f_R_append r x y v) := by
  unfold f_R_append
  split
  · rename_i h20
    obtain ⟨m, hm, e⟩ := h
    have hm4 : m < 20 := by
      rcases Nat.lt_or_ge m 20 with q | q
      · exact q
      · exact absurd h20 (by rw [e]; exact nI_nlt q (by omega))
    exact ⟨m + 1, by omega, by show r_count r + 1 = _; rw [e, nI_1]⟩
  · exact h
def badL : List Cond := [.castable "java/lang/ArithmeticException" "java/lang/ArithmeticException", .castable "java/lang/IllegalArgumentException" "java/lang/IllegalArgumentException", .castable "java/lang/IllegalStateException" "java/lang/IllegalStateException", .castable "java/lang/IndexOutOfBoundsException" "java/lang/IndexOutOfBoundsException", .declares ⟨"java/lang/RuntimeException", "<init>", "(Ljava/lang/String;)V"⟩, .declares ⟨"java/lang/Exception", "<init>", "(Ljava/lang/String;)V"⟩, .declares ⟨"java/lang/Throwable", "<init>", "(Ljava/lang/String;)V"⟩]
def txtL : List (Nat × String) := [(35, "down is 0"), (47, "no such day for a rate"), (50, "no such rate"), (57, "no more rates"), (68, "no such sum"), (74, "no such person"), (76, "no more debts"), (120, "no such number of instalments"), (135, "no such day"), (156, "no such side"), (158, "no debtor of this debt"), (175, "no such debt"), (184, "nothing to look at")]
/-- what a throw needs of the machine: Throwable's statics, words of the tables, the texts -/
def xEnv (A : Nat → Prop) (U : State) : Prop := vx_Zq Bundle.tN "UNASSIGNED_STACK" Bundle.steD A U U.heap ∧ vx_Zq Bundle.tN "SUPPRESSED_SENTINEL" Bundle.listD A U U.heap ∧ (∀ w ∈ badL, va_Nw w U) ∧ ∀ q ∈ txtL, ∃ sa : Nat, vk_R R_X q.1 q.2 sa U
theorem bad_use {w : Cond} {s : State} {args : Array Value} (h : w ∈ badL) (q : va_Nw w s) : w.before args s = true := va_Nw.use ((by decide : ∀ w ∈ badL, w.onTables = true) w h) q
theorem bad_warm {s U : State} (hW : s.WarmedH U.vm) (h : ∀ w ∈ badL, va_Nw w s) : ∀ w ∈ badL, va_Nw w U := by
  intro w hw
  have h1 := h w hw
  simp only [badL, List.mem_cons, List.not_mem_nil, or_false] at hw
  rcases hw with rfl | rfl | rfl | rfl | rfl | rfl | rfl
  all_goals first | exact va_Nw.warmC hW h1 | exact va_Nw.warmD hW h1
theorem xEnv.mv {A : Nat → Prop} {s U : State} {H : Heap} {locs : List Loc} (h : xEnv A s) (hS : va_S A s.heap H locs) (hU : U.heap = H) (hW : s.WarmedH U.vm) : xEnv A U := by
  obtain ⟨h1, h2, h3, h4⟩ := h
  subst hU
  exact ⟨vx_Zq.moved hW.alike (h1.kept hS.2.1), vx_Zq.moved hW.alike (h2.kept hS.2.1), bad_warm hW h3, fun q hq => by obtain ⟨sa, h5⟩ := h4 q hq; exact ⟨sa, vk_R.warm hW h5⟩⟩
def ePc (D : va_G) (w : va_W) (tys : List (ClassId × FieldType)) (A : Nat → Prop) (av : List Value) : Array Value → State → Prop := va_Pc av (fun U => va_P D vwCl w U.heap ∧ va_K D vwCl tys U ∧ va_D A w ∧ xEnv A U)
theorem ePc_bl {D : va_G} {w : va_W} {tys : List (ClassId × FieldType)} {A : Nat → Prop} {av : List Value} : FrameBlind (ePc D w tys A av) := fun a U g mk q => by
  obtain ⟨q0, qP, qK, qD, qE⟩ := q
  exact ⟨q0, qP, va_K.moved (u := U) (U := U.calling g mk a) (Vm.Alike.refl U.vm) qK, qD, qE.mv (U := U.calling g mk a) (va_S.rf (A := A)) rfl (State.WarmedH.refl U)⟩
theorem ePc_pr {D : va_G} {w : va_W} {tys : List (ClassId × FieldType)} {A : Nat → Prop} {av : List Value} {s : State} {H : Heap} {locs : List Loc} (hP : va_P D vwCl w H) (hK : va_K D vwCl tys s) (hD : va_D A w) (hE : xEnv A s) (hS : va_S A s.heap H locs) : ∀ U : State, U.heap = H → s.WarmedH U.vm → ePc D w tys A av av.toArray U := fun U hU hW => ⟨rfl, by rw [hU]; exact hP, va_K.moved hW.alike hK, hD, hE.mv hS hU hW⟩
/-- the code of the exception E, by a list of names -/
def exN (ns : List String) (c : Int32) (E : String) : Prop := ∃ k : Nat, ns[k]? = some E ∧ c = nI (k + 1)

/-- a call of a method that hands back an object, or throws -/
theorem vz_callq {p : Program} {l : Launch} {e : Env} {R : Room} {s : State} {m : MethodId} {args : Array Value} {below : List Frame} {meth : Method} {c : Code} {H : Heap} {locs : List Loc} {cells slots : Nat} {Q : State → Prop} {mc ms : Nat} {free : Addr → Prop} {A0 A1 : Nat → Prop} {H0 : Heap} {a : Array Value} {pc : Nat} {ls : Array Slot} {st0 rest : List Value}
    {S SX : Type} {post : Option Nat → S → Prop} {px : SX → Prop} {B : S → State → Prop} {BX : String → SX → State → Prop} {AX : Nat → Prop}
    (hr : vx_Run p l e R s m args below meth c H locs cells slots mc ms (F0 m pc ls st0) rest (va_Qq post B A1 a) (vx_X px BX AX) free) (hS : va_S A0 H0 H locs) (hA : ∀ q, q < H.size → A1 q → A0 q) (hf : ∀ q, free q → A0 q) (hAX : ∀ q, q < H.size → AX q → A0 q)
    (kx : ∀ (E : String) (ce : Cell) (q9 : Addr) (u : SX) (t : State) (H1 : Heap) (locs1 : List Loc), t.heap = H1 → s.vm.Alike t.vm → px u → BX E u t → H.size ≤ H1.size → (∀ q : Nat, q < H.size → ¬ AX q → H1[q]? = H[q]?) → va_S A0 H0 H1 locs1 → H1[q9]? = some ce → ce.vm = .none → s.vm.findClass E = some ce.cls → vx_W p l e R s m args below meth c H1 locs1 (cells + mc) (slots + ms) Q (F0 m pc ls rest) q9)
    (kk : ∀ (r : Option Nat) (u : S) (t : State) (H1 : Heap) (locs1 : List Loc), t.heap = H1 → s.vm.Alike t.vm → post r u → B u t → H.size ≤ H1.size → (∀ q : Nat, q < H.size → ¬ A1 q → H1[q]? = H[q]?) → va_S A0 H0 H1 locs1 → W p l e R s m args below meth c H1 locs1 (cells + mc) (slots + ms) Q (F0 m (pc + 3) ls (va_rf r :: rest))) :
    W p l e R s m args below meth c H locs cells slots Q (F0 m pc ls st0) := by
  intro T hT X
  rcases hr T hT X with ⟨v, s0, t, T', L, h0, X', hL, e1, e2, ⟨⟨r, u, hv, hp, hb⟩, hF⟩, st⟩ | ⟨q, s0, t, T', L, E, ce, h0, X', hL, e1, e2, ⟨u, hp, hb, hF⟩, hce, hcv, hcl, st⟩
  · cases hv
    obtain ⟨k1, k2, k3⟩ := vx_keep h0 e1 hS hA hf hL hF
    obtain ⟨t2, a1, b1⟩ := kk r u t T'.heap (locs ++ L) e1.symm (by rw [← e2]; exact X'.warmed.alike) hp hb k1 k2 k3 T' rfl X'
    exact ⟨t2, st t2 a1, b1⟩
  · obtain ⟨k1, k2, k3⟩ := vx_keep h0 e1 hS hAX hf hL hF
    obtain ⟨t2, a1, b1⟩ := kx E ce q u t T'.heap (locs ++ L) e1.symm (by rw [← e2]; exact X'.warmed.alike) hp hb k1 k2 k3 (by rw [e1]; exact hce) hcv hcl T' rfl X'
    exact ⟨t2, st.trans a1, b1⟩
def f_isPerson (who : Int32) : Int32 :=
  if who < 0 then 0
  else if 16 ≤ who then 0
    else 1
set_option maxHeartbeats 4000000 in
set_option maxRecDepth 100000 in
theorem c_isPerson (l : Launch) (who : Int32) : Met l y_X_isPerson w_X_isPerson ({ frames := 0, cells := 0, slots := 0, locals := 0 }) (va_Pc [.int (who)] (fun _ => True)) (vp_Si (fun z9 => z9 = f_isPerson who)) 0 0 (fun _ => False) := by
  refine Met.ofW (cc := b_X_isPerson) (maxL := 1) (ret := (some .boolean)) (by decide) rfl ?_
  intro p e s m args below meth c s₁ B hml hv
  obtain ⟨rfl, -⟩ := hv
  have hx := B.exec
  have hb := B.bytes
  have hr := B.returns
  have hts := atoms_spec (ws := w_X_isPerson) B.pre
  have hown : s.vm.findClass R_X = some m.cls := findClass_of_methodNamed B.named
  have hlocks := B.notSynchronized
  have hl := lv_entry ([.int (who)]) (n := 1) (Nat.le_of_ble_eq_true rfl)
  rw [lg_entry_eq]
  generalize (lg_sl ([.int (who)]) ++ List.replicate (1 - (lg_sl ([.int (who)])).length) Slot.unset).toArray = ls at hl ⊢
  have hl : lv_has ls 1 [(0, .int (who))] := hl
  refine lv_iload_n hx hb d_X_isPerson_0 rfl (lv_at hl 0 rfl) ?_
  refine lv_if_lt (tgt := 14) hx hb d_X_isPerson_1 (by decide) (fun c_91 => ?_) (fun c_91 => ?_)
  · refine lv_iconst (v := 0) hx hb d_X_isPerson_14 (by decide) ?_
    exact W.zret (v := 0) hx hb hr rfl (fun t ht hW => ⟨_, rfl, by rw [f_isPerson, if_pos c_91], ht⟩) t_nil d_X_isPerson_15
  · refine lv_iload_n hx hb d_X_isPerson_4 rfl (lv_at hl 0 rfl) ?_
    refine lv_bipush (v := 16) hx hb d_X_isPerson_5 (by decide) ?_
    refine lv_icmp_ge (tgt := 14) hx hb d_X_isPerson_7 (by decide) (fun c_92 => ?_) (fun c_92 => ?_)
    · refine lv_iconst (v := 0) hx hb d_X_isPerson_14 (by decide) ?_
      exact W.zret (v := 0) hx hb hr rfl (fun t ht hW => ⟨_, rfl, by rw [f_isPerson, if_neg c_91, if_pos c_92], ht⟩) t_nil d_X_isPerson_15
    · refine lv_iconst (v := 1) hx hb d_X_isPerson_10 (by decide) ?_
      refine lv_goto (tgt := 15) hx hb d_X_isPerson_11 (by decide) ?_
      exact W.zret (v := 1) hx hb hr rfl (fun t ht hW => ⟨_, rfl, by rw [f_isPerson, if_neg c_91, if_neg c_92], ht⟩) t_nil d_X_isPerson_15
def f_isSum (cents : Int64) : Int32 :=
  if cents < 1 then 0
  else if 1000000000 < cents then 0
    else 1
set_option maxHeartbeats 4000000 in
set_option maxRecDepth 100000 in
theorem c_isSum (l : Launch) (cents : Int64) : Met l y_X_isSum w_X_isSum ({ frames := 0, cells := 0, slots := 0, locals := 0 }) (va_Pc [.long (cents)] (fun _ => True)) (vp_Si (fun z9 => z9 = f_isSum cents)) 0 0 (fun _ => False) := by
  refine Met.ofW (cc := b_X_isSum) (maxL := 2) (ret := (some .boolean)) (by decide) rfl ?_
  intro p e s m args below meth c s₁ B hml hv
  obtain ⟨rfl, -⟩ := hv
  have hx := B.exec
  have hb := B.bytes
  have hr := B.returns
  have hts := atoms_spec (ws := w_X_isSum) B.pre
  have hown : s.vm.findClass R_X = some m.cls := findClass_of_methodNamed B.named
  have hlocks := B.notSynchronized
  have hl := lv_entry ([.long (cents)]) (n := 2) (Nat.le_of_ble_eq_true rfl)
  rw [lg_entry_eq]
  generalize (lg_sl ([.long (cents)]) ++ List.replicate (2 - (lg_sl ([.long (cents)])).length) Slot.unset).toArray = ls at hl ⊢
  have hl : lv_has ls 2 [(0, .long (cents))] := hl
  refine lv_lload_n hx hb d_X_isSum_0 rfl (lv_at hl 0 rfl) ?_
  refine lv_lconst (v := 1) hx hb d_X_isSum_1 (by decide) ?_
  refine W.lcmp hx hb d_X_isSum_2 ?_
  refine lv_if_lt (tgt := 18) hx hb d_X_isSum_3 (by decide) (fun c_93 => ?_) (fun c_93 => ?_)
  · have c_93 : cents < 1 := (lg_cmp_lt _ _).mp c_93
    refine lv_iconst (v := 0) hx hb d_X_isSum_18 (by decide) ?_
    exact W.zret (v := 0) hx hb hr rfl (fun t ht hW => ⟨_, rfl, by rw [f_isSum, if_pos c_93], ht⟩) t_nil d_X_isSum_19
  · have c_93 : ¬ cents < 1 := fun h9 => c_93 ((lg_cmp_lt _ _).mpr h9)
    refine lv_lload_n hx hb d_X_isSum_6 rfl (lv_at hl 0 rfl) ?_
    refine lv_ldc2 (own := R_X) (index := 195) (v := 1000000000) hx hb hown (hts (.constantLong R_X 195 (1000000000)) (List.mem_cons_of_mem _ mB_202)) d_X_isSum_7 ?_
    refine W.lcmp hx hb d_X_isSum_10 ?_
    refine lv_if_gt (tgt := 18) hx hb d_X_isSum_11 (by decide) (fun c_94 => ?_) (fun c_94 => ?_)
    · have c_94 : 1000000000 < cents := (lg_cmp_gt _ _).mp c_94
      refine lv_iconst (v := 0) hx hb d_X_isSum_18 (by decide) ?_
      exact W.zret (v := 0) hx hb hr rfl (fun t ht hW => ⟨_, rfl, by rw [f_isSum, if_neg c_93, if_pos c_94], ht⟩) t_nil d_X_isSum_19
    · have c_94 : ¬ 1000000000 < cents := fun h9 => c_94 ((lg_cmp_gt _ _).mpr h9)
      refine lv_iconst (v := 1) hx hb d_X_isSum_14 (by decide) ?_
      refine lv_goto (tgt := 19) hx hb d_X_isSum_15 (by decide) ?_
      exact W.zret (v := 1) hx hb hr rfl (fun t ht hW => ⟨_, rfl, by rw [f_isSum, if_neg c_93, if_neg c_94], ht⟩) t_nil d_X_isSum_19
theorem okN_of {z : XT} {q : Int32} (h1 : ¬ q < 1) (h2 : q ≤ x_cnt z) : okN z q := ⟨by rw [Int32.le_iff_toInt_le]; rw [Int32.lt_iff_toInt_lt] at h1; omega, h2⟩
theorem okN_n1 {z : XT} {q : Int32} (h1 : q < 1) : ¬ okN z q := fun h => by
  have h2 := h.1
  rw [Int32.le_iff_toInt_le] at h2; rw [Int32.lt_iff_toInt_lt] at h1; omega
theorem in_find {z : XT} {q : Int32} {n : Nat} (h : okN z q) (e : x_cnt z = nI n) (hn : n ≤ 40) : vp_in (q - 1) 40 := by
  obtain ⟨h1, -, h3⟩ := okN_ix h e hn
  rw [h3]; exact vp_in_nI (by omega) (by decide)
set_option maxHeartbeats 4000000 in
set_option maxRecDepth 100000 in
theorem c_find (l : Launch) (D : va_G) (A : Nat → Prop) (w : va_W) (cI cL cD : ClassId) (b : Nat) (a : AD) (z : XT) (q : Int32) (hC0 : cA w b cI cL cD a z) : Met l y_X_find w_X_find ({ frames := 0, cells := 0, slots := 0, locals := 0 }) (mPc D w (tyL cI cL cD) A [.ref (a_x a), .int (q)]) (va_Sq (fun z9 => z9 = if okN z q then some (a_da a (ixN q)) else none)) 0 0 (fun _ => False) := by
  refine Met.ofW (cc := b_X_find) (maxL := 2) (ret := (some (.object "DebtRows$Debt"))) (by decide) rfl ?_
  intro p e s m args below meth c s₁ B hml hv
  obtain ⟨rfl, hP, hK, hD⟩ := hv
  have hx := B.exec
  have hb := B.bytes
  have hr := B.returns
  have hts := atoms_spec (ws := w_X_find) B.pre
  have hown : s.vm.findClass R_X = some m.cls := findClass_of_methodNamed B.named
  have hlocks := B.notSynchronized
  have hS : va_S A s.heap s.heap [] := va_S.rf
  have hC : cUpd w w b cI cL cD a z := cUpd.rf hC0
  have hl := lv_entry ([.ref (a_x a), .int (q)]) (n := 2) (Nat.le_of_ble_eq_true rfl)
  rw [lg_entry_eq]
  generalize (lg_sl ([.ref (a_x a), .int (q)]) ++ List.replicate (2 - (lg_sl ([.ref (a_x a), .int (q)])).length) Slot.unset).toArray = ls at hl ⊢
  have hl : lv_has ls 2 [(0, .ref (a_x a)), (1, .int (q))] := hl
  refine lv_iload_n hx hb d_X_find_0 rfl (lv_at hl 1 rfl) ?_
  refine lv_iconst (v := 1) hx hb d_X_find_1 (by decide) ?_
  refine lv_icmp_lt (tgt := 13) hx hb d_X_find_2 (by decide) (fun c_95 => ?_) (fun c_95 => ?_)
  · refine lv_null hx hb d_X_find_13 ?_
    exact W.aret (v := .null) (rt := .object "DebtRows$Debt") hx hb hr (Or.inl ⟨_, rfl⟩) (Or.inl rfl) (fun t ht hW => ⟨none, rfl, by rw [if_neg (okN_n1 c_95)], ht⟩) t_nil d_X_find_14
  · refine lv_iload_n hx hb d_X_find_5 rfl (lv_at hl 1 rfl) ?_
    refine lv_aload_n hx hb d_X_find_6 rfl (lv_at hl 0 rfl) ?_
    refine va_get (D := D) (ci := 2) (v := .int (x_cnt z)) (C := R_X) (T := F_X) (N := 5) hx hb hts (in_X _) hown hK hP b hC.1.x rfl 3 (by decide) (hts (.fieldLink R_X 26 "DebtRows" "debtCount" "I") (List.mem_cons_of_mem _ mB_56)) (fun _ h9 => h9) rfl d_X_find_7 ?_
    refine lv_icmp_le (tgt := 15) hx hb d_X_find_10 (by decide) (fun c_96 => ?_) (fun c_96 => ?_)
    · refine lv_aload_n hx hb d_X_find_15 rfl (lv_at hl 0 rfl) ?_
      refine va_get (D := D) (ci := 2) (v := .ref (a_ds a)) (C := R_X) (T := F_X) (N := 5) hx hb hts (in_X _) hown hK hP b hC.1.x rfl 1 (by decide) (hts (.fieldLink R_X 18 "DebtRows" "debts" "[LDebtRows$Debt;") (List.mem_cons_of_mem _ mB_54)) (fun _ h9 => h9) rfl d_X_find_16 ?_
      refine lv_iload_n hx hb d_X_find_19 rfl (lv_at hl 1 rfl) ?_
      refine lv_iconst (v := 1) hx hb d_X_find_20 (by decide) ?_
      refine lv_isub hx hb d_X_find_21 ?_
      refine va_aldq hx hb hK hP (b + 5) 2 hC.1.ds rfl (in_find (okN_of c_95 c_96) hC.1.en hC.1.n) d_X_find_22 ?_
      have hok : okN z q := okN_of c_95 c_96
      obtain ⟨hi9, -, ei9⟩ := okN_ix hok hC.1.en hC.1.n
      rw [show ((q - 1)).toNatClampNeg = ixN q from rfl, hC.1.g hi9]
      exact W.aret (v := .ref (a_da a (ixN q))) (rt := .object "DebtRows$Debt") hx hb hr (Or.inl ⟨_, rfl⟩) (Or.inr ⟨_, rfl⟩) (fun t ht hW => ⟨some (a_da a (ixN q)), rfl, by rw [if_pos hok], ht⟩) t_nil d_X_find_23
    · refine lv_null hx hb d_X_find_13 ?_
      exact W.aret (v := .null) (rt := .object "DebtRows$Debt") hx hb hr (Or.inl ⟨_, rfl⟩) (Or.inl rfl) (fun t ht hW => ⟨none, rfl, by rw [if_neg (fun h9 => c_96 h9.2)], ht⟩) t_nil d_X_find_14

set_option maxHeartbeats 4000000 in
set_option maxRecDepth 100000 in
theorem c_findOrRefuse (l : Launch) (hl9 : l.stackTraces = false) (D : va_G) (A : Nat → Prop) (w : va_W) (cI cL cD : ClassId) (b : Nat) (a : AD) (z : XT) (q : Int32) (hC0 : cA w b cI cL cD a z) : vx_Met l y_X_findOrRefuse w_X_findOrRefuse ({ frames := 6, cells := 1, slots := 6, locals := 90 }) (ePc D w (tyL cI cL cD) A [.ref (a_x a), .int (q)]) (va_Qq (fun z9 (_ : Unit) => okN z q ∧ z9 = some (a_da a (ixN q))) (fun (_ : Unit) t => va_P D vwCl w t.heap) A) (vx_X (fun _ : Unit => True) (fun E9 _ t => E9 = "java/lang/IllegalArgumentException" ∧ ¬ okN z q ∧ va_P D vwCl w t.heap) A) 1 6 A := by
  refine vx_ofW (cc := b_X_findOrRefuse) (maxL := 3) (ret := (some (.object "DebtRows$Debt"))) (by decide) rfl ?_
  intro p e s m args below meth c s₁ B hml hEx hv
  obtain ⟨rfl, hP, hK, hD, hE⟩ := hv
  have hx := B.exec
  have hb := B.bytes
  have hr := B.returns
  have hts := atoms_spec (ws := w_X_findOrRefuse) B.pre
  have hown : s.vm.findClass R_X = some m.cls := findClass_of_methodNamed B.named
  have hlocks := B.notSynchronized
  have hS : va_S A s.heap s.heap [] := va_S.rf
  have hC : cUpd w w b cI cL cD a z := cUpd.rf hC0
  have hl := lv_entry ([.ref (a_x a), .int (q)]) (n := 3) (Nat.le_of_ble_eq_true rfl)
  rw [lg_entry_eq]
  generalize (lg_sl ([.ref (a_x a), .int (q)]) ++ List.replicate (3 - (lg_sl ([.ref (a_x a), .int (q)])).length) Slot.unset).toArray = ls at hl ⊢
  have hl : lv_has ls 3 [(0, .ref (a_x a)), (1, .int (q))] := hl
  refine lv_aload_n hx hb d_X_findOrRefuse_0 rfl (lv_at hl 0 rfl) ?_
  refine lv_iload_n hx hb d_X_findOrRefuse_1 rfl (lv_at hl 1 rfl) ?_
  refine va_csq (W.runV (As := [.int (q)]) (rest := []) ⟨hx, hb, hml, hown, hts⟩ (c_find l D A w cI cL cD b a (z) (q) hC.1) (cwV 1 hts (gV _ mB_69 mB_70 mB_0 mB_15 mB_71) rfl rfl rfl (by decide +kernel) ⟨(Nat.le_of_ble_eq_true rfl), (Nat.le_of_ble_eq_true rfl)⟩) ⟨mPc_bl, va_recv hK hP (ci := 2) (q0 := b) rfl hC.1.x, mPc_pr hP hK hD⟩ rfl rfl hl.1 rfl (lv_room (Nat.le_of_ble_eq_true rfl)) d_X_findOrRefuse_2 ⟨(Nat.le_of_ble_eq_true rfl), (Nat.le_of_ble_eq_true rfl)⟩) (fun v_97 ev_97 => ?_)
  rcases Decidable.em (okN (z) (q)) with c_98 | c_98
  · rw [if_pos c_98] at ev_97
    subst ev_97
    have hi_99 : ixN (q) < a_n a := (okN_ix c_98 hC.1.en hC.1.n).1
    have hU : dUpd w w (b + 7 + 3 * (ixN (q))) cI cL (a_da a (ixN (q))) (a_pa a (ixN (q))) (a_qa a (ixN (q))) (x_debts z (ixN (q))) := dUpd.rf (hC.1.d hi_99)
    have hw : wfD (x_debts z (ixN (q))) := hC.1.wd hi_99
    refine lv_astore_n (lv' := [(2, .ref (a_da a (ixN (q)))), (0, .ref (a_x a)), (1, .int (q))]) hx hb d_X_findOrRefuse_5 rfl hl (by decide) rfl (fun ls hl => ?_)
    refine lv_aload_n hx hb d_X_findOrRefuse_6 rfl (lv_at hl 0 rfl) ?_
    refine lv_ifnonnull (tgt := 20) hx hb d_X_findOrRefuse_7 (by decide) ?_
    refine lv_aload_n hx hb d_X_findOrRefuse_20 rfl (lv_at hl 0 rfl) ?_
    refine vx_ret (W.widen (k := 1) (n := 6) (Nat.le_of_ble_eq_true rfl) (Nat.le_of_ble_eq_true rfl) ?_)
    exact W.aret (v := .ref (a_da a (ixN (q)))) (rt := .object "DebtRows$Debt") hx hb hr (Or.inl ⟨_, rfl⟩) (Or.inr ⟨_, rfl⟩) (fun t ht hW => ⟨⟨some (a_da a (ixN (q))), (), rfl, ⟨c_98, rfl⟩, by show va_P D vwCl w t.heap; rw [ht]; exact hP⟩, hS.F ht⟩) hS.2.2 d_X_findOrRefuse_21
  · rw [if_neg c_98] at ev_97
    subst ev_97
    refine lv_astore_nN (lv' := [(2, .null), (0, .ref (a_x a)), (1, .int (q))]) hx hb d_X_findOrRefuse_5 rfl hl (by decide) rfl (fun ls hl => ?_)
    refine lv_aload_nN hx hb d_X_findOrRefuse_6 rfl (lv_at hl 0 rfl) ?_
    refine lv_ifnonnullN hx hb d_X_findOrRefuse_7 ?_
    obtain ⟨sa9, hz9⟩ := hE.2.2.2 (175, "no such debt") (by decide)
    exact vx_throwS (own := R_X) (cls := "java/lang/IllegalArgumentException") (names := ["java/lang/RuntimeException", "java/lang/Exception"]) hx hb hl9 hown (by decide +kernel) (by decide +kernel) (hts (.classLink R_X 45 "java/lang/IllegalArgumentException") (List.mem_cons_of_mem _ mB_161)) (hts (.initialized "java/lang/IllegalArgumentException") (List.mem_cons_of_mem _ mB_22)) hz9 (vx_hat (B := badL) (fun w hw => hts w ((by decide +kernel : ∀ w ∈ (vx_atS R_X 49 "java/lang/IllegalArgumentException" ["java/lang/RuntimeException", "java/lang/Exception"]).filter goodWord, w ∈ w_X_findOrRefuse) w hw)) (by decide +kernel) (fun w hw => bad_use hw (hE.2.2.1 w hw))) (by decide +kernel) hE.1 hE.2.1 hS (hl.1.trans hml.symm) d_X_findOrRefuse_10 d_X_findOrRefuse_13 d_X_findOrRefuse_14 d_X_findOrRefuse_16 d_X_findOrRefuse_19 (fun x hx => (hEx x hx).elim) (Nat.le_of_ble_eq_true rfl) (Nat.le_of_ble_eq_true rfl) (Nat.le_of_ble_eq_true rfl) (Nat.le_of_ble_eq_true rfl) hlocks (fun t ha hsz hk => ⟨(), trivial, ⟨rfl, c_98, hP.kept (fun k q hq => hk q.1 (hP k q hq).lt)⟩, Nat.le_trans hS.1 hsz, fun q h1 h2 => (hk q (Nat.lt_of_lt_of_le h1 hS.1)).trans (hS.2.1 q h1 h2)⟩) hS.2.2 (Nat.le_of_ble_eq_true rfl) (Nat.le_of_ble_eq_true rfl)
def ovL (z : XT) (wh : Int32) : Nat → Nat → Int64 → Int64
  | _, 0, t => t
  | i, n + 1, t => ovL z wh (i + 1) n (t + f_part (x_debts z i) wh)
def f_overAllDebts (z : XT) (wh : Int32) : Int64 := ovL z wh 0 (x_cnt z).toNatClampNeg 0
set_option maxHeartbeats 4000000 in
set_option maxRecDepth 100000 in
theorem c_overAllDebts (l : Launch) (D : va_G) (A : Nat → Prop) (w : va_W) (cI cL cD : ClassId) (b : Nat) (a : AD) (z : XT) (wh : Int32) (hC0 : cA w b cI cL cD a z) : Met l y_X_overAllDebts w_X_overAllDebts ({ frames := 1, cells := 0, slots := 0, locals := 21 }) (mPc D w (tyL cI cL cD) A [.ref (a_x a), .int (wh)]) (vp_Sl (fun z9 => z9 = f_overAllDebts z wh)) 0 0 (fun _ => False) := by
  refine Met.ofW (cc := b_X_overAllDebts) (maxL := 6) (ret := (some .long)) (by decide) rfl ?_
  intro p e s m args below meth c s₁ B hml hv
  obtain ⟨rfl, hP, hK, hD⟩ := hv
  have hx := B.exec
  have hb := B.bytes
  have hr := B.returns
  have hts := atoms_spec (ws := w_X_overAllDebts) B.pre
  have hown : s.vm.findClass R_X = some m.cls := findClass_of_methodNamed B.named
  have hlocks := B.notSynchronized
  have hS : va_S A s.heap s.heap [] := va_S.rf
  have hC : cUpd w w b cI cL cD a z := cUpd.rf hC0
  have hl := lv_entry ([.ref (a_x a), .int (wh)]) (n := 6) (Nat.le_of_ble_eq_true rfl)
  rw [lg_entry_eq]
  generalize (lg_sl ([.ref (a_x a), .int (wh)]) ++ List.replicate (6 - (lg_sl ([.ref (a_x a), .int (wh)])).length) Slot.unset).toArray = ls at hl ⊢
  have hl : lv_has ls 6 [(0, .ref (a_x a)), (1, .int (wh))] := hl
  refine lv_lconst (v := 0) hx hb d_X_overAllDebts_0 (by decide) ?_
  refine lv_lstore_n (lv' := [(2, .long (0)), (0, .ref (a_x a)), (1, .int (wh))]) hx hb d_X_overAllDebts_1 rfl hl (by decide) rfl (fun ls hl => ?_)
  refine lv_iconst (v := 0) hx hb d_X_overAllDebts_2 (by decide) ?_
  refine lv_istore (lv' := [(4, .int (0)), (2, .long (0)), (0, .ref (a_x a)), (1, .int (wh))]) hx hb d_X_overAllDebts_3 hl (by decide) rfl (fun ls hl => ?_)
  have loop : ∀ (n i : Nat) (t0 : Int64), i + n = a_n a → ovL z wh i n t0 = f_overAllDebts z wh → ∀ (ls : Array Slot), lv_has ls 6 [(4, .int (nI i)), (2, .long (t0)), (0, .ref (a_x a)), (1, .int (wh))] → W p l e (headSpec w_X_overAllDebts ({ frames := 1, cells := 0, slots := 0, locals := 21 })).room s m [.ref (a_x a), .int (wh)].toArray below meth c s.heap [] 0 0 (MQ below (vp_Sl (fun z9 => z9 = f_overAllDebts z wh)) [.ref (a_x a), .int (wh)].toArray s 0 0 (fun _ => False)) (F0 m 5 ls []) := by
    intro n
    induction n with
    | zero =>
      intro i t0 hin hv ls hl
      refine lv_iload hx hb d_X_overAllDebts_5 (lv_at hl 0 rfl) ?_
      refine lv_aload_n hx hb d_X_overAllDebts_7 rfl (lv_at hl 2 rfl) ?_
      refine va_get (D := D) (ci := 2) (v := .int (x_cnt z)) (C := R_X) (T := F_X) (N := 5) hx hb hts (in_X _) hown hK hP b hC.1.x rfl 3 (by decide) (hts (.fieldLink R_X 26 "DebtRows" "debtCount" "I") (List.mem_cons_of_mem _ mB_56)) (fun _ h9 => h9) rfl d_X_overAllDebts_8 ?_
      refine lv_icmp_ge (tgt := 43) hx hb d_X_overAllDebts_11 (by decide) (fun c_100 => ?_) (fun c_100 => ?_)
      · refine lv_lload_n hx hb d_X_overAllDebts_43 rfl (lv_at hl 1 rfl) ?_
        exact W.lret (v := t0) hx hb hr (fun t ht hW => ⟨_, rfl, by rw [← hv]; rfl, ht⟩) t_nil d_X_overAllDebts_44
      · exact absurd (by rw [hC.1.en]; exact nI_le (by omega) (by have := hC.1.n; omega)) c_100
    | succ n ih =>
      intro i t0 hin hv ls hl
      refine lv_iload hx hb d_X_overAllDebts_5 (lv_at hl 0 rfl) ?_
      refine lv_aload_n hx hb d_X_overAllDebts_7 rfl (lv_at hl 2 rfl) ?_
      refine va_get (D := D) (ci := 2) (v := .int (x_cnt z)) (C := R_X) (T := F_X) (N := 5) hx hb hts (in_X _) hown hK hP b hC.1.x rfl 3 (by decide) (hts (.fieldLink R_X 26 "DebtRows" "debtCount" "I") (List.mem_cons_of_mem _ mB_56)) (fun _ h9 => h9) rfl d_X_overAllDebts_8 ?_
      refine lv_icmp_ge (tgt := 43) hx hb d_X_overAllDebts_11 (by decide) (fun c_101 => ?_) (fun c_101 => ?_)
      · exact absurd c_101 (by rw [hC.1.en]; exact nI_ge (by omega) (by have := hC.1.n; omega))
      · refine lv_aload_n hx hb d_X_overAllDebts_14 rfl (lv_at hl 2 rfl) ?_
        refine va_get (D := D) (ci := 2) (v := .ref (a_ds a)) (C := R_X) (T := F_X) (N := 5) hx hb hts (in_X _) hown hK hP b hC.1.x rfl 1 (by decide) (hts (.fieldLink R_X 18 "DebtRows" "debts" "[LDebtRows$Debt;") (List.mem_cons_of_mem _ mB_54)) (fun _ h9 => h9) rfl d_X_overAllDebts_15 ?_
        refine lv_iload hx hb d_X_overAllDebts_18 (lv_at hl 0 rfl) ?_
        refine va_aldq hx hb hK hP (b + 5) 2 hC.1.ds rfl (vp_in_nI (by have := hC.1.n; omega) (by decide)) d_X_overAllDebts_20 ?_
        have hi9 : i < a_n a := by omega
        rw [nI_clamp (by have := hC.1.n; omega), hC.1.g hi9]
        have hU : dUpd w w (b + 7 + 3 * i) cI cL (a_da a i) (a_pa a i) (a_qa a i) (x_debts z i) := dUpd.rf (hC.1.d hi9)
        have hw : wfD (x_debts z i) := hC.1.wd hi9
        refine lv_astore (lv' := [(5, .ref (a_da a i)), (4, .int (nI i)), (2, .long (t0)), (0, .ref (a_x a)), (1, .int (wh))]) hx hb d_X_overAllDebts_21 hl (by decide) rfl (fun ls hl => ?_)
        refine lv_aload hx hb d_X_overAllDebts_23 (lv_at hl 0 rfl) ?_
        refine lv_ifnull hx hb d_X_overAllDebts_25 ?_
        refine lv_lload_n hx hb d_X_overAllDebts_28 rfl (lv_at hl 2 rfl) ?_
        refine lv_aload hx hb d_X_overAllDebts_29 (lv_at hl 0 rfl) ?_
        refine lv_iload_n hx hb d_X_overAllDebts_31 rfl (lv_at hl 4 rfl) ?_
        refine vp_callSl (W.runV (As := [.int (wh)]) (rest := [.long (t0)]) ⟨hx, hb, hml, hown, hts⟩ (c_part l D A w cI cL cD (b + 7 + 3 * i) (a_da a i) (a_pa a i) (a_qa a i) (x_debts z i) (wh) hU.1) (cwV 1 hts (gV _ mB_90 mB_91 mB_92 mB_24 mB_93) rfl rfl rfl (by decide +kernel) ⟨(Nat.le_of_ble_eq_true rfl), (Nat.le_of_ble_eq_true rfl)⟩) ⟨mPc_bl, va_recv hK hP (ci := 0) (q0 := (b + 7 + 3 * i)) rfl hU.o, mPc_pr hP hK hD⟩ rfl rfl hl.1 rfl (lv_room (Nat.le_of_ble_eq_true rfl)) d_X_overAllDebts_32 ⟨Nat.zero_le _, Nat.zero_le _⟩) (fun v_102 ev_102 => ?_)
        subst ev_102
        refine lv_ladd hx hb d_X_overAllDebts_35 ?_
        refine lv_lstore_n (lv' := [(2, .long ((t0 + (f_part (x_debts z i) (wh))))), (5, .ref (a_da a i)), (4, .int (nI i)), (0, .ref (a_x a)), (1, .int (wh))]) hx hb d_X_overAllDebts_36 rfl hl (by decide) rfl (fun ls hl => ?_)
        refine lv_iinc (v := nI (i + 1)) (lv' := [(4, .int (nI (i + 1))), (2, .long ((t0 + (f_part (x_debts z i) (wh))))), (5, .ref (a_da a i)), (0, .ref (a_x a)), (1, .int (wh))]) hx hb d_X_overAllDebts_37 hl (k := 2) rfl (nI_inc i) (by decide) rfl (fun ls hl => ?_)
        refine lv_goto (tgt := 5) hx hb d_X_overAllDebts_40 (by decide) ?_
        exact ih (i + 1) ((t0 + (f_part (x_debts z i) (wh)))) (by omega) (by rw [← hv]; rfl) ls (lv_sub hl [0, 1, 3, 4] rfl)
  exact loop (a_n a) 0 0 (by omega) (by rw [f_overAllDebts, hC.1.en, nI_clamp (by have := hC.1.n; omega)]) ls hl
theorem in_credit {x : Int32} (h1 : ¬ x < 20) (h2 : ¬ 36 ≤ x) : vp_in (x - 20) 16 := by
  rw [Int32.lt_iff_toInt_lt, show (20 : Int32).toInt = 20 from by decide] at h1
  rw [Int32.le_iff_toInt_le, show (36 : Int32).toInt = 36 from by decide] at h2
  obtain ⟨j, hj, rfl⟩ := nI_of (x := x) (fun h => by rw [Int32.lt_iff_toInt_lt, show (0 : Int32).toInt = 0 from by decide] at h; omega)
  rw [nI_toInt hj] at h1 h2
  rw [show (20 : Int32) = nI 20 from rfl, pk_sub (by omega)]
  exact vp_in_nI (by omega) (by decide)
def f_sum (z : XT) (wh : Int32) : Int64 :=
  if wh < 20 then (if wh = 0 then (f_overAllDebts (z) (wh))
    else if wh = 1 then (f_overAllDebts (z) (wh))
      else if wh = 2 then (f_overAllDebts (z) (wh))
        else if wh = 3 then (f_overAllDebts (z) (wh))
          else if wh = 4 then (f_overAllDebts (z) (wh))
            else if wh = 5 then (x_cnt z : Int32).toInt64
              else if wh = 6 then (x_today z : Int32).toInt64
                else if wh = 7 then (r_count (x_rates z) : Int32).toInt64
                  else -1)
  else if 36 ≤ wh then (if wh = 0 then (f_overAllDebts (z) (wh))
      else if wh = 1 then (f_overAllDebts (z) (wh))
        else if wh = 2 then (f_overAllDebts (z) (wh))
          else if wh = 3 then (f_overAllDebts (z) (wh))
            else if wh = 4 then (f_overAllDebts (z) (wh))
              else if wh = 5 then (x_cnt z : Int32).toInt64
                else if wh = 6 then (x_today z : Int32).toInt64
                  else if wh = 7 then (r_count (x_rates z) : Int32).toInt64
                    else -1)
    else (x_credit z ((wh - 20)).toNatClampNeg)
set_option maxHeartbeats 4000000 in
set_option maxRecDepth 100000 in
theorem c_sum (l : Launch) (D : va_G) (A : Nat → Prop) (w : va_W) (cI cL cD : ClassId) (b : Nat) (a : AD) (z : XT) (wh : Int32) (hC0 : cA w b cI cL cD a z) : Met l y_X_sum w_X_sum ({ frames := 2, cells := 0, slots := 0, locals := 46 }) (mPc D w (tyL cI cL cD) A [.ref (a_x a), .int (wh)]) (vp_Sl (fun z9 => z9 = f_sum z wh)) 0 0 (fun _ => False) := by
  refine Met.ofW (cc := b_X_sum) (maxL := 2) (ret := (some .long)) (by decide) rfl ?_
  intro p e s m args below meth c s₁ B hml hv
  obtain ⟨rfl, hP, hK, hD⟩ := hv
  have hx := B.exec
  have hb := B.bytes
  have hr := B.returns
  have hts := atoms_spec (ws := w_X_sum) B.pre
  have hown : s.vm.findClass R_X = some m.cls := findClass_of_methodNamed B.named
  have hlocks := B.notSynchronized
  have hS : va_S A s.heap s.heap [] := va_S.rf
  have hC : cUpd w w b cI cL cD a z := cUpd.rf hC0
  have hl := lv_entry ([.ref (a_x a), .int (wh)]) (n := 2) (Nat.le_of_ble_eq_true rfl)
  rw [lg_entry_eq]
  generalize (lg_sl ([.ref (a_x a), .int (wh)]) ++ List.replicate (2 - (lg_sl ([.ref (a_x a), .int (wh)])).length) Slot.unset).toArray = ls at hl ⊢
  have hl : lv_has ls 2 [(0, .ref (a_x a)), (1, .int (wh))] := hl
  refine lv_iload_n hx hb d_X_sum_0 rfl (lv_at hl 1 rfl) ?_
  refine lv_bipush (v := 20) hx hb d_X_sum_1 (by decide) ?_
  refine lv_icmp_lt (tgt := 22) hx hb d_X_sum_3 (by decide) (fun c_103 => ?_) (fun c_103 => ?_)
  · refine lv_iload_n hx hb d_X_sum_22 rfl (lv_at hl 1 rfl) ?_
    rcases Decidable.em (wh = (0 : Int32)) with c_104 | c_104
    · refine lv_tableIn (tgt := 68) hx hb d_X_sum_23 (by rw [c_104]; decide) (by rw [c_104]; decide) (by rw [c_104]; rfl) (by decide) ?_
      refine lv_aload_n hx hb d_X_sum_68 rfl (lv_at hl 0 rfl) ?_
      refine lv_iload_n hx hb d_X_sum_69 rfl (lv_at hl 1 rfl) ?_
      refine vp_callSl (W.runV (As := [.int (wh)]) (rest := []) ⟨hx, hb, hml, hown, hts⟩ (c_overAllDebts l D A w cI cL cD b a (z) (wh) hC.1) (cwV 1 hts (gV _ mB_87 mB_88 mB_1 mB_15 mB_89) rfl rfl rfl (by decide +kernel) ⟨(Nat.le_of_ble_eq_true rfl), (Nat.le_of_ble_eq_true rfl)⟩) ⟨mPc_bl, va_recv hK hP (ci := 2) (q0 := b) rfl hC.1.x, mPc_pr hP hK hD⟩ rfl rfl hl.1 rfl (lv_room (Nat.le_of_ble_eq_true rfl)) d_X_sum_70 ⟨Nat.zero_le _, Nat.zero_le _⟩) (fun v_105 ev_105 => ?_)
      subst ev_105
      exact W.lret (v := (f_overAllDebts (z) (wh))) hx hb hr (fun t ht hW => ⟨_, rfl, by rw [f_sum, if_pos c_103, if_pos c_104], ht⟩) t_nil d_X_sum_73
    · rcases Decidable.em (wh = (1 : Int32)) with c_106 | c_106
      · refine lv_tableIn (tgt := 68) hx hb d_X_sum_23 (by rw [c_106]; decide) (by rw [c_106]; decide) (by rw [c_106]; rfl) (by decide) ?_
        refine lv_aload_n hx hb d_X_sum_68 rfl (lv_at hl 0 rfl) ?_
        refine lv_iload_n hx hb d_X_sum_69 rfl (lv_at hl 1 rfl) ?_
        refine vp_callSl (W.runV (As := [.int (wh)]) (rest := []) ⟨hx, hb, hml, hown, hts⟩ (c_overAllDebts l D A w cI cL cD b a (z) (wh) hC.1) (cwV 1 hts (gV _ mB_87 mB_88 mB_1 mB_15 mB_89) rfl rfl rfl (by decide +kernel) ⟨(Nat.le_of_ble_eq_true rfl), (Nat.le_of_ble_eq_true rfl)⟩) ⟨mPc_bl, va_recv hK hP (ci := 2) (q0 := b) rfl hC.1.x, mPc_pr hP hK hD⟩ rfl rfl hl.1 rfl (lv_room (Nat.le_of_ble_eq_true rfl)) d_X_sum_70 ⟨Nat.zero_le _, Nat.zero_le _⟩) (fun v_107 ev_107 => ?_)
        subst ev_107
        exact W.lret (v := (f_overAllDebts (z) (wh))) hx hb hr (fun t ht hW => ⟨_, rfl, by rw [f_sum, if_pos c_103, if_neg c_104, if_pos c_106], ht⟩) t_nil d_X_sum_73
      · rcases Decidable.em (wh = (2 : Int32)) with c_108 | c_108
        · refine lv_tableIn (tgt := 68) hx hb d_X_sum_23 (by rw [c_108]; decide) (by rw [c_108]; decide) (by rw [c_108]; rfl) (by decide) ?_
          refine lv_aload_n hx hb d_X_sum_68 rfl (lv_at hl 0 rfl) ?_
          refine lv_iload_n hx hb d_X_sum_69 rfl (lv_at hl 1 rfl) ?_
          refine vp_callSl (W.runV (As := [.int (wh)]) (rest := []) ⟨hx, hb, hml, hown, hts⟩ (c_overAllDebts l D A w cI cL cD b a (z) (wh) hC.1) (cwV 1 hts (gV _ mB_87 mB_88 mB_1 mB_15 mB_89) rfl rfl rfl (by decide +kernel) ⟨(Nat.le_of_ble_eq_true rfl), (Nat.le_of_ble_eq_true rfl)⟩) ⟨mPc_bl, va_recv hK hP (ci := 2) (q0 := b) rfl hC.1.x, mPc_pr hP hK hD⟩ rfl rfl hl.1 rfl (lv_room (Nat.le_of_ble_eq_true rfl)) d_X_sum_70 ⟨Nat.zero_le _, Nat.zero_le _⟩) (fun v_109 ev_109 => ?_)
          subst ev_109
          exact W.lret (v := (f_overAllDebts (z) (wh))) hx hb hr (fun t ht hW => ⟨_, rfl, by rw [f_sum, if_pos c_103, if_neg c_104, if_neg c_106, if_pos c_108], ht⟩) t_nil d_X_sum_73
        · rcases Decidable.em (wh = (3 : Int32)) with c_110 | c_110
          · refine lv_tableIn (tgt := 68) hx hb d_X_sum_23 (by rw [c_110]; decide) (by rw [c_110]; decide) (by rw [c_110]; rfl) (by decide) ?_
            refine lv_aload_n hx hb d_X_sum_68 rfl (lv_at hl 0 rfl) ?_
            refine lv_iload_n hx hb d_X_sum_69 rfl (lv_at hl 1 rfl) ?_
            refine vp_callSl (W.runV (As := [.int (wh)]) (rest := []) ⟨hx, hb, hml, hown, hts⟩ (c_overAllDebts l D A w cI cL cD b a (z) (wh) hC.1) (cwV 1 hts (gV _ mB_87 mB_88 mB_1 mB_15 mB_89) rfl rfl rfl (by decide +kernel) ⟨(Nat.le_of_ble_eq_true rfl), (Nat.le_of_ble_eq_true rfl)⟩) ⟨mPc_bl, va_recv hK hP (ci := 2) (q0 := b) rfl hC.1.x, mPc_pr hP hK hD⟩ rfl rfl hl.1 rfl (lv_room (Nat.le_of_ble_eq_true rfl)) d_X_sum_70 ⟨Nat.zero_le _, Nat.zero_le _⟩) (fun v_111 ev_111 => ?_)
            subst ev_111
            exact W.lret (v := (f_overAllDebts (z) (wh))) hx hb hr (fun t ht hW => ⟨_, rfl, by rw [f_sum, if_pos c_103, if_neg c_104, if_neg c_106, if_neg c_108, if_pos c_110], ht⟩) t_nil d_X_sum_73
          · rcases Decidable.em (wh = (4 : Int32)) with c_112 | c_112
            · refine lv_tableIn (tgt := 68) hx hb d_X_sum_23 (by rw [c_112]; decide) (by rw [c_112]; decide) (by rw [c_112]; rfl) (by decide) ?_
              refine lv_aload_n hx hb d_X_sum_68 rfl (lv_at hl 0 rfl) ?_
              refine lv_iload_n hx hb d_X_sum_69 rfl (lv_at hl 1 rfl) ?_
              refine vp_callSl (W.runV (As := [.int (wh)]) (rest := []) ⟨hx, hb, hml, hown, hts⟩ (c_overAllDebts l D A w cI cL cD b a (z) (wh) hC.1) (cwV 1 hts (gV _ mB_87 mB_88 mB_1 mB_15 mB_89) rfl rfl rfl (by decide +kernel) ⟨(Nat.le_of_ble_eq_true rfl), (Nat.le_of_ble_eq_true rfl)⟩) ⟨mPc_bl, va_recv hK hP (ci := 2) (q0 := b) rfl hC.1.x, mPc_pr hP hK hD⟩ rfl rfl hl.1 rfl (lv_room (Nat.le_of_ble_eq_true rfl)) d_X_sum_70 ⟨Nat.zero_le _, Nat.zero_le _⟩) (fun v_113 ev_113 => ?_)
              subst ev_113
              exact W.lret (v := (f_overAllDebts (z) (wh))) hx hb hr (fun t ht hW => ⟨_, rfl, by rw [f_sum, if_pos c_103, if_neg c_104, if_neg c_106, if_neg c_108, if_neg c_110, if_pos c_112], ht⟩) t_nil d_X_sum_73
            · rcases Decidable.em (wh = (5 : Int32)) with c_114 | c_114
              · refine lv_tableIn (tgt := 74) hx hb d_X_sum_23 (by rw [c_114]; decide) (by rw [c_114]; decide) (by rw [c_114]; rfl) (by decide) ?_
                refine lv_aload_n hx hb d_X_sum_74 rfl (lv_at hl 0 rfl) ?_
                refine va_get (D := D) (ci := 2) (v := .int (x_cnt z)) (C := R_X) (T := F_X) (N := 5) hx hb hts (in_X _) hown hK hP b hC.1.x rfl 3 (by decide) (hts (.fieldLink R_X 26 "DebtRows" "debtCount" "I") (List.mem_cons_of_mem _ mB_56)) (fun _ h9 => h9) rfl d_X_sum_75 ?_
                refine lv_i2l hx hb d_X_sum_78 rfl ?_
                exact W.lret (v := (x_cnt z : Int32).toInt64) hx hb hr (fun t ht hW => ⟨_, rfl, by rw [f_sum, if_pos c_103, if_neg c_104, if_neg c_106, if_neg c_108, if_neg c_110, if_neg c_112, if_pos c_114], ht⟩) t_nil d_X_sum_79
              · rcases Decidable.em (wh = (6 : Int32)) with c_115 | c_115
                · refine lv_tableIn (tgt := 80) hx hb d_X_sum_23 (by rw [c_115]; decide) (by rw [c_115]; decide) (by rw [c_115]; rfl) (by decide) ?_
                  refine lv_aload_n hx hb d_X_sum_80 rfl (lv_at hl 0 rfl) ?_
                  refine va_get (D := D) (ci := 2) (v := .int (x_today z)) (C := R_X) (T := F_X) (N := 5) hx hb hts (in_X _) hown hK hP b hC.1.x rfl 4 (by decide) (hts (.fieldLink R_X 30 "DebtRows" "today" "I") (List.mem_cons_of_mem _ mB_57)) (fun _ h9 => h9) rfl d_X_sum_81 ?_
                  refine lv_i2l hx hb d_X_sum_84 rfl ?_
                  exact W.lret (v := (x_today z : Int32).toInt64) hx hb hr (fun t ht hW => ⟨_, rfl, by rw [f_sum, if_pos c_103, if_neg c_104, if_neg c_106, if_neg c_108, if_neg c_110, if_neg c_112, if_neg c_114, if_pos c_115], ht⟩) t_nil d_X_sum_85
                · rcases Decidable.em (wh = (7 : Int32)) with c_116 | c_116
                  · refine lv_tableIn (tgt := 86) hx hb d_X_sum_23 (by rw [c_116]; decide) (by rw [c_116]; decide) (by rw [c_116]; rfl) (by decide) ?_
                    refine lv_aload_n hx hb d_X_sum_86 rfl (lv_at hl 0 rfl) ?_
                    refine va_get (D := D) (ci := 2) (v := .ref (a_r0 a)) (C := R_X) (T := F_X) (N := 5) hx hb hts (in_X _) hown hK hP b hC.1.x rfl 0 (by decide) (hts (.fieldLink R_X 10 "DebtRows" "rates" "LDebtRows$Rates;") (List.mem_cons_of_mem _ mB_53)) (fun _ h9 => h9) rfl d_X_sum_87 ?_
                    refine va_get (D := D) (ci := 1) (v := .int (r_count (x_rates z))) (C := R_S) (T := F_S) (N := 4) hx hb hts (in_S _) hown hK hP (b + 1) hC.1.r.1 rfl 3 (by decide) (hts (.fieldLink R_X 52 "DebtRows$Rates" "count" "I") (List.mem_cons_of_mem _ mB_45)) (fun _ h9 => h9) rfl d_X_sum_90 ?_
                    refine lv_i2l hx hb d_X_sum_93 rfl ?_
                    exact W.lret (v := (r_count (x_rates z) : Int32).toInt64) hx hb hr (fun t ht hW => ⟨_, rfl, by rw [f_sum, if_pos c_103, if_neg c_104, if_neg c_106, if_neg c_108, if_neg c_110, if_neg c_112, if_neg c_114, if_neg c_115, if_pos c_116], ht⟩) t_nil d_X_sum_94
                  · refine lv_tableOut (tgt := 95) hx hb d_X_sum_23 (tsw8 c_104 c_106 c_108 c_110 c_112 c_114 c_115 c_116) (by decide) ?_
                    refine lv_ldc2 (own := R_X) (index := 126) (v := -1) hx hb hown (hts (.constantLong R_X 126 (-1)) (List.mem_cons_of_mem _ mB_94)) d_X_sum_95 ?_
                    exact W.lret (v := -1) hx hb hr (fun t ht hW => ⟨_, rfl, by rw [f_sum, if_pos c_103, if_neg c_104, if_neg c_106, if_neg c_108, if_neg c_110, if_neg c_112, if_neg c_114, if_neg c_115, if_neg c_116], ht⟩) t_nil d_X_sum_98
  · refine lv_iload_n hx hb d_X_sum_6 rfl (lv_at hl 1 rfl) ?_
    refine lv_bipush (v := 36) hx hb d_X_sum_7 (by decide) ?_
    refine lv_icmp_ge (tgt := 22) hx hb d_X_sum_9 (by decide) (fun c_117 => ?_) (fun c_117 => ?_)
    · refine lv_iload_n hx hb d_X_sum_22 rfl (lv_at hl 1 rfl) ?_
      rcases Decidable.em (wh = (0 : Int32)) with c_118 | c_118
      · refine lv_tableIn (tgt := 68) hx hb d_X_sum_23 (by rw [c_118]; decide) (by rw [c_118]; decide) (by rw [c_118]; rfl) (by decide) ?_
        refine lv_aload_n hx hb d_X_sum_68 rfl (lv_at hl 0 rfl) ?_
        refine lv_iload_n hx hb d_X_sum_69 rfl (lv_at hl 1 rfl) ?_
        refine vp_callSl (W.runV (As := [.int (wh)]) (rest := []) ⟨hx, hb, hml, hown, hts⟩ (c_overAllDebts l D A w cI cL cD b a (z) (wh) hC.1) (cwV 1 hts (gV _ mB_87 mB_88 mB_1 mB_15 mB_89) rfl rfl rfl (by decide +kernel) ⟨(Nat.le_of_ble_eq_true rfl), (Nat.le_of_ble_eq_true rfl)⟩) ⟨mPc_bl, va_recv hK hP (ci := 2) (q0 := b) rfl hC.1.x, mPc_pr hP hK hD⟩ rfl rfl hl.1 rfl (lv_room (Nat.le_of_ble_eq_true rfl)) d_X_sum_70 ⟨Nat.zero_le _, Nat.zero_le _⟩) (fun v_119 ev_119 => ?_)
        subst ev_119
        exact W.lret (v := (f_overAllDebts (z) (wh))) hx hb hr (fun t ht hW => ⟨_, rfl, by rw [f_sum, if_neg c_103, if_pos c_117, if_pos c_118], ht⟩) t_nil d_X_sum_73
      · rcases Decidable.em (wh = (1 : Int32)) with c_120 | c_120
        · refine lv_tableIn (tgt := 68) hx hb d_X_sum_23 (by rw [c_120]; decide) (by rw [c_120]; decide) (by rw [c_120]; rfl) (by decide) ?_
          refine lv_aload_n hx hb d_X_sum_68 rfl (lv_at hl 0 rfl) ?_
          refine lv_iload_n hx hb d_X_sum_69 rfl (lv_at hl 1 rfl) ?_
          refine vp_callSl (W.runV (As := [.int (wh)]) (rest := []) ⟨hx, hb, hml, hown, hts⟩ (c_overAllDebts l D A w cI cL cD b a (z) (wh) hC.1) (cwV 1 hts (gV _ mB_87 mB_88 mB_1 mB_15 mB_89) rfl rfl rfl (by decide +kernel) ⟨(Nat.le_of_ble_eq_true rfl), (Nat.le_of_ble_eq_true rfl)⟩) ⟨mPc_bl, va_recv hK hP (ci := 2) (q0 := b) rfl hC.1.x, mPc_pr hP hK hD⟩ rfl rfl hl.1 rfl (lv_room (Nat.le_of_ble_eq_true rfl)) d_X_sum_70 ⟨Nat.zero_le _, Nat.zero_le _⟩) (fun v_121 ev_121 => ?_)
          subst ev_121
          exact W.lret (v := (f_overAllDebts (z) (wh))) hx hb hr (fun t ht hW => ⟨_, rfl, by rw [f_sum, if_neg c_103, if_pos c_117, if_neg c_118, if_pos c_120], ht⟩) t_nil d_X_sum_73
        · rcases Decidable.em (wh = (2 : Int32)) with c_122 | c_122
          · refine lv_tableIn (tgt := 68) hx hb d_X_sum_23 (by rw [c_122]; decide) (by rw [c_122]; decide) (by rw [c_122]; rfl) (by decide) ?_
            refine lv_aload_n hx hb d_X_sum_68 rfl (lv_at hl 0 rfl) ?_
            refine lv_iload_n hx hb d_X_sum_69 rfl (lv_at hl 1 rfl) ?_
            refine vp_callSl (W.runV (As := [.int (wh)]) (rest := []) ⟨hx, hb, hml, hown, hts⟩ (c_overAllDebts l D A w cI cL cD b a (z) (wh) hC.1) (cwV 1 hts (gV _ mB_87 mB_88 mB_1 mB_15 mB_89) rfl rfl rfl (by decide +kernel) ⟨(Nat.le_of_ble_eq_true rfl), (Nat.le_of_ble_eq_true rfl)⟩) ⟨mPc_bl, va_recv hK hP (ci := 2) (q0 := b) rfl hC.1.x, mPc_pr hP hK hD⟩ rfl rfl hl.1 rfl (lv_room (Nat.le_of_ble_eq_true rfl)) d_X_sum_70 ⟨Nat.zero_le _, Nat.zero_le _⟩) (fun v_123 ev_123 => ?_)
            subst ev_123
            exact W.lret (v := (f_overAllDebts (z) (wh))) hx hb hr (fun t ht hW => ⟨_, rfl, by rw [f_sum, if_neg c_103, if_pos c_117, if_neg c_118, if_neg c_120, if_pos c_122], ht⟩) t_nil d_X_sum_73
          · rcases Decidable.em (wh = (3 : Int32)) with c_124 | c_124
            · refine lv_tableIn (tgt := 68) hx hb d_X_sum_23 (by rw [c_124]; decide) (by rw [c_124]; decide) (by rw [c_124]; rfl) (by decide) ?_
              refine lv_aload_n hx hb d_X_sum_68 rfl (lv_at hl 0 rfl) ?_
              refine lv_iload_n hx hb d_X_sum_69 rfl (lv_at hl 1 rfl) ?_
              refine vp_callSl (W.runV (As := [.int (wh)]) (rest := []) ⟨hx, hb, hml, hown, hts⟩ (c_overAllDebts l D A w cI cL cD b a (z) (wh) hC.1) (cwV 1 hts (gV _ mB_87 mB_88 mB_1 mB_15 mB_89) rfl rfl rfl (by decide +kernel) ⟨(Nat.le_of_ble_eq_true rfl), (Nat.le_of_ble_eq_true rfl)⟩) ⟨mPc_bl, va_recv hK hP (ci := 2) (q0 := b) rfl hC.1.x, mPc_pr hP hK hD⟩ rfl rfl hl.1 rfl (lv_room (Nat.le_of_ble_eq_true rfl)) d_X_sum_70 ⟨Nat.zero_le _, Nat.zero_le _⟩) (fun v_125 ev_125 => ?_)
              subst ev_125
              exact W.lret (v := (f_overAllDebts (z) (wh))) hx hb hr (fun t ht hW => ⟨_, rfl, by rw [f_sum, if_neg c_103, if_pos c_117, if_neg c_118, if_neg c_120, if_neg c_122, if_pos c_124], ht⟩) t_nil d_X_sum_73
            · rcases Decidable.em (wh = (4 : Int32)) with c_126 | c_126
              · refine lv_tableIn (tgt := 68) hx hb d_X_sum_23 (by rw [c_126]; decide) (by rw [c_126]; decide) (by rw [c_126]; rfl) (by decide) ?_
                refine lv_aload_n hx hb d_X_sum_68 rfl (lv_at hl 0 rfl) ?_
                refine lv_iload_n hx hb d_X_sum_69 rfl (lv_at hl 1 rfl) ?_
                refine vp_callSl (W.runV (As := [.int (wh)]) (rest := []) ⟨hx, hb, hml, hown, hts⟩ (c_overAllDebts l D A w cI cL cD b a (z) (wh) hC.1) (cwV 1 hts (gV _ mB_87 mB_88 mB_1 mB_15 mB_89) rfl rfl rfl (by decide +kernel) ⟨(Nat.le_of_ble_eq_true rfl), (Nat.le_of_ble_eq_true rfl)⟩) ⟨mPc_bl, va_recv hK hP (ci := 2) (q0 := b) rfl hC.1.x, mPc_pr hP hK hD⟩ rfl rfl hl.1 rfl (lv_room (Nat.le_of_ble_eq_true rfl)) d_X_sum_70 ⟨Nat.zero_le _, Nat.zero_le _⟩) (fun v_127 ev_127 => ?_)
                subst ev_127
                exact W.lret (v := (f_overAllDebts (z) (wh))) hx hb hr (fun t ht hW => ⟨_, rfl, by rw [f_sum, if_neg c_103, if_pos c_117, if_neg c_118, if_neg c_120, if_neg c_122, if_neg c_124, if_pos c_126], ht⟩) t_nil d_X_sum_73
              · rcases Decidable.em (wh = (5 : Int32)) with c_128 | c_128
                · refine lv_tableIn (tgt := 74) hx hb d_X_sum_23 (by rw [c_128]; decide) (by rw [c_128]; decide) (by rw [c_128]; rfl) (by decide) ?_
                  refine lv_aload_n hx hb d_X_sum_74 rfl (lv_at hl 0 rfl) ?_
                  refine va_get (D := D) (ci := 2) (v := .int (x_cnt z)) (C := R_X) (T := F_X) (N := 5) hx hb hts (in_X _) hown hK hP b hC.1.x rfl 3 (by decide) (hts (.fieldLink R_X 26 "DebtRows" "debtCount" "I") (List.mem_cons_of_mem _ mB_56)) (fun _ h9 => h9) rfl d_X_sum_75 ?_
                  refine lv_i2l hx hb d_X_sum_78 rfl ?_
                  exact W.lret (v := (x_cnt z : Int32).toInt64) hx hb hr (fun t ht hW => ⟨_, rfl, by rw [f_sum, if_neg c_103, if_pos c_117, if_neg c_118, if_neg c_120, if_neg c_122, if_neg c_124, if_neg c_126, if_pos c_128], ht⟩) t_nil d_X_sum_79
                · rcases Decidable.em (wh = (6 : Int32)) with c_129 | c_129
                  · refine lv_tableIn (tgt := 80) hx hb d_X_sum_23 (by rw [c_129]; decide) (by rw [c_129]; decide) (by rw [c_129]; rfl) (by decide) ?_
                    refine lv_aload_n hx hb d_X_sum_80 rfl (lv_at hl 0 rfl) ?_
                    refine va_get (D := D) (ci := 2) (v := .int (x_today z)) (C := R_X) (T := F_X) (N := 5) hx hb hts (in_X _) hown hK hP b hC.1.x rfl 4 (by decide) (hts (.fieldLink R_X 30 "DebtRows" "today" "I") (List.mem_cons_of_mem _ mB_57)) (fun _ h9 => h9) rfl d_X_sum_81 ?_
                    refine lv_i2l hx hb d_X_sum_84 rfl ?_
                    exact W.lret (v := (x_today z : Int32).toInt64) hx hb hr (fun t ht hW => ⟨_, rfl, by rw [f_sum, if_neg c_103, if_pos c_117, if_neg c_118, if_neg c_120, if_neg c_122, if_neg c_124, if_neg c_126, if_neg c_128, if_pos c_129], ht⟩) t_nil d_X_sum_85
                  · rcases Decidable.em (wh = (7 : Int32)) with c_130 | c_130
                    · refine lv_tableIn (tgt := 86) hx hb d_X_sum_23 (by rw [c_130]; decide) (by rw [c_130]; decide) (by rw [c_130]; rfl) (by decide) ?_
                      refine lv_aload_n hx hb d_X_sum_86 rfl (lv_at hl 0 rfl) ?_
                      refine va_get (D := D) (ci := 2) (v := .ref (a_r0 a)) (C := R_X) (T := F_X) (N := 5) hx hb hts (in_X _) hown hK hP b hC.1.x rfl 0 (by decide) (hts (.fieldLink R_X 10 "DebtRows" "rates" "LDebtRows$Rates;") (List.mem_cons_of_mem _ mB_53)) (fun _ h9 => h9) rfl d_X_sum_87 ?_
                      refine va_get (D := D) (ci := 1) (v := .int (r_count (x_rates z))) (C := R_S) (T := F_S) (N := 4) hx hb hts (in_S _) hown hK hP (b + 1) hC.1.r.1 rfl 3 (by decide) (hts (.fieldLink R_X 52 "DebtRows$Rates" "count" "I") (List.mem_cons_of_mem _ mB_45)) (fun _ h9 => h9) rfl d_X_sum_90 ?_
                      refine lv_i2l hx hb d_X_sum_93 rfl ?_
                      exact W.lret (v := (r_count (x_rates z) : Int32).toInt64) hx hb hr (fun t ht hW => ⟨_, rfl, by rw [f_sum, if_neg c_103, if_pos c_117, if_neg c_118, if_neg c_120, if_neg c_122, if_neg c_124, if_neg c_126, if_neg c_128, if_neg c_129, if_pos c_130], ht⟩) t_nil d_X_sum_94
                    · refine lv_tableOut (tgt := 95) hx hb d_X_sum_23 (tsw8 c_118 c_120 c_122 c_124 c_126 c_128 c_129 c_130) (by decide) ?_
                      refine lv_ldc2 (own := R_X) (index := 126) (v := -1) hx hb hown (hts (.constantLong R_X 126 (-1)) (List.mem_cons_of_mem _ mB_94)) d_X_sum_95 ?_
                      exact W.lret (v := -1) hx hb hr (fun t ht hW => ⟨_, rfl, by rw [f_sum, if_neg c_103, if_pos c_117, if_neg c_118, if_neg c_120, if_neg c_122, if_neg c_124, if_neg c_126, if_neg c_128, if_neg c_129, if_neg c_130], ht⟩) t_nil d_X_sum_98
    · refine lv_aload_n hx hb d_X_sum_12 rfl (lv_at hl 0 rfl) ?_
      refine va_get (D := D) (ci := 2) (v := .ref (a_cr a)) (C := R_X) (T := F_X) (N := 5) hx hb hts (in_X _) hown hK hP b hC.1.x rfl 2 (by decide) (hts (.fieldLink R_X 22 "DebtRows" "credit" "[J") (List.mem_cons_of_mem _ mB_55)) (fun _ h9 => h9) rfl d_X_sum_13 ?_
      refine lv_iload_n hx hb d_X_sum_16 rfl (lv_at hl 1 rfl) ?_
      refine lv_bipush (v := 20) hx hb d_X_sum_17 (by decide) ?_
      refine lv_isub hx hb d_X_sum_19 ?_
      refine va_lald hx hb hK hP (b + 6) 1 hC.1.cr rfl (in_credit c_103 c_117) d_X_sum_20 ?_
      exact W.lret (v := (x_credit z ((wh - 20)).toNatClampNeg)) hx hb hr (fun t ht hW => ⟨_, rfl, by rw [f_sum, if_neg c_103, if_neg c_117], ht⟩) t_nil d_X_sum_21
def f_debtor (z : XT) (q : Int32) (who : Int32) : Int32 × XT :=
  if okN (z) (q) then (if (f_isPerson (who)) = 0 then (0, z)
    else if d_state (x_debts z (ixN (q))) = 0 then (if (f_join (x_debts z (ixN (q))) (who)).1 = 0 then (0, y_debt (z) (ixN (q)) (f_join (x_debts z (ixN (q))) (who)).2)
        else (1, y_debt (z) (ixN (q)) (f_join (x_debts z (ixN (q))) (who)).2))
      else (0, z))
  else (0, z)
set_option maxHeartbeats 4000000 in
set_option maxRecDepth 100000 in
theorem c_debtor (l : Launch) (D : va_G) (A : Nat → Prop) (w : va_W) (cI cL cD : ClassId) (b : Nat) (a : AD) (z : XT) (q : Int32) (who : Int32) (hC0 : cA w b cI cL cD a z) : Met l y_X_debtor w_X_debtor ({ frames := 2, cells := 0, slots := 0, locals := 43 }) (mPc D w (tyL cI cL cD) A [.ref (a_x a), .int (q), .int (who)]) (va_Qi (fun z9 (_ : Unit) => z9 = (f_debtor z q who).1) (fun (_ : Unit) t => ∃ w9 : va_W, va_P D vwCl w9 t.heap ∧ va_D A w9 ∧ cAt w9 b cI cL cD (a_x a) ((f_debtor z q who).2) ∧ ∀ j, j < b → w9[j]? = w[j]?) A) 0 0 A := by
  refine Met.ofW (cc := b_X_debtor) (maxL := 4) (ret := (some .boolean)) (by decide) rfl ?_
  intro p e s m args below meth c s₁ B hml hv
  obtain ⟨rfl, hP, hK, hD⟩ := hv
  have hx := B.exec
  have hb := B.bytes
  have hr := B.returns
  have hts := atoms_spec (ws := w_X_debtor) B.pre
  have hown : s.vm.findClass R_X = some m.cls := findClass_of_methodNamed B.named
  have hlocks := B.notSynchronized
  have hS : va_S A s.heap s.heap [] := va_S.rf
  have hC : cUpd w w b cI cL cD a z := cUpd.rf hC0
  have hl := lv_entry ([.ref (a_x a), .int (q), .int (who)]) (n := 4) (Nat.le_of_ble_eq_true rfl)
  rw [lg_entry_eq]
  generalize (lg_sl ([.ref (a_x a), .int (q), .int (who)]) ++ List.replicate (4 - (lg_sl ([.ref (a_x a), .int (q), .int (who)])).length) Slot.unset).toArray = ls at hl ⊢
  have hl : lv_has ls 4 [(0, .ref (a_x a)), (1, .int (q)), (2, .int (who))] := hl
  refine lv_aload_n hx hb d_X_debtor_0 rfl (lv_at hl 0 rfl) ?_
  refine lv_iload_n hx hb d_X_debtor_1 rfl (lv_at hl 1 rfl) ?_
  refine va_csq (W.runV (As := [.int (q)]) (rest := []) ⟨hx, hb, hml, hown, hts⟩ (c_find l D A w cI cL cD b a (z) (q) hC.1) (cwV 1 hts (gV _ mB_69 mB_70 mB_0 mB_15 mB_71) rfl rfl rfl (by decide +kernel) ⟨(Nat.le_of_ble_eq_true rfl), (Nat.le_of_ble_eq_true rfl)⟩) ⟨mPc_bl, va_recv hK hP (ci := 2) (q0 := b) rfl hC.1.x, mPc_pr hP hK hD⟩ rfl rfl hl.1 rfl (lv_room (Nat.le_of_ble_eq_true rfl)) d_X_debtor_2 ⟨Nat.zero_le _, Nat.zero_le _⟩) (fun v_131 ev_131 => ?_)
  rcases Decidable.em (okN (z) (q)) with c_132 | c_132
  · rw [if_pos c_132] at ev_131
    subst ev_131
    have hi_133 : ixN (q) < a_n a := (okN_ix c_132 hC.1.en hC.1.n).1
    have hU : dUpd w w (b + 7 + 3 * (ixN (q))) cI cL (a_da a (ixN (q))) (a_pa a (ixN (q))) (a_qa a (ixN (q))) (x_debts z (ixN (q))) := dUpd.rf (hC.1.d hi_133)
    have hw : wfD (x_debts z (ixN (q))) := hC.1.wd hi_133
    refine lv_astore_n (lv' := [(3, .ref (a_da a (ixN (q)))), (0, .ref (a_x a)), (1, .int (q)), (2, .int (who))]) hx hb d_X_debtor_5 rfl hl (by decide) rfl (fun ls hl => ?_)
    refine lv_aload_n hx hb d_X_debtor_6 rfl (lv_at hl 0 rfl) ?_
    refine lv_ifnull hx hb d_X_debtor_7 ?_
    refine lv_iload_n hx hb d_X_debtor_10 rfl (lv_at hl 3 rfl) ?_
    refine vp_callSi (W.runS (As := [.int (who)]) (rest := []) ⟨hx, hb, hml, hown, hts⟩ (c_isPerson l (who)) (cwS 1 hts (gS _ mB_72 mB_73 mB_15 mB_74) rfl rfl rfl (by decide +kernel) ⟨(Nat.le_of_ble_eq_true rfl), (Nat.le_of_ble_eq_true rfl)⟩) ⟨fun _ _ _ _ q => q, fun U _ _ => ⟨rfl, trivial⟩⟩ rfl rfl hl.1 rfl (lv_room (Nat.le_of_ble_eq_true rfl)) d_X_debtor_11 ⟨Nat.zero_le _, Nat.zero_le _⟩) (fun v_134 ev_134 => ?_)
    subst ev_134
    refine lv_if_ne (tgt := 19) hx hb d_X_debtor_14 (by decide) (fun c_135 => ?_) (fun c_135 => ?_)
    · refine lv_aload_n hx hb d_X_debtor_19 rfl (lv_at hl 0 rfl) ?_
      refine va_get (D := D) (ci := 0) (v := .int (d_state (x_debts z (ixN (q))))) (C := R_D) (T := F_D) (N := 15) hx hb hts (in_D _) hown hK hP (b + 7 + 3 * (ixN (q))) hU.o rfl 5 (by decide) (hts (.fieldLink R_X 88 "DebtRows$Debt" "state" "I") (List.mem_cons_of_mem _ mB_217)) (fun _ h9 => h9) rfl d_X_debtor_20 ?_
      refine lv_if_ne (tgt := 38) hx hb d_X_debtor_23 (by decide) (fun c_136 => ?_) (fun c_136 => ?_)
      · refine lv_iconst (v := 0) hx hb d_X_debtor_38 (by decide) ?_
        exact W.zret (v := 0) hx hb hr rfl (fun t ht hW => ⟨⟨_, (), rfl, by rw [f_debtor, if_pos c_132, if_neg c_135, if_neg c_136], w, by rw [ht]; exact hP, hD, by rw [f_debtor, if_pos c_132, if_neg c_135, if_neg c_136]; exact hC.at, hC.2⟩, hS.F ht⟩) hS.2.2 d_X_debtor_39
      · refine lv_aload_n hx hb d_X_debtor_26 rfl (lv_at hl 0 rfl) ?_
        refine lv_iload_n hx hb d_X_debtor_27 rfl (lv_at hl 3 rfl) ?_
        refine va_calli (va_runV (As := [.int (who)]) (rest := []) ⟨hx, hb, hml, hown, hts⟩ (c_join l D A w cI cL cD (b + 7 + 3 * (ixN (q))) (a_da a (ixN (q))) (a_pa a (ixN (q))) (a_qa a (ixN (q))) (x_debts z (ixN (q))) (who) hU.1 hw) (cwV 1 hts (gV _ mB_75 mB_76 mB_77 mB_24 mB_78) rfl rfl rfl (by decide +kernel) ⟨(Nat.le_of_ble_eq_true rfl), (Nat.le_of_ble_eq_true rfl)⟩) ⟨mPc_bl, va_recv hK hP (ci := 0) (q0 := (b + 7 + 3 * (ixN (q)))) rfl hU.o, mPc_pr hP hK hD⟩ rfl rfl hl.1 rfl (lv_room (Nat.le_of_ble_eq_true rfl)) d_X_debtor_28 ⟨Nat.zero_le _, Nat.zero_le _⟩) hS (fun _ _ h => h) (fun _ h => h) (fun v_137 u9 t H locs ht hvm ev_137 hB hz1 hk1 hS => ?_)
        obtain ⟨w_138, hP, hD, hU1⟩ := hB
        rw [ht] at hP
        have hU := hU.tr hU1
        have hw : wfD ((f_join (x_debts z (ixN (q))) (who)).2) := wf_join hw
        subst ev_137
        refine lv_if_eq (tgt := 38) hx hb d_X_debtor_31 (by decide) (fun c_139 => ?_) (fun c_139 => ?_)
        · refine lv_iconst (v := 0) hx hb d_X_debtor_38 (by decide) ?_
          have hC := hC.d hi_133 hU hw
          exact W.zret (v := 0) hx hb hr rfl (fun t ht hW => ⟨⟨_, (), rfl, by rw [f_debtor, if_pos c_132, if_neg c_135, if_pos c_136, if_pos c_139], w_138, by rw [ht]; exact hP, hD, by rw [f_debtor, if_pos c_132, if_neg c_135, if_pos c_136, if_pos c_139]; exact hC.at, hC.2⟩, hS.F ht⟩) hS.2.2 d_X_debtor_39
        · refine lv_iconst (v := 1) hx hb d_X_debtor_34 (by decide) ?_
          refine lv_goto (tgt := 39) hx hb d_X_debtor_35 (by decide) ?_
          have hC := hC.d hi_133 hU hw
          exact W.zret (v := 1) hx hb hr rfl (fun t ht hW => ⟨⟨_, (), rfl, by rw [f_debtor, if_pos c_132, if_neg c_135, if_pos c_136, if_neg c_139], w_138, by rw [ht]; exact hP, hD, by rw [f_debtor, if_pos c_132, if_neg c_135, if_pos c_136, if_neg c_139]; exact hC.at, hC.2⟩, hS.F ht⟩) hS.2.2 d_X_debtor_39
    · refine lv_iconst (v := 0) hx hb d_X_debtor_17 (by decide) ?_
      exact W.zret (v := 0) hx hb hr rfl (fun t ht hW => ⟨⟨_, (), rfl, by rw [f_debtor, if_pos c_132, if_pos c_135], w, by rw [ht]; exact hP, hD, by rw [f_debtor, if_pos c_132, if_pos c_135]; exact hC.at, hC.2⟩, hS.F ht⟩) hS.2.2 d_X_debtor_18
  · rw [if_neg c_132] at ev_131
    subst ev_131
    refine lv_astore_nN (lv' := [(3, .null), (0, .ref (a_x a)), (1, .int (q)), (2, .int (who))]) hx hb d_X_debtor_5 rfl hl (by decide) rfl (fun ls hl => ?_)
    refine lv_aload_nN hx hb d_X_debtor_6 rfl (lv_at hl 0 rfl) ?_
    refine lv_ifnullN (tgt := 17) hx hb d_X_debtor_7 (by decide) ?_
    refine lv_iconst (v := 0) hx hb d_X_debtor_17 (by decide) ?_
    exact W.zret (v := 0) hx hb hr rfl (fun t ht hW => ⟨⟨_, (), rfl, by rw [f_debtor, if_neg c_132], w, by rw [ht]; exact hP, hD, by rw [f_debtor, if_neg c_132]; exact hC.at, hC.2⟩, hS.F ht⟩) hS.2.2 d_X_debtor_18
def f_notified (z : XT) (q : Int32) : Int32 × Int32 × XT :=
  if okN (z) (q) then (if d_state (x_debts z (ixN (q))) = 0 then (if (f_isTooLate (x_debts z (ixN (q))) (x_today z)) = 0 then (0, d_due (f_runAgain (s_due (x_debts z (ixN (q))) ((x_today z + 10))) (x_today z)), y_debt (z) (ixN (q)) (f_runAgain (s_due (x_debts z (ixN (q))) ((x_today z + 10))) (x_today z)))
      else (0, 0, z))
    else (0, 0, z))
  else (1, 0, z)
set_option maxHeartbeats 4000000 in
set_option maxRecDepth 100000 in
theorem c_notified (l : Launch) (hl9 : l.stackTraces = false) (D : va_G) (A : Nat → Prop) (w : va_W) (cI cL cD : ClassId) (b : Nat) (a : AD) (z : XT) (q : Int32) (hC0 : cA w b cI cL cD a z) : vx_Met l y_X_notified w_X_notified ({ frames := 7, cells := 1, slots := 6, locals := 112 }) (ePc D w (tyL cI cL cD) A [.ref (a_x a), .int (q)]) (va_Qi (fun z9 (_ : Unit) => (f_notified z q).1 = 0 ∧ z9 = (f_notified z q).2.1) (fun (_ : Unit) t => ∃ w9 : va_W, va_P D vwCl w9 t.heap ∧ va_D A w9 ∧ cAt w9 b cI cL cD (a_x a) ((f_notified z q).2.2) ∧ ∀ j, j < b → w9[j]? = w[j]?) A) (vx_X (fun _ : Unit => True) (fun E9 _ t => exN ["java/lang/IllegalArgumentException"] (f_notified z q).1 E9 ∧ va_P D vwCl w t.heap) A) 1 6 A := by
  refine vx_ofW (cc := b_X_notified) (maxL := 3) (ret := (some .int)) (by decide) rfl ?_
  intro p e s m args below meth c s₁ B hml hEx hv
  obtain ⟨rfl, hP, hK, hD, hE⟩ := hv
  have hx := B.exec
  have hb := B.bytes
  have hr := B.returns
  have hts := atoms_spec (ws := w_X_notified) B.pre
  have hown : s.vm.findClass R_X = some m.cls := findClass_of_methodNamed B.named
  have hlocks := B.notSynchronized
  have hS : va_S A s.heap s.heap [] := va_S.rf
  have hC : cUpd w w b cI cL cD a z := cUpd.rf hC0
  have hl := lv_entry ([.ref (a_x a), .int (q)]) (n := 3) (Nat.le_of_ble_eq_true rfl)
  rw [lg_entry_eq]
  generalize (lg_sl ([.ref (a_x a), .int (q)]) ++ List.replicate (3 - (lg_sl ([.ref (a_x a), .int (q)])).length) Slot.unset).toArray = ls at hl ⊢
  have hl : lv_has ls 3 [(0, .ref (a_x a)), (1, .int (q))] := hl
  refine lv_aload_n hx hb d_X_notified_0 rfl (lv_at hl 0 rfl) ?_
  refine lv_iload_n hx hb d_X_notified_1 rfl (lv_at hl 1 rfl) ?_
  refine vz_callq (vx_runV (As := [.int (q)]) (rest := []) ⟨hx, hb, hml, hown, hts⟩ (c_findOrRefuse l hl9 D A w cI cL cD b a (z) (q) hC.1) (cwV 1 hts (gV _ mB_254 mB_255 mB_3 mB_15 mB_256) rfl rfl rfl (by decide +kernel) ⟨(Nat.le_of_ble_eq_true rfl), (Nat.le_of_ble_eq_true rfl)⟩) ⟨ePc_bl, va_recv hK hP (ci := 2) (q0 := b) rfl hC.1.x, ePc_pr hP hK hD hE hS⟩ rfl rfl hl.1 rfl (lv_room (Nat.le_of_ble_eq_true rfl)) d_X_notified_2 ⟨(Nat.le_of_ble_eq_true rfl), (Nat.le_of_ble_eq_true rfl)⟩) hS (fun _ _ h => h) (fun _ h => h) (fun _ _ h => h) (fun E9 ce q9 u9 t H locs ht hvm hp9 hB hz1 hk1 hS hce hcv hcl => ?_) (fun v_140 u9 t H locs ht hvm hp9 hB hz1 hk1 hS => ?_)
  · obtain ⟨rfl, c_141, hP⟩ := hB
    rw [ht] at hP
    exact vx_out (E := "java/lang/IllegalArgumentException") (fun x hx => (hEx x hx).elim) hlocks hce hcv hcl (fun t ht ha => ⟨(), trivial, ⟨⟨0, rfl, by rw [f_notified, if_neg c_141]; rfl⟩, by rw [ht]; exact hP⟩, hS.F ht⟩) hS.2.2 (Nat.le_of_ble_eq_true rfl) (Nat.le_of_ble_eq_true rfl)
  · obtain ⟨c_141, ev_140⟩ := hp9
    subst ev_140
    have hP := hB
    rw [ht] at hP
    have hi_142 : ixN (q) < a_n a := (okN_ix c_141 hC.1.en hC.1.n).1
    have hU : dUpd w w (b + 7 + 3 * (ixN (q))) cI cL (a_da a (ixN (q))) (a_pa a (ixN (q))) (a_qa a (ixN (q))) (x_debts z (ixN (q))) := dUpd.rf (hC.1.d hi_142)
    have hw : wfD (x_debts z (ixN (q))) := hC.1.wd hi_142
    refine lv_astore_n (lv' := [(2, .ref (a_da a (ixN (q)))), (0, .ref (a_x a)), (1, .int (q))]) hx hb d_X_notified_5 rfl hl (by decide) rfl (fun ls hl => ?_)
    refine lv_aload_n hx hb d_X_notified_6 rfl (lv_at hl 0 rfl) ?_
    refine va_get (D := D) (ci := 0) (v := .int (d_state (x_debts z (ixN (q))))) (C := R_D) (T := F_D) (N := 15) hx hb hts (in_D _) hown hK hP (b + 7 + 3 * (ixN (q))) hU.o rfl 5 (by decide) (hts (.fieldLink R_X 88 "DebtRows$Debt" "state" "I") (List.mem_cons_of_mem _ mB_217)) (fun _ h9 => h9) rfl d_X_notified_7 ?_
    refine lv_if_ne (tgt := 24) hx hb d_X_notified_10 (by decide) (fun c_143 => ?_) (fun c_143 => ?_)
    · refine lv_iconst (v := 0) hx hb d_X_notified_24 (by decide) ?_
      refine vx_ret (W.widen (k := 1) (n := 6) (Nat.le_of_ble_eq_true rfl) (Nat.le_of_ble_eq_true rfl) ?_)
      exact W.iret (v := 0) hx hb hr (fun t ht hW => ⟨⟨_, (), rfl, ⟨by rw [f_notified, if_pos c_141, if_neg c_143], by rw [f_notified, if_pos c_141, if_neg c_143]⟩, w, by rw [ht]; exact hP, hD, by rw [f_notified, if_pos c_141, if_neg c_143]; exact hC.at, hC.2⟩, hS.F ht⟩) hS.2.2 d_X_notified_25
    · refine lv_aload_n hx hb d_X_notified_13 rfl (lv_at hl 0 rfl) ?_
      refine lv_aload_n hx hb d_X_notified_14 rfl (lv_at hl 1 rfl) ?_
      refine va_get (D := D) (ci := 2) (v := .int (x_today z)) (C := R_X) (T := F_X) (N := 5) hx hb hts (in_X _) hown hK hP b hC.1.x rfl 4 (by decide) (hts (.fieldLink R_X 30 "DebtRows" "today" "I") (List.mem_cons_of_mem _ mB_57)) (fun _ h9 => h9) rfl d_X_notified_15 ?_
      refine vp_callSi (W.runV (As := [.int (x_today z)]) (rest := []) ⟨hx, hb, hml, hown, hts⟩ (c_isTooLate l D A w cI cL cD (b + 7 + 3 * (ixN (q))) (a_da a (ixN (q))) (a_pa a (ixN (q))) (a_qa a (ixN (q))) (x_debts z (ixN (q))) (x_today z) hU.1) (cwV 1 hts (gV _ mB_257 mB_258 mB_259 mB_24 mB_260) rfl rfl rfl (by decide +kernel) ⟨(Nat.le_of_ble_eq_true rfl), (Nat.le_of_ble_eq_true rfl)⟩) ⟨mPc_bl, va_recv hK hP (ci := 0) (q0 := (b + 7 + 3 * (ixN (q)))) rfl hU.o, mPc_pr hP hK hD⟩ rfl rfl hl.1 rfl (lv_room (Nat.le_of_ble_eq_true rfl)) d_X_notified_18 ⟨(Nat.le_of_ble_eq_true rfl), (Nat.le_of_ble_eq_true rfl)⟩) (fun v_144 ev_144 => ?_)
      subst ev_144
      refine lv_if_eq (tgt := 26) hx hb d_X_notified_21 (by decide) (fun c_145 => ?_) (fun c_145 => ?_)
      · refine lv_aload_n hx hb d_X_notified_26 rfl (lv_at hl 0 rfl) ?_
        refine lv_aload_n hx hb d_X_notified_27 rfl (lv_at hl 1 rfl) ?_
        refine va_get (D := D) (ci := 2) (v := .int (x_today z)) (C := R_X) (T := F_X) (N := 5) hx hb hts (in_X _) hown hK hP b hC.1.x rfl 4 (by decide) (hts (.fieldLink R_X 30 "DebtRows" "today" "I") (List.mem_cons_of_mem _ mB_57)) (fun _ h9 => h9) rfl d_X_notified_28 ?_
        refine lv_bipush (v := 10) hx hb d_X_notified_31 (by decide) ?_
        refine lv_iadd hx hb d_X_notified_33 ?_
        refine va_put (D := D) (ci := 0) (v := .int ((x_today z + 10))) (ty := .int) (C := R_D) (T := F_D) (N := 15) hx hb hts (in_D _) t_D to_D nn_D hown hK hP hD hS (b + 7 + 3 * (ixN (q))) hU.o rfl 6 (by decide) (hts (.fieldLink R_X 97 "DebtRows$Debt" "dueDay" "I") (List.mem_cons_of_mem _ mB_219)) (fun _ h9 => h9) rfl (by decide +kernel) rfl rfl (Nat.le_of_ble_eq_true rfl) d_X_notified_34 (fun H locs hP hD hS => ?_)
        have hU := hU.so (s_due (x_debts z (ixN (q))) ((x_today z + 10))) rfl rfl
        have hP : va_P D vwCl (w.set (b + 7 + 3 * (ixN (q))) ((a_da a (ixN (q))), dE (a_pa a (ixN (q))) (a_qa a (ixN (q))) (s_due (x_debts z (ixN (q))) ((x_today z + 10))))) H := hP
        have hD : va_D A (w.set (b + 7 + 3 * (ixN (q))) ((a_da a (ixN (q))), dE (a_pa a (ixN (q))) (a_qa a (ixN (q))) (s_due (x_debts z (ixN (q))) ((x_today z + 10))))) := hD
        generalize w.set (b + 7 + 3 * (ixN (q))) ((a_da a (ixN (q))), dE (a_pa a (ixN (q))) (a_qa a (ixN (q))) (s_due (x_debts z (ixN (q))) ((x_today z + 10)))) = w_146 at hP hD hU
        have hw : wfD (s_due (x_debts z (ixN (q))) ((x_today z + 10))) := hw
        refine lv_aload_n hx hb d_X_notified_37 rfl (lv_at hl 0 rfl) ?_
        refine lv_aload_n hx hb d_X_notified_38 rfl (lv_at hl 1 rfl) ?_
        refine va_get (D := D) (ci := 2) (v := .int (x_today z)) (C := R_X) (T := F_X) (N := 5) hx hb hts (in_X _) hown hK hP b (hU.out hC.1.x (by omega)) rfl 4 (by decide) (hts (.fieldLink R_X 30 "DebtRows" "today" "I") (List.mem_cons_of_mem _ mB_57)) (fun _ h9 => h9) rfl d_X_notified_39 ?_
        refine va_callv (va_runV (As := [.int (x_today z)]) (rest := []) ⟨hx, hb, hml, hown, hts⟩ (c_runAgain l D A w_146 cI cL cD (b + 7 + 3 * (ixN (q))) (a_da a (ixN (q))) (a_pa a (ixN (q))) (a_qa a (ixN (q))) (s_due (x_debts z (ixN (q))) ((x_today z + 10))) (x_today z) hU.1) (cwV 1 hts (gV _ mB_261 mB_262 mB_263 mB_24 mB_264) rfl rfl rfl (by decide +kernel) ⟨(Nat.le_of_ble_eq_true rfl), (Nat.le_of_ble_eq_true rfl)⟩) ⟨mPc_bl, va_recv hK hP (ci := 0) (q0 := (b + 7 + 3 * (ixN (q)))) rfl hU.o, mPc_pr hP hK hD⟩ rfl rfl hl.1 rfl (lv_room (Nat.le_of_ble_eq_true rfl)) d_X_notified_42 ⟨(Nat.le_of_ble_eq_true rfl), (Nat.le_of_ble_eq_true rfl)⟩) hS (fun _ _ h => h) (fun _ h => h) (fun u9 t H locs ht hvm ev_147 hB hz1 hk1 hS => ?_)
        obtain ⟨w_148, hP, hD, hU1⟩ := hB
        rw [ht] at hP
        have hU := hU.tr hU1
        have hw : wfD ((f_runAgain (s_due (x_debts z (ixN (q))) ((x_today z + 10))) (x_today z))) := wf_runAgain hw
        refine lv_aload_n hx hb d_X_notified_45 rfl (lv_at hl 0 rfl) ?_
        refine va_get (D := D) (ci := 0) (v := .int (d_due (f_runAgain (s_due (x_debts z (ixN (q))) ((x_today z + 10))) (x_today z)))) (C := R_D) (T := F_D) (N := 15) hx hb hts (in_D _) hown hK hP (b + 7 + 3 * (ixN (q))) hU.o rfl 6 (by decide) (hts (.fieldLink R_X 97 "DebtRows$Debt" "dueDay" "I") (List.mem_cons_of_mem _ mB_219)) (fun _ h9 => h9) rfl d_X_notified_46 ?_
        have hC := hC.d hi_142 hU hw
        refine vx_ret (W.widen (k := 1) (n := 6) (Nat.le_of_ble_eq_true rfl) (Nat.le_of_ble_eq_true rfl) ?_)
        exact W.iret (v := d_due (f_runAgain (s_due (x_debts z (ixN (q))) ((x_today z + 10))) (x_today z))) hx hb hr (fun t ht hW => ⟨⟨_, (), rfl, ⟨by rw [f_notified, if_pos c_141, if_pos c_143, if_pos c_145], by rw [f_notified, if_pos c_141, if_pos c_143, if_pos c_145]⟩, w_148, by rw [ht]; exact hP, hD, by rw [f_notified, if_pos c_141, if_pos c_143, if_pos c_145]; exact hC.at, hC.2⟩, hS.F ht⟩) hS.2.2 d_X_notified_49
      · refine lv_iconst (v := 0) hx hb d_X_notified_24 (by decide) ?_
        refine vx_ret (W.widen (k := 1) (n := 6) (Nat.le_of_ble_eq_true rfl) (Nat.le_of_ble_eq_true rfl) ?_)
        exact W.iret (v := 0) hx hb hr (fun t ht hW => ⟨⟨_, (), rfl, ⟨by rw [f_notified, if_pos c_141, if_pos c_143, if_neg c_145], by rw [f_notified, if_pos c_141, if_pos c_143, if_neg c_145]⟩, w, by rw [ht]; exact hP, hD, by rw [f_notified, if_pos c_141, if_pos c_143, if_neg c_145]; exact hC.at, hC.2⟩, hS.F ht⟩) hS.2.2 d_X_notified_25
def f_instalments (z : XT) (q : Int32) (n : Int32) : Int32 × Int32 × XT :=
  if okN (z) (q) then (if n < 2 then (1, 0, z)
    else if n ≤ 12 then (if d_state (x_debts z (ixN (q))) = 1 then (0, 1, y_debt (z) (ixN (q)) (f_defer (f_fixInterest (x_debts z (ixN (q))) (x_rates z) (x_today z)) (x_today z) (n)))
        else (0, 0, z))
      else (1, 0, z))
  else (1, 0, z)
set_option maxHeartbeats 4000000 in
set_option maxRecDepth 100000 in
theorem c_instalments (l : Launch) (hl9 : l.stackTraces = false) (D : va_G) (A : Nat → Prop) (w : va_W) (cI cL cD : ClassId) (b : Nat) (a : AD) (z : XT) (q : Int32) (n : Int32) (hC0 : cA w b cI cL cD a z) : vx_Met l y_X_instalments w_X_instalments ({ frames := 7, cells := 2, slots := 12, locals := 112 }) (ePc D w (tyL cI cL cD) A [.ref (a_x a), .int (q), .int (n)]) (va_Qi (fun z9 (_ : Unit) => (f_instalments z q n).1 = 0 ∧ z9 = (f_instalments z q n).2.1) (fun (_ : Unit) t => ∃ w9 : va_W, va_P D vwCl w9 t.heap ∧ va_D A w9 ∧ cAt w9 b cI cL cD (a_x a) ((f_instalments z q n).2.2) ∧ ∀ j, j < b → w9[j]? = w[j]?) A) (vx_X (fun _ : Unit => True) (fun E9 _ t => exN ["java/lang/IllegalArgumentException"] (f_instalments z q n).1 E9 ∧ va_P D vwCl w t.heap) A) 2 12 A := by
  refine vx_ofW (cc := b_X_instalments) (maxL := 4) (ret := (some .int)) (by decide) rfl ?_
  intro p e s m args below meth c s₁ B hml hEx hv
  obtain ⟨rfl, hP, hK, hD, hE⟩ := hv
  have hx := B.exec
  have hb := B.bytes
  have hr := B.returns
  have hts := atoms_spec (ws := w_X_instalments) B.pre
  have hown : s.vm.findClass R_X = some m.cls := findClass_of_methodNamed B.named
  have hlocks := B.notSynchronized
  have hS : va_S A s.heap s.heap [] := va_S.rf
  have hC : cUpd w w b cI cL cD a z := cUpd.rf hC0
  have hl := lv_entry ([.ref (a_x a), .int (q), .int (n)]) (n := 4) (Nat.le_of_ble_eq_true rfl)
  rw [lg_entry_eq]
  generalize (lg_sl ([.ref (a_x a), .int (q), .int (n)]) ++ List.replicate (4 - (lg_sl ([.ref (a_x a), .int (q), .int (n)])).length) Slot.unset).toArray = ls at hl ⊢
  have hl : lv_has ls 4 [(0, .ref (a_x a)), (1, .int (q)), (2, .int (n))] := hl
  refine lv_aload_n hx hb d_X_instalments_0 rfl (lv_at hl 0 rfl) ?_
  refine lv_iload_n hx hb d_X_instalments_1 rfl (lv_at hl 1 rfl) ?_
  refine vz_callq (vx_runV (As := [.int (q)]) (rest := []) ⟨hx, hb, hml, hown, hts⟩ (c_findOrRefuse l hl9 D A w cI cL cD b a (z) (q) hC.1) (cwV 1 hts (gV _ mB_254 mB_255 mB_3 mB_15 mB_256) rfl rfl rfl (by decide +kernel) ⟨(Nat.le_of_ble_eq_true rfl), (Nat.le_of_ble_eq_true rfl)⟩) ⟨ePc_bl, va_recv hK hP (ci := 2) (q0 := b) rfl hC.1.x, ePc_pr hP hK hD hE hS⟩ rfl rfl hl.1 rfl (lv_room (Nat.le_of_ble_eq_true rfl)) d_X_instalments_2 ⟨(Nat.le_of_ble_eq_true rfl), (Nat.le_of_ble_eq_true rfl)⟩) hS (fun _ _ h => h) (fun _ h => h) (fun _ _ h => h) (fun E9 ce q9 u9 t H locs ht hvm hp9 hB hz1 hk1 hS hce hcv hcl => ?_) (fun v_149 u9 t H locs ht hvm hp9 hB hz1 hk1 hS => ?_)
  · obtain ⟨rfl, c_150, hP⟩ := hB
    rw [ht] at hP
    exact vx_out (E := "java/lang/IllegalArgumentException") (fun x hx => (hEx x hx).elim) hlocks hce hcv hcl (fun t ht ha => ⟨(), trivial, ⟨⟨0, rfl, by rw [f_instalments, if_neg c_150]; rfl⟩, by rw [ht]; exact hP⟩, hS.F ht⟩) hS.2.2 (Nat.le_of_ble_eq_true rfl) (Nat.le_of_ble_eq_true rfl)
  · obtain ⟨c_150, ev_149⟩ := hp9
    subst ev_149
    have hP := hB
    rw [ht] at hP
    have hi_151 : ixN (q) < a_n a := (okN_ix c_150 hC.1.en hC.1.n).1
    have hU : dUpd w w (b + 7 + 3 * (ixN (q))) cI cL (a_da a (ixN (q))) (a_pa a (ixN (q))) (a_qa a (ixN (q))) (x_debts z (ixN (q))) := dUpd.rf (hC.1.d hi_151)
    have hw : wfD (x_debts z (ixN (q))) := hC.1.wd hi_151
    refine lv_astore_n (lv' := [(3, .ref (a_da a (ixN (q)))), (0, .ref (a_x a)), (1, .int (q)), (2, .int (n))]) hx hb d_X_instalments_5 rfl hl (by decide) rfl (fun ls hl => ?_)
    refine lv_iload_n hx hb d_X_instalments_6 rfl (lv_at hl 3 rfl) ?_
    refine lv_iconst (v := 2) hx hb d_X_instalments_7 (by decide) ?_
    refine lv_icmp_lt (tgt := 17) hx hb d_X_instalments_8 (by decide) (fun c_152 => ?_) (fun c_152 => ?_)
    · obtain ⟨sa9, hz9⟩ := hE.2.2.2 (120, "no such number of instalments") (by decide)
      exact vx_throwS (own := R_X) (cls := "java/lang/IllegalArgumentException") (names := ["java/lang/RuntimeException", "java/lang/Exception"]) hx hb hl9 hown (by decide +kernel) (by decide +kernel) (hts (.classLink R_X 45 "java/lang/IllegalArgumentException") (List.mem_cons_of_mem _ mB_161)) (hts (.initialized "java/lang/IllegalArgumentException") (List.mem_cons_of_mem _ mB_22)) hz9 (vx_hat (B := badL) (fun w hw => hts w ((by decide +kernel : ∀ w ∈ (vx_atS R_X 49 "java/lang/IllegalArgumentException" ["java/lang/RuntimeException", "java/lang/Exception"]).filter goodWord, w ∈ w_X_instalments) w hw)) (by decide +kernel) (fun w hw => bad_use hw (hE.2.2.1 w hw))) (by decide +kernel) hE.1 hE.2.1 hS (hl.1.trans hml.symm) d_X_instalments_17 d_X_instalments_20 d_X_instalments_21 d_X_instalments_23 d_X_instalments_26 (fun x hx => (hEx x hx).elim) (Nat.le_of_ble_eq_true rfl) (Nat.le_of_ble_eq_true rfl) (Nat.le_of_ble_eq_true rfl) (Nat.le_of_ble_eq_true rfl) hlocks (fun t ha hsz hk => ⟨(), trivial, ⟨⟨0, rfl, by rw [f_instalments, if_pos c_150, if_pos c_152]; rfl⟩, hP.kept (fun k q hq => hk q.1 (hP k q hq).lt)⟩, Nat.le_trans hS.1 hsz, fun q h1 h2 => (hk q (Nat.lt_of_lt_of_le h1 hS.1)).trans (hS.2.1 q h1 h2)⟩) hS.2.2 (Nat.le_of_ble_eq_true rfl) (Nat.le_of_ble_eq_true rfl)
    · refine lv_iload_n hx hb d_X_instalments_11 rfl (lv_at hl 3 rfl) ?_
      refine lv_bipush (v := 12) hx hb d_X_instalments_12 (by decide) ?_
      refine lv_icmp_le (tgt := 27) hx hb d_X_instalments_14 (by decide) (fun c_153 => ?_) (fun c_153 => ?_)
      · refine lv_aload_n hx hb d_X_instalments_27 rfl (lv_at hl 0 rfl) ?_
        refine va_get (D := D) (ci := 0) (v := .int (d_state (x_debts z (ixN (q))))) (C := R_D) (T := F_D) (N := 15) hx hb hts (in_D _) hown hK hP (b + 7 + 3 * (ixN (q))) hU.o rfl 5 (by decide) (hts (.fieldLink R_X 88 "DebtRows$Debt" "state" "I") (List.mem_cons_of_mem _ mB_217)) (fun _ h9 => h9) rfl d_X_instalments_28 ?_
        refine lv_iconst (v := 1) hx hb d_X_instalments_31 (by decide) ?_
        refine lv_icmp_eq (tgt := 37) hx hb d_X_instalments_32 (by decide) (fun c_154 => ?_) (fun c_154 => ?_)
        · refine lv_aload_n hx hb d_X_instalments_37 rfl (lv_at hl 0 rfl) ?_
          refine lv_aload_n hx hb d_X_instalments_38 rfl (lv_at hl 1 rfl) ?_
          refine va_get (D := D) (ci := 2) (v := .ref (a_r0 a)) (C := R_X) (T := F_X) (N := 5) hx hb hts (in_X _) hown hK hP b hC.1.x rfl 0 (by decide) (hts (.fieldLink R_X 10 "DebtRows" "rates" "LDebtRows$Rates;") (List.mem_cons_of_mem _ mB_53)) (fun _ h9 => h9) rfl d_X_instalments_39 ?_
          refine lv_aload_n hx hb d_X_instalments_42 rfl (lv_at hl 1 rfl) ?_
          refine va_get (D := D) (ci := 2) (v := .int (x_today z)) (C := R_X) (T := F_X) (N := 5) hx hb hts (in_X _) hown hK hP b hC.1.x rfl 4 (by decide) (hts (.fieldLink R_X 30 "DebtRows" "today" "I") (List.mem_cons_of_mem _ mB_57)) (fun _ h9 => h9) rfl d_X_instalments_43 ?_
          refine va_callv (va_runV (As := [.ref (a_r0 a), .int (x_today z)]) (rest := []) ⟨hx, hb, hml, hown, hts⟩ (c_fixInterest l D A w cI cL cD (b + 7 + 3 * (ixN (q))) (a_da a (ixN (q))) (a_pa a (ixN (q))) (a_qa a (ixN (q))) (x_debts z (ixN (q))) (b + 1) (a_r0 a) (a_fr a) (a_up a) (a_dn a) (x_rates z) (x_today z) hU.1 hC.1.r (by omega) hC.1.wr) (cwV 2 hts (gV _ mB_279 mB_280 mB_281 mB_24 mB_282) rfl rfl rfl (by decide +kernel) ⟨(Nat.le_of_ble_eq_true rfl), (Nat.le_of_ble_eq_true rfl)⟩) ⟨mPc_bl, va_recv hK hP (ci := 0) (q0 := (b + 7 + 3 * (ixN (q)))) rfl hU.o, mPc_pr hP hK hD⟩ rfl rfl hl.1 rfl (lv_room (Nat.le_of_ble_eq_true rfl)) d_X_instalments_46 ⟨(Nat.le_of_ble_eq_true rfl), (Nat.le_of_ble_eq_true rfl)⟩) hS (fun _ _ h => h) (fun _ h => h) (fun u9 t H locs ht hvm ev_155 hB hz1 hk1 hS => ?_)
          obtain ⟨w_156, hP, hD, hU1⟩ := hB
          rw [ht] at hP
          have hU := hU.tr hU1
          have hw : wfD ((f_fixInterest (x_debts z (ixN (q))) (x_rates z) (x_today z))) := wf_fixInterest hw
          refine lv_aload_n hx hb d_X_instalments_49 rfl (lv_at hl 0 rfl) ?_
          refine lv_aload_n hx hb d_X_instalments_50 rfl (lv_at hl 1 rfl) ?_
          refine va_get (D := D) (ci := 2) (v := .int (x_today z)) (C := R_X) (T := F_X) (N := 5) hx hb hts (in_X _) hown hK hP b (hU.out hC.1.x (by omega)) rfl 4 (by decide) (hts (.fieldLink R_X 30 "DebtRows" "today" "I") (List.mem_cons_of_mem _ mB_57)) (fun _ h9 => h9) rfl d_X_instalments_51 ?_
          refine lv_iload_n hx hb d_X_instalments_54 rfl (lv_at hl 3 rfl) ?_
          refine va_callv (va_runV (As := [.int (x_today z), .int (n)]) (rest := []) ⟨hx, hb, hml, hown, hts⟩ (c_defer l D A w_156 cI cL cD (b + 7 + 3 * (ixN (q))) (a_da a (ixN (q))) (a_pa a (ixN (q))) (a_qa a (ixN (q))) (f_fixInterest (x_debts z (ixN (q))) (x_rates z) (x_today z)) (x_today z) (n) hU.1) (cwV 2 hts (gV _ mB_322 mB_323 mB_324 mB_24 mB_325) rfl rfl rfl (by decide +kernel) ⟨(Nat.le_of_ble_eq_true rfl), (Nat.le_of_ble_eq_true rfl)⟩) ⟨mPc_bl, va_recv hK hP (ci := 0) (q0 := (b + 7 + 3 * (ixN (q)))) rfl hU.o, mPc_pr hP hK hD⟩ rfl rfl hl.1 rfl (lv_room (Nat.le_of_ble_eq_true rfl)) d_X_instalments_55 ⟨(Nat.le_of_ble_eq_true rfl), (Nat.le_of_ble_eq_true rfl)⟩) hS (fun _ _ h => h) (fun _ h => h) (fun u9 t H locs ht hvm ev_157 hB hz1 hk1 hS => ?_)
          obtain ⟨w_158, hP, hD, hU1⟩ := hB
          rw [ht] at hP
          have hU := hU.tr hU1
          have hw : wfD ((f_defer (f_fixInterest (x_debts z (ixN (q))) (x_rates z) (x_today z)) (x_today z) (n))) := wf_defer hw c_152 c_153
          refine lv_iconst (v := 1) hx hb d_X_instalments_58 (by decide) ?_
          have hC := hC.d hi_151 hU hw
          refine vx_ret (W.widen (k := 2) (n := 12) (Nat.le_of_ble_eq_true rfl) (Nat.le_of_ble_eq_true rfl) ?_)
          exact W.iret (v := 1) hx hb hr (fun t ht hW => ⟨⟨_, (), rfl, ⟨by rw [f_instalments, if_pos c_150, if_neg c_152, if_pos c_153, if_pos c_154], by rw [f_instalments, if_pos c_150, if_neg c_152, if_pos c_153, if_pos c_154]⟩, w_158, by rw [ht]; exact hP, hD, by rw [f_instalments, if_pos c_150, if_neg c_152, if_pos c_153, if_pos c_154]; exact hC.at, hC.2⟩, hS.F ht⟩) hS.2.2 d_X_instalments_59
        · refine lv_iconst (v := 0) hx hb d_X_instalments_35 (by decide) ?_
          refine vx_ret (W.widen (k := 2) (n := 12) (Nat.le_of_ble_eq_true rfl) (Nat.le_of_ble_eq_true rfl) ?_)
          exact W.iret (v := 0) hx hb hr (fun t ht hW => ⟨⟨_, (), rfl, ⟨by rw [f_instalments, if_pos c_150, if_neg c_152, if_pos c_153, if_neg c_154], by rw [f_instalments, if_pos c_150, if_neg c_152, if_pos c_153, if_neg c_154]⟩, w, by rw [ht]; exact hP, hD, by rw [f_instalments, if_pos c_150, if_neg c_152, if_pos c_153, if_neg c_154]; exact hC.at, hC.2⟩, hS.F ht⟩) hS.2.2 d_X_instalments_36
      · obtain ⟨sa9, hz9⟩ := hE.2.2.2 (120, "no such number of instalments") (by decide)
        exact vx_throwS (own := R_X) (cls := "java/lang/IllegalArgumentException") (names := ["java/lang/RuntimeException", "java/lang/Exception"]) hx hb hl9 hown (by decide +kernel) (by decide +kernel) (hts (.classLink R_X 45 "java/lang/IllegalArgumentException") (List.mem_cons_of_mem _ mB_161)) (hts (.initialized "java/lang/IllegalArgumentException") (List.mem_cons_of_mem _ mB_22)) hz9 (vx_hat (B := badL) (fun w hw => hts w ((by decide +kernel : ∀ w ∈ (vx_atS R_X 49 "java/lang/IllegalArgumentException" ["java/lang/RuntimeException", "java/lang/Exception"]).filter goodWord, w ∈ w_X_instalments) w hw)) (by decide +kernel) (fun w hw => bad_use hw (hE.2.2.1 w hw))) (by decide +kernel) hE.1 hE.2.1 hS (hl.1.trans hml.symm) d_X_instalments_17 d_X_instalments_20 d_X_instalments_21 d_X_instalments_23 d_X_instalments_26 (fun x hx => (hEx x hx).elim) (Nat.le_of_ble_eq_true rfl) (Nat.le_of_ble_eq_true rfl) (Nat.le_of_ble_eq_true rfl) (Nat.le_of_ble_eq_true rfl) hlocks (fun t ha hsz hk => ⟨(), trivial, ⟨⟨0, rfl, by rw [f_instalments, if_pos c_150, if_neg c_152, if_neg c_153]; rfl⟩, hP.kept (fun k q hq => hk q.1 (hP k q hq).lt)⟩, Nat.le_trans hS.1 hsz, fun q h1 h2 => (hk q (Nat.lt_of_lt_of_le h1 hS.1)).trans (hS.2.1 q h1 h2)⟩) hS.2.2 (Nat.le_of_ble_eq_true rfl) (Nat.le_of_ble_eq_true rfl)
def f_appeal (z : XT) (q : Int32) : Int32 × Int32 × XT :=
  if okN (z) (q) then (if (f_isPayable (x_debts z (ixN (q)))) = 0 then (0, 0, z)
    else (0, 1, y_debt (z) (ixN (q)) (s_state (f_fixInterest (x_debts z (ixN (q))) (x_rates z) (x_today z)) (3))))
  else (1, 0, z)
set_option maxHeartbeats 4000000 in
set_option maxRecDepth 100000 in
theorem c_appeal (l : Launch) (hl9 : l.stackTraces = false) (D : va_G) (A : Nat → Prop) (w : va_W) (cI cL cD : ClassId) (b : Nat) (a : AD) (z : XT) (q : Int32) (hC0 : cA w b cI cL cD a z) : vx_Met l y_X_appeal w_X_appeal ({ frames := 7, cells := 1, slots := 6, locals := 112 }) (ePc D w (tyL cI cL cD) A [.ref (a_x a), .int (q)]) (va_Qi (fun z9 (_ : Unit) => (f_appeal z q).1 = 0 ∧ z9 = (f_appeal z q).2.1) (fun (_ : Unit) t => ∃ w9 : va_W, va_P D vwCl w9 t.heap ∧ va_D A w9 ∧ cAt w9 b cI cL cD (a_x a) ((f_appeal z q).2.2) ∧ ∀ j, j < b → w9[j]? = w[j]?) A) (vx_X (fun _ : Unit => True) (fun E9 _ t => exN ["java/lang/IllegalArgumentException"] (f_appeal z q).1 E9 ∧ va_P D vwCl w t.heap) A) 1 6 A := by
  refine vx_ofW (cc := b_X_appeal) (maxL := 3) (ret := (some .int)) (by decide) rfl ?_
  intro p e s m args below meth c s₁ B hml hEx hv
  obtain ⟨rfl, hP, hK, hD, hE⟩ := hv
  have hx := B.exec
  have hb := B.bytes
  have hr := B.returns
  have hts := atoms_spec (ws := w_X_appeal) B.pre
  have hown : s.vm.findClass R_X = some m.cls := findClass_of_methodNamed B.named
  have hlocks := B.notSynchronized
  have hS : va_S A s.heap s.heap [] := va_S.rf
  have hC : cUpd w w b cI cL cD a z := cUpd.rf hC0
  have hl := lv_entry ([.ref (a_x a), .int (q)]) (n := 3) (Nat.le_of_ble_eq_true rfl)
  rw [lg_entry_eq]
  generalize (lg_sl ([.ref (a_x a), .int (q)]) ++ List.replicate (3 - (lg_sl ([.ref (a_x a), .int (q)])).length) Slot.unset).toArray = ls at hl ⊢
  have hl : lv_has ls 3 [(0, .ref (a_x a)), (1, .int (q))] := hl
  refine lv_aload_n hx hb d_X_appeal_0 rfl (lv_at hl 0 rfl) ?_
  refine lv_iload_n hx hb d_X_appeal_1 rfl (lv_at hl 1 rfl) ?_
  refine vz_callq (vx_runV (As := [.int (q)]) (rest := []) ⟨hx, hb, hml, hown, hts⟩ (c_findOrRefuse l hl9 D A w cI cL cD b a (z) (q) hC.1) (cwV 1 hts (gV _ mB_254 mB_255 mB_3 mB_15 mB_256) rfl rfl rfl (by decide +kernel) ⟨(Nat.le_of_ble_eq_true rfl), (Nat.le_of_ble_eq_true rfl)⟩) ⟨ePc_bl, va_recv hK hP (ci := 2) (q0 := b) rfl hC.1.x, ePc_pr hP hK hD hE hS⟩ rfl rfl hl.1 rfl (lv_room (Nat.le_of_ble_eq_true rfl)) d_X_appeal_2 ⟨(Nat.le_of_ble_eq_true rfl), (Nat.le_of_ble_eq_true rfl)⟩) hS (fun _ _ h => h) (fun _ h => h) (fun _ _ h => h) (fun E9 ce q9 u9 t H locs ht hvm hp9 hB hz1 hk1 hS hce hcv hcl => ?_) (fun v_159 u9 t H locs ht hvm hp9 hB hz1 hk1 hS => ?_)
  · obtain ⟨rfl, c_160, hP⟩ := hB
    rw [ht] at hP
    exact vx_out (E := "java/lang/IllegalArgumentException") (fun x hx => (hEx x hx).elim) hlocks hce hcv hcl (fun t ht ha => ⟨(), trivial, ⟨⟨0, rfl, by rw [f_appeal, if_neg c_160]; rfl⟩, by rw [ht]; exact hP⟩, hS.F ht⟩) hS.2.2 (Nat.le_of_ble_eq_true rfl) (Nat.le_of_ble_eq_true rfl)
  · obtain ⟨c_160, ev_159⟩ := hp9
    subst ev_159
    have hP := hB
    rw [ht] at hP
    have hi_161 : ixN (q) < a_n a := (okN_ix c_160 hC.1.en hC.1.n).1
    have hU : dUpd w w (b + 7 + 3 * (ixN (q))) cI cL (a_da a (ixN (q))) (a_pa a (ixN (q))) (a_qa a (ixN (q))) (x_debts z (ixN (q))) := dUpd.rf (hC.1.d hi_161)
    have hw : wfD (x_debts z (ixN (q))) := hC.1.wd hi_161
    refine lv_astore_n (lv' := [(2, .ref (a_da a (ixN (q)))), (0, .ref (a_x a)), (1, .int (q))]) hx hb d_X_appeal_5 rfl hl (by decide) rfl (fun ls hl => ?_)
    refine lv_aload_n hx hb d_X_appeal_6 rfl (lv_at hl 0 rfl) ?_
    refine vp_callSi (W.runV (As := []) (rest := []) ⟨hx, hb, hml, hown, hts⟩ (c_isPayable l D A w cI cL cD (b + 7 + 3 * (ixN (q))) (a_da a (ixN (q))) (a_pa a (ixN (q))) (a_qa a (ixN (q))) (x_debts z (ixN (q))) hU.1) (cwV 0 hts (gV _ mB_274 mB_275 mB_276 mB_24 mB_277) rfl rfl rfl (by decide +kernel) ⟨(Nat.le_of_ble_eq_true rfl), (Nat.le_of_ble_eq_true rfl)⟩) ⟨mPc_bl, va_recv hK hP (ci := 0) (q0 := (b + 7 + 3 * (ixN (q)))) rfl hU.o, mPc_pr hP hK hD⟩ rfl rfl hl.1 rfl (lv_room (Nat.le_of_ble_eq_true rfl)) d_X_appeal_7 ⟨(Nat.le_of_ble_eq_true rfl), (Nat.le_of_ble_eq_true rfl)⟩) (fun v_162 ev_162 => ?_)
    subst ev_162
    refine lv_if_ne (tgt := 15) hx hb d_X_appeal_10 (by decide) (fun c_163 => ?_) (fun c_163 => ?_)
    · refine lv_aload_n hx hb d_X_appeal_15 rfl (lv_at hl 0 rfl) ?_
      refine lv_aload_n hx hb d_X_appeal_16 rfl (lv_at hl 1 rfl) ?_
      refine va_get (D := D) (ci := 2) (v := .ref (a_r0 a)) (C := R_X) (T := F_X) (N := 5) hx hb hts (in_X _) hown hK hP b hC.1.x rfl 0 (by decide) (hts (.fieldLink R_X 10 "DebtRows" "rates" "LDebtRows$Rates;") (List.mem_cons_of_mem _ mB_53)) (fun _ h9 => h9) rfl d_X_appeal_17 ?_
      refine lv_aload_n hx hb d_X_appeal_20 rfl (lv_at hl 1 rfl) ?_
      refine va_get (D := D) (ci := 2) (v := .int (x_today z)) (C := R_X) (T := F_X) (N := 5) hx hb hts (in_X _) hown hK hP b hC.1.x rfl 4 (by decide) (hts (.fieldLink R_X 30 "DebtRows" "today" "I") (List.mem_cons_of_mem _ mB_57)) (fun _ h9 => h9) rfl d_X_appeal_21 ?_
      refine va_callv (va_runV (As := [.ref (a_r0 a), .int (x_today z)]) (rest := []) ⟨hx, hb, hml, hown, hts⟩ (c_fixInterest l D A w cI cL cD (b + 7 + 3 * (ixN (q))) (a_da a (ixN (q))) (a_pa a (ixN (q))) (a_qa a (ixN (q))) (x_debts z (ixN (q))) (b + 1) (a_r0 a) (a_fr a) (a_up a) (a_dn a) (x_rates z) (x_today z) hU.1 hC.1.r (by omega) hC.1.wr) (cwV 2 hts (gV _ mB_279 mB_280 mB_281 mB_24 mB_282) rfl rfl rfl (by decide +kernel) ⟨(Nat.le_of_ble_eq_true rfl), (Nat.le_of_ble_eq_true rfl)⟩) ⟨mPc_bl, va_recv hK hP (ci := 0) (q0 := (b + 7 + 3 * (ixN (q)))) rfl hU.o, mPc_pr hP hK hD⟩ rfl rfl hl.1 rfl (lv_room (Nat.le_of_ble_eq_true rfl)) d_X_appeal_24 ⟨(Nat.le_of_ble_eq_true rfl), (Nat.le_of_ble_eq_true rfl)⟩) hS (fun _ _ h => h) (fun _ h => h) (fun u9 t H locs ht hvm ev_164 hB hz1 hk1 hS => ?_)
      obtain ⟨w_165, hP, hD, hU1⟩ := hB
      rw [ht] at hP
      have hU := hU.tr hU1
      have hw : wfD ((f_fixInterest (x_debts z (ixN (q))) (x_rates z) (x_today z))) := wf_fixInterest hw
      refine lv_aload_n hx hb d_X_appeal_27 rfl (lv_at hl 0 rfl) ?_
      refine lv_iconst (v := 3) hx hb d_X_appeal_28 (by decide) ?_
      refine va_put (D := D) (ci := 0) (v := .int (3)) (ty := .int) (C := R_D) (T := F_D) (N := 15) hx hb hts (in_D _) t_D to_D nn_D hown hK hP hD hS (b + 7 + 3 * (ixN (q))) hU.o rfl 5 (by decide) (hts (.fieldLink R_X 88 "DebtRows$Debt" "state" "I") (List.mem_cons_of_mem _ mB_217)) (fun _ h9 => h9) rfl (by decide +kernel) rfl rfl (Nat.le_of_ble_eq_true rfl) d_X_appeal_29 (fun H locs hP hD hS => ?_)
      have hU := hU.so (s_state (f_fixInterest (x_debts z (ixN (q))) (x_rates z) (x_today z)) (3)) rfl rfl
      have hP : va_P D vwCl (w_165.set (b + 7 + 3 * (ixN (q))) ((a_da a (ixN (q))), dE (a_pa a (ixN (q))) (a_qa a (ixN (q))) (s_state (f_fixInterest (x_debts z (ixN (q))) (x_rates z) (x_today z)) (3)))) H := hP
      have hD : va_D A (w_165.set (b + 7 + 3 * (ixN (q))) ((a_da a (ixN (q))), dE (a_pa a (ixN (q))) (a_qa a (ixN (q))) (s_state (f_fixInterest (x_debts z (ixN (q))) (x_rates z) (x_today z)) (3)))) := hD
      generalize w_165.set (b + 7 + 3 * (ixN (q))) ((a_da a (ixN (q))), dE (a_pa a (ixN (q))) (a_qa a (ixN (q))) (s_state (f_fixInterest (x_debts z (ixN (q))) (x_rates z) (x_today z)) (3))) = w_166 at hP hD hU
      have hw : wfD (s_state (f_fixInterest (x_debts z (ixN (q))) (x_rates z) (x_today z)) (3)) := hw
      refine lv_iconst (v := 1) hx hb d_X_appeal_32 (by decide) ?_
      have hC := hC.d hi_161 hU hw
      refine vx_ret (W.widen (k := 1) (n := 6) (Nat.le_of_ble_eq_true rfl) (Nat.le_of_ble_eq_true rfl) ?_)
      exact W.iret (v := 1) hx hb hr (fun t ht hW => ⟨⟨_, (), rfl, ⟨by rw [f_appeal, if_pos c_160, if_neg c_163], by rw [f_appeal, if_pos c_160, if_neg c_163]⟩, w_166, by rw [ht]; exact hP, hD, by rw [f_appeal, if_pos c_160, if_neg c_163]; exact hC.at, hC.2⟩, hS.F ht⟩) hS.2.2 d_X_appeal_33
    · refine lv_iconst (v := 0) hx hb d_X_appeal_13 (by decide) ?_
      refine vx_ret (W.widen (k := 1) (n := 6) (Nat.le_of_ble_eq_true rfl) (Nat.le_of_ble_eq_true rfl) ?_)
      exact W.iret (v := 0) hx hb hr (fun t ht hW => ⟨⟨_, (), rfl, ⟨by rw [f_appeal, if_pos c_160, if_pos c_163], by rw [f_appeal, if_pos c_160, if_pos c_163]⟩, w, by rw [ht]; exact hP, hD, by rw [f_appeal, if_pos c_160, if_pos c_163]; exact hC.at, hC.2⟩, hS.F ht⟩) hS.2.2 d_X_appeal_14
def f_decide (z : XT) (q : Int32) (fd : Int32) : Int32 × Int64 × XT :=
  if okN (z) (q) then (if d_state (x_debts z (ixN (q))) = 3 then (if fd = 0 then (0, 0, y_debt (z) (ixN (q)) (f_runAgain (x_debts z (ixN (q))) (x_today z)))
      else (0, d_lost (f_lose (x_debts z (ixN (q))) (5)), y_debt (z) (ixN (q)) (f_lose (x_debts z (ixN (q))) (5))))
    else (0, -1, z))
  else (1, 0, z)
set_option maxHeartbeats 4000000 in
set_option maxRecDepth 100000 in
theorem c_decide (l : Launch) (hl9 : l.stackTraces = false) (D : va_G) (A : Nat → Prop) (w : va_W) (cI cL cD : ClassId) (b : Nat) (a : AD) (z : XT) (q : Int32) (fd : Int32) (hC0 : cA w b cI cL cD a z) : vx_Met l y_X_decide w_X_decide ({ frames := 7, cells := 1, slots := 6, locals := 112 }) (ePc D w (tyL cI cL cD) A [.ref (a_x a), .int (q), .int (fd)]) (va_Ql (fun z9 (_ : Unit) => (f_decide z q fd).1 = 0 ∧ z9 = (f_decide z q fd).2.1) (fun (_ : Unit) t => ∃ w9 : va_W, va_P D vwCl w9 t.heap ∧ va_D A w9 ∧ cAt w9 b cI cL cD (a_x a) ((f_decide z q fd).2.2) ∧ ∀ j, j < b → w9[j]? = w[j]?) A) (vx_X (fun _ : Unit => True) (fun E9 _ t => exN ["java/lang/IllegalArgumentException"] (f_decide z q fd).1 E9 ∧ va_P D vwCl w t.heap) A) 1 6 A := by
  refine vx_ofW (cc := b_X_decide) (maxL := 4) (ret := (some .long)) (by decide) rfl ?_
  intro p e s m args below meth c s₁ B hml hEx hv
  obtain ⟨rfl, hP, hK, hD, hE⟩ := hv
  have hx := B.exec
  have hb := B.bytes
  have hr := B.returns
  have hts := atoms_spec (ws := w_X_decide) B.pre
  have hown : s.vm.findClass R_X = some m.cls := findClass_of_methodNamed B.named
  have hlocks := B.notSynchronized
  have hS : va_S A s.heap s.heap [] := va_S.rf
  have hC : cUpd w w b cI cL cD a z := cUpd.rf hC0
  have hl := lv_entry ([.ref (a_x a), .int (q), .int (fd)]) (n := 4) (Nat.le_of_ble_eq_true rfl)
  rw [lg_entry_eq]
  generalize (lg_sl ([.ref (a_x a), .int (q), .int (fd)]) ++ List.replicate (4 - (lg_sl ([.ref (a_x a), .int (q), .int (fd)])).length) Slot.unset).toArray = ls at hl ⊢
  have hl : lv_has ls 4 [(0, .ref (a_x a)), (1, .int (q)), (2, .int (fd))] := hl
  refine lv_aload_n hx hb d_X_decide_0 rfl (lv_at hl 0 rfl) ?_
  refine lv_iload_n hx hb d_X_decide_1 rfl (lv_at hl 1 rfl) ?_
  refine vz_callq (vx_runV (As := [.int (q)]) (rest := []) ⟨hx, hb, hml, hown, hts⟩ (c_findOrRefuse l hl9 D A w cI cL cD b a (z) (q) hC.1) (cwV 1 hts (gV _ mB_254 mB_255 mB_3 mB_15 mB_256) rfl rfl rfl (by decide +kernel) ⟨(Nat.le_of_ble_eq_true rfl), (Nat.le_of_ble_eq_true rfl)⟩) ⟨ePc_bl, va_recv hK hP (ci := 2) (q0 := b) rfl hC.1.x, ePc_pr hP hK hD hE hS⟩ rfl rfl hl.1 rfl (lv_room (Nat.le_of_ble_eq_true rfl)) d_X_decide_2 ⟨(Nat.le_of_ble_eq_true rfl), (Nat.le_of_ble_eq_true rfl)⟩) hS (fun _ _ h => h) (fun _ h => h) (fun _ _ h => h) (fun E9 ce q9 u9 t H locs ht hvm hp9 hB hz1 hk1 hS hce hcv hcl => ?_) (fun v_167 u9 t H locs ht hvm hp9 hB hz1 hk1 hS => ?_)
  · obtain ⟨rfl, c_168, hP⟩ := hB
    rw [ht] at hP
    exact vx_out (E := "java/lang/IllegalArgumentException") (fun x hx => (hEx x hx).elim) hlocks hce hcv hcl (fun t ht ha => ⟨(), trivial, ⟨⟨0, rfl, by rw [f_decide, if_neg c_168]; rfl⟩, by rw [ht]; exact hP⟩, hS.F ht⟩) hS.2.2 (Nat.le_of_ble_eq_true rfl) (Nat.le_of_ble_eq_true rfl)
  · obtain ⟨c_168, ev_167⟩ := hp9
    subst ev_167
    have hP := hB
    rw [ht] at hP
    have hi_169 : ixN (q) < a_n a := (okN_ix c_168 hC.1.en hC.1.n).1
    have hU : dUpd w w (b + 7 + 3 * (ixN (q))) cI cL (a_da a (ixN (q))) (a_pa a (ixN (q))) (a_qa a (ixN (q))) (x_debts z (ixN (q))) := dUpd.rf (hC.1.d hi_169)
    have hw : wfD (x_debts z (ixN (q))) := hC.1.wd hi_169
    refine lv_astore_n (lv' := [(3, .ref (a_da a (ixN (q)))), (0, .ref (a_x a)), (1, .int (q)), (2, .int (fd))]) hx hb d_X_decide_5 rfl hl (by decide) rfl (fun ls hl => ?_)
    refine lv_aload_n hx hb d_X_decide_6 rfl (lv_at hl 0 rfl) ?_
    refine va_get (D := D) (ci := 0) (v := .int (d_state (x_debts z (ixN (q))))) (C := R_D) (T := F_D) (N := 15) hx hb hts (in_D _) hown hK hP (b + 7 + 3 * (ixN (q))) hU.o rfl 5 (by decide) (hts (.fieldLink R_X 88 "DebtRows$Debt" "state" "I") (List.mem_cons_of_mem _ mB_217)) (fun _ h9 => h9) rfl d_X_decide_7 ?_
    refine lv_iconst (v := 3) hx hb d_X_decide_10 (by decide) ?_
    refine lv_icmp_eq (tgt := 18) hx hb d_X_decide_11 (by decide) (fun c_170 => ?_) (fun c_170 => ?_)
    · refine lv_iload_n hx hb d_X_decide_18 rfl (lv_at hl 3 rfl) ?_
      refine lv_if_ne (tgt := 32) hx hb d_X_decide_19 (by decide) (fun c_171 => ?_) (fun c_171 => ?_)
      · refine lv_aload_n hx hb d_X_decide_32 rfl (lv_at hl 0 rfl) ?_
        refine lv_iconst (v := 5) hx hb d_X_decide_33 (by decide) ?_
        refine va_callv (va_runV (As := [.int (5)]) (rest := []) ⟨hx, hb, hml, hown, hts⟩ (c_lose l D A w cI cL cD (b + 7 + 3 * (ixN (q))) (a_da a (ixN (q))) (a_pa a (ixN (q))) (a_qa a (ixN (q))) (x_debts z (ixN (q))) (5) hU.1) (cwV 1 hts (gV _ mB_338 mB_313 mB_314 mB_24 mB_315) rfl rfl rfl (by decide +kernel) ⟨(Nat.le_of_ble_eq_true rfl), (Nat.le_of_ble_eq_true rfl)⟩) ⟨mPc_bl, va_recv hK hP (ci := 0) (q0 := (b + 7 + 3 * (ixN (q)))) rfl hU.o, mPc_pr hP hK hD⟩ rfl rfl hl.1 rfl (lv_room (Nat.le_of_ble_eq_true rfl)) d_X_decide_34 ⟨(Nat.le_of_ble_eq_true rfl), (Nat.le_of_ble_eq_true rfl)⟩) hS (fun _ _ h => h) (fun _ h => h) (fun u9 t H locs ht hvm ev_172 hB hz1 hk1 hS => ?_)
        obtain ⟨w_173, hP, hD, hU1⟩ := hB
        rw [ht] at hP
        have hU := hU.tr hU1
        have hw : wfD ((f_lose (x_debts z (ixN (q))) (5))) := wf_lose hw
        refine lv_aload_n hx hb d_X_decide_37 rfl (lv_at hl 0 rfl) ?_
        refine va_get (D := D) (ci := 0) (v := .long (d_lost (f_lose (x_debts z (ixN (q))) (5)))) (C := R_D) (T := F_D) (N := 15) hx hb hts (in_D _) hown hK hP (b + 7 + 3 * (ixN (q))) hU.o rfl 9 (by decide) (hts (.fieldLink R_X 131 "DebtRows$Debt" "lost" "J") (List.mem_cons_of_mem _ mB_223)) (fun _ h9 => h9) rfl d_X_decide_38 ?_
        have hC := hC.d hi_169 hU hw
        refine vx_ret (W.widen (k := 1) (n := 6) (Nat.le_of_ble_eq_true rfl) (Nat.le_of_ble_eq_true rfl) ?_)
        exact W.lret (v := d_lost (f_lose (x_debts z (ixN (q))) (5))) hx hb hr (fun t ht hW => ⟨⟨_, (), rfl, ⟨by rw [f_decide, if_pos c_168, if_pos c_170, if_neg c_171], by rw [f_decide, if_pos c_168, if_pos c_170, if_neg c_171]⟩, w_173, by rw [ht]; exact hP, hD, by rw [f_decide, if_pos c_168, if_pos c_170, if_neg c_171]; exact hC.at, hC.2⟩, hS.F ht⟩) hS.2.2 d_X_decide_41
      · refine lv_aload_n hx hb d_X_decide_22 rfl (lv_at hl 0 rfl) ?_
        refine lv_aload_n hx hb d_X_decide_23 rfl (lv_at hl 1 rfl) ?_
        refine va_get (D := D) (ci := 2) (v := .int (x_today z)) (C := R_X) (T := F_X) (N := 5) hx hb hts (in_X _) hown hK hP b hC.1.x rfl 4 (by decide) (hts (.fieldLink R_X 30 "DebtRows" "today" "I") (List.mem_cons_of_mem _ mB_57)) (fun _ h9 => h9) rfl d_X_decide_24 ?_
        refine va_callv (va_runV (As := [.int (x_today z)]) (rest := []) ⟨hx, hb, hml, hown, hts⟩ (c_runAgain l D A w cI cL cD (b + 7 + 3 * (ixN (q))) (a_da a (ixN (q))) (a_pa a (ixN (q))) (a_qa a (ixN (q))) (x_debts z (ixN (q))) (x_today z) hU.1) (cwV 1 hts (gV _ mB_261 mB_262 mB_263 mB_24 mB_264) rfl rfl rfl (by decide +kernel) ⟨(Nat.le_of_ble_eq_true rfl), (Nat.le_of_ble_eq_true rfl)⟩) ⟨mPc_bl, va_recv hK hP (ci := 0) (q0 := (b + 7 + 3 * (ixN (q)))) rfl hU.o, mPc_pr hP hK hD⟩ rfl rfl hl.1 rfl (lv_room (Nat.le_of_ble_eq_true rfl)) d_X_decide_27 ⟨(Nat.le_of_ble_eq_true rfl), (Nat.le_of_ble_eq_true rfl)⟩) hS (fun _ _ h => h) (fun _ h => h) (fun u9 t H locs ht hvm ev_174 hB hz1 hk1 hS => ?_)
        obtain ⟨w_175, hP, hD, hU1⟩ := hB
        rw [ht] at hP
        have hU := hU.tr hU1
        have hw : wfD ((f_runAgain (x_debts z (ixN (q))) (x_today z))) := wf_runAgain hw
        refine lv_lconst (v := 0) hx hb d_X_decide_30 (by decide) ?_
        have hC := hC.d hi_169 hU hw
        refine vx_ret (W.widen (k := 1) (n := 6) (Nat.le_of_ble_eq_true rfl) (Nat.le_of_ble_eq_true rfl) ?_)
        exact W.lret (v := 0) hx hb hr (fun t ht hW => ⟨⟨_, (), rfl, ⟨by rw [f_decide, if_pos c_168, if_pos c_170, if_pos c_171], by rw [f_decide, if_pos c_168, if_pos c_170, if_pos c_171]⟩, w_175, by rw [ht]; exact hP, hD, by rw [f_decide, if_pos c_168, if_pos c_170, if_pos c_171]; exact hC.at, hC.2⟩, hS.F ht⟩) hS.2.2 d_X_decide_31
    · refine lv_ldc2 (own := R_X) (index := 126) (v := -1) hx hb hown (hts (.constantLong R_X 126 (-1)) (List.mem_cons_of_mem _ mB_94)) d_X_decide_14 ?_
      refine vx_ret (W.widen (k := 1) (n := 6) (Nat.le_of_ble_eq_true rfl) (Nat.le_of_ble_eq_true rfl) ?_)
      exact W.lret (v := -1) hx hb hr (fun t ht hW => ⟨⟨_, (), rfl, ⟨by rw [f_decide, if_pos c_168, if_neg c_170], by rw [f_decide, if_pos c_168, if_neg c_170]⟩, w, by rw [ht]; exact hP, hD, by rw [f_decide, if_pos c_168, if_neg c_170]; exact hC.at, hC.2⟩, hS.F ht⟩) hS.2.2 d_X_decide_17
def f_due (z : XT) (q : Int32) (sd : Int32) : Int32 × Int64 × XT :=
  if okN (z) (q) then (if sd = 0 then (0, d_open (x_debts z (ixN (q))), z)
    else if sd = 1 then (0, (d_fixed (x_debts z (ixN (q))) + (f_runningInterest (x_debts z (ixN (q))) (x_rates z) (x_today z))), z)
      else if sd = 2 then (0, d_cents (x_debts z (ixN (q))), z)
        else if sd = 3 then (0, d_lost (x_debts z (ixN (q))), z)
          else if sd = 4 then (0, d_paidI (x_debts z (ixN (q))), z)
            else (1, 0, z))
  else (1, 0, z)
set_option maxHeartbeats 4000000 in
set_option maxRecDepth 100000 in
theorem c_due (l : Launch) (hl9 : l.stackTraces = false) (D : va_G) (A : Nat → Prop) (w : va_W) (cI cL cD : ClassId) (b : Nat) (a : AD) (z : XT) (q : Int32) (sd : Int32) (hC0 : cA w b cI cL cD a z) : vx_Met l y_X_due w_X_due ({ frames := 7, cells := 2, slots := 12, locals := 112 }) (ePc D w (tyL cI cL cD) A [.ref (a_x a), .int (q), .int (sd)]) (va_Ql (fun z9 (_ : Unit) => (f_due z q sd).1 = 0 ∧ z9 = (f_due z q sd).2.1) (fun (_ : Unit) t => ∃ w9 : va_W, va_P D vwCl w9 t.heap ∧ va_D A w9 ∧ cAt w9 b cI cL cD (a_x a) ((f_due z q sd).2.2) ∧ ∀ j, j < b → w9[j]? = w[j]?) A) (vx_X (fun _ : Unit => True) (fun E9 _ t => exN ["java/lang/IllegalArgumentException"] (f_due z q sd).1 E9 ∧ va_P D vwCl w t.heap) A) 2 12 A := by
  refine vx_ofW (cc := b_X_due) (maxL := 4) (ret := (some .long)) (by decide) rfl ?_
  intro p e s m args below meth c s₁ B hml hEx hv
  obtain ⟨rfl, hP, hK, hD, hE⟩ := hv
  have hx := B.exec
  have hb := B.bytes
  have hr := B.returns
  have hts := atoms_spec (ws := w_X_due) B.pre
  have hown : s.vm.findClass R_X = some m.cls := findClass_of_methodNamed B.named
  have hlocks := B.notSynchronized
  have hS : va_S A s.heap s.heap [] := va_S.rf
  have hC : cUpd w w b cI cL cD a z := cUpd.rf hC0
  have hl := lv_entry ([.ref (a_x a), .int (q), .int (sd)]) (n := 4) (Nat.le_of_ble_eq_true rfl)
  rw [lg_entry_eq]
  generalize (lg_sl ([.ref (a_x a), .int (q), .int (sd)]) ++ List.replicate (4 - (lg_sl ([.ref (a_x a), .int (q), .int (sd)])).length) Slot.unset).toArray = ls at hl ⊢
  have hl : lv_has ls 4 [(0, .ref (a_x a)), (1, .int (q)), (2, .int (sd))] := hl
  refine lv_aload_n hx hb d_X_due_0 rfl (lv_at hl 0 rfl) ?_
  refine lv_iload_n hx hb d_X_due_1 rfl (lv_at hl 1 rfl) ?_
  refine vz_callq (vx_runV (As := [.int (q)]) (rest := []) ⟨hx, hb, hml, hown, hts⟩ (c_findOrRefuse l hl9 D A w cI cL cD b a (z) (q) hC.1) (cwV 1 hts (gV _ mB_254 mB_255 mB_3 mB_15 mB_256) rfl rfl rfl (by decide +kernel) ⟨(Nat.le_of_ble_eq_true rfl), (Nat.le_of_ble_eq_true rfl)⟩) ⟨ePc_bl, va_recv hK hP (ci := 2) (q0 := b) rfl hC.1.x, ePc_pr hP hK hD hE hS⟩ rfl rfl hl.1 rfl (lv_room (Nat.le_of_ble_eq_true rfl)) d_X_due_2 ⟨(Nat.le_of_ble_eq_true rfl), (Nat.le_of_ble_eq_true rfl)⟩) hS (fun _ _ h => h) (fun _ h => h) (fun _ _ h => h) (fun E9 ce q9 u9 t H locs ht hvm hp9 hB hz1 hk1 hS hce hcv hcl => ?_) (fun v_176 u9 t H locs ht hvm hp9 hB hz1 hk1 hS => ?_)
  · obtain ⟨rfl, c_177, hP⟩ := hB
    rw [ht] at hP
    exact vx_out (E := "java/lang/IllegalArgumentException") (fun x hx => (hEx x hx).elim) hlocks hce hcv hcl (fun t ht ha => ⟨(), trivial, ⟨⟨0, rfl, by rw [f_due, if_neg c_177]; rfl⟩, by rw [ht]; exact hP⟩, hS.F ht⟩) hS.2.2 (Nat.le_of_ble_eq_true rfl) (Nat.le_of_ble_eq_true rfl)
  · obtain ⟨c_177, ev_176⟩ := hp9
    subst ev_176
    have hP := hB
    rw [ht] at hP
    have hi_178 : ixN (q) < a_n a := (okN_ix c_177 hC.1.en hC.1.n).1
    have hU : dUpd w w (b + 7 + 3 * (ixN (q))) cI cL (a_da a (ixN (q))) (a_pa a (ixN (q))) (a_qa a (ixN (q))) (x_debts z (ixN (q))) := dUpd.rf (hC.1.d hi_178)
    have hw : wfD (x_debts z (ixN (q))) := hC.1.wd hi_178
    refine lv_astore_n (lv' := [(3, .ref (a_da a (ixN (q)))), (0, .ref (a_x a)), (1, .int (q)), (2, .int (sd))]) hx hb d_X_due_5 rfl hl (by decide) rfl (fun ls hl => ?_)
    refine lv_iload_n hx hb d_X_due_6 rfl (lv_at hl 3 rfl) ?_
    rcases Decidable.em (sd = (0 : Int32)) with c_179 | c_179
    · refine lv_tableIn (tgt := 40) hx hb d_X_due_7 (by rw [c_179]; decide) (by rw [c_179]; decide) (by rw [c_179]; rfl) (by decide) ?_
      refine lv_aload_n hx hb d_X_due_40 rfl (lv_at hl 0 rfl) ?_
      refine va_get (D := D) (ci := 0) (v := .long (d_open (x_debts z (ixN (q))))) (C := R_D) (T := F_D) (N := 15) hx hb hts (in_D _) hown hK hP (b + 7 + 3 * (ixN (q))) hU.o rfl 8 (by decide) (hts (.fieldLink R_X 140 "DebtRows$Debt" "open" "J") (List.mem_cons_of_mem _ mB_222)) (fun _ h9 => h9) rfl d_X_due_41 ?_
      refine vx_ret (W.widen (k := 2) (n := 12) (Nat.le_of_ble_eq_true rfl) (Nat.le_of_ble_eq_true rfl) ?_)
      exact W.lret (v := d_open (x_debts z (ixN (q)))) hx hb hr (fun t ht hW => ⟨⟨_, (), rfl, ⟨by rw [f_due, if_pos c_177, if_pos c_179], by rw [f_due, if_pos c_177, if_pos c_179]⟩, w, by rw [ht]; exact hP, hD, by rw [f_due, if_pos c_177, if_pos c_179]; exact hC.at, hC.2⟩, hS.F ht⟩) hS.2.2 d_X_due_44
    · rcases Decidable.em (sd = (1 : Int32)) with c_180 | c_180
      · refine lv_tableIn (tgt := 45) hx hb d_X_due_7 (by rw [c_180]; decide) (by rw [c_180]; decide) (by rw [c_180]; rfl) (by decide) ?_
        refine lv_aload_n hx hb d_X_due_45 rfl (lv_at hl 0 rfl) ?_
        refine va_get (D := D) (ci := 0) (v := .long (d_fixed (x_debts z (ixN (q))))) (C := R_D) (T := F_D) (N := 15) hx hb hts (in_D _) hown hK hP (b + 7 + 3 * (ixN (q))) hU.o rfl 10 (by decide) (hts (.fieldLink R_X 143 "DebtRows$Debt" "fixedInterest" "J") (List.mem_cons_of_mem _ mB_225)) (fun _ h9 => h9) rfl d_X_due_46 ?_
        refine lv_aload_n hx hb d_X_due_49 rfl (lv_at hl 0 rfl) ?_
        refine lv_aload_n hx hb d_X_due_50 rfl (lv_at hl 1 rfl) ?_
        refine va_get (D := D) (ci := 2) (v := .ref (a_r0 a)) (C := R_X) (T := F_X) (N := 5) hx hb hts (in_X _) hown hK hP b hC.1.x rfl 0 (by decide) (hts (.fieldLink R_X 10 "DebtRows" "rates" "LDebtRows$Rates;") (List.mem_cons_of_mem _ mB_53)) (fun _ h9 => h9) rfl d_X_due_51 ?_
        refine lv_aload_n hx hb d_X_due_54 rfl (lv_at hl 1 rfl) ?_
        refine va_get (D := D) (ci := 2) (v := .int (x_today z)) (C := R_X) (T := F_X) (N := 5) hx hb hts (in_X _) hown hK hP b hC.1.x rfl 4 (by decide) (hts (.fieldLink R_X 30 "DebtRows" "today" "I") (List.mem_cons_of_mem _ mB_57)) (fun _ h9 => h9) rfl d_X_due_55 ?_
        refine vp_callSl (W.runV (As := [.ref (a_r0 a), .int (x_today z)]) (rest := [.long (d_fixed (x_debts z (ixN (q))))]) ⟨hx, hb, hml, hown, hts⟩ (c_runningInterest l D A w cI cL cD (b + 7 + 3 * (ixN (q))) (a_da a (ixN (q))) (a_pa a (ixN (q))) (a_qa a (ixN (q))) (x_debts z (ixN (q))) (b + 1) (a_r0 a) (a_fr a) (a_up a) (a_dn a) (x_rates z) (x_today z) hU.1 hC.1.r (by omega) hC.1.wr) (cwV 2 hts (gV _ mB_365 mB_284 mB_285 mB_24 mB_286) rfl rfl rfl (by decide +kernel) ⟨(Nat.le_of_ble_eq_true rfl), (Nat.le_of_ble_eq_true rfl)⟩) ⟨mPc_bl, va_recv hK hP (ci := 0) (q0 := (b + 7 + 3 * (ixN (q)))) rfl hU.o, mPc_pr hP hK hD⟩ rfl rfl hl.1 rfl (lv_room (Nat.le_of_ble_eq_true rfl)) d_X_due_58 ⟨(Nat.le_of_ble_eq_true rfl), (Nat.le_of_ble_eq_true rfl)⟩) (fun v_181 ev_181 => ?_)
        subst ev_181
        refine lv_ladd hx hb d_X_due_61 ?_
        refine vx_ret (W.widen (k := 2) (n := 12) (Nat.le_of_ble_eq_true rfl) (Nat.le_of_ble_eq_true rfl) ?_)
        exact W.lret (v := (d_fixed (x_debts z (ixN (q))) + (f_runningInterest (x_debts z (ixN (q))) (x_rates z) (x_today z)))) hx hb hr (fun t ht hW => ⟨⟨_, (), rfl, ⟨by rw [f_due, if_pos c_177, if_neg c_179, if_pos c_180], by rw [f_due, if_pos c_177, if_neg c_179, if_pos c_180]⟩, w, by rw [ht]; exact hP, hD, by rw [f_due, if_pos c_177, if_neg c_179, if_pos c_180]; exact hC.at, hC.2⟩, hS.F ht⟩) hS.2.2 d_X_due_62
      · rcases Decidable.em (sd = (2 : Int32)) with c_182 | c_182
        · refine lv_tableIn (tgt := 63) hx hb d_X_due_7 (by rw [c_182]; decide) (by rw [c_182]; decide) (by rw [c_182]; rfl) (by decide) ?_
          refine lv_aload_n hx hb d_X_due_63 rfl (lv_at hl 0 rfl) ?_
          refine va_get (D := D) (ci := 0) (v := .long (d_cents (x_debts z (ixN (q))))) (C := R_D) (T := F_D) (N := 15) hx hb hts (in_D _) hown hK hP (b + 7 + 3 * (ixN (q))) hU.o rfl 0 (by decide) (hts (.fieldLink R_X 150 "DebtRows$Debt" "cents" "J") (List.mem_cons_of_mem _ mB_209)) (fun _ h9 => h9) rfl d_X_due_64 ?_
          refine vx_ret (W.widen (k := 2) (n := 12) (Nat.le_of_ble_eq_true rfl) (Nat.le_of_ble_eq_true rfl) ?_)
          exact W.lret (v := d_cents (x_debts z (ixN (q)))) hx hb hr (fun t ht hW => ⟨⟨_, (), rfl, ⟨by rw [f_due, if_pos c_177, if_neg c_179, if_neg c_180, if_pos c_182], by rw [f_due, if_pos c_177, if_neg c_179, if_neg c_180, if_pos c_182]⟩, w, by rw [ht]; exact hP, hD, by rw [f_due, if_pos c_177, if_neg c_179, if_neg c_180, if_pos c_182]; exact hC.at, hC.2⟩, hS.F ht⟩) hS.2.2 d_X_due_67
        · rcases Decidable.em (sd = (3 : Int32)) with c_183 | c_183
          · refine lv_tableIn (tgt := 68) hx hb d_X_due_7 (by rw [c_183]; decide) (by rw [c_183]; decide) (by rw [c_183]; rfl) (by decide) ?_
            refine lv_aload_n hx hb d_X_due_68 rfl (lv_at hl 0 rfl) ?_
            refine va_get (D := D) (ci := 0) (v := .long (d_lost (x_debts z (ixN (q))))) (C := R_D) (T := F_D) (N := 15) hx hb hts (in_D _) hown hK hP (b + 7 + 3 * (ixN (q))) hU.o rfl 9 (by decide) (hts (.fieldLink R_X 131 "DebtRows$Debt" "lost" "J") (List.mem_cons_of_mem _ mB_223)) (fun _ h9 => h9) rfl d_X_due_69 ?_
            refine vx_ret (W.widen (k := 2) (n := 12) (Nat.le_of_ble_eq_true rfl) (Nat.le_of_ble_eq_true rfl) ?_)
            exact W.lret (v := d_lost (x_debts z (ixN (q)))) hx hb hr (fun t ht hW => ⟨⟨_, (), rfl, ⟨by rw [f_due, if_pos c_177, if_neg c_179, if_neg c_180, if_neg c_182, if_pos c_183], by rw [f_due, if_pos c_177, if_neg c_179, if_neg c_180, if_neg c_182, if_pos c_183]⟩, w, by rw [ht]; exact hP, hD, by rw [f_due, if_pos c_177, if_neg c_179, if_neg c_180, if_neg c_182, if_pos c_183]; exact hC.at, hC.2⟩, hS.F ht⟩) hS.2.2 d_X_due_72
          · rcases Decidable.em (sd = (4 : Int32)) with c_184 | c_184
            · refine lv_tableIn (tgt := 73) hx hb d_X_due_7 (by rw [c_184]; decide) (by rw [c_184]; decide) (by rw [c_184]; rfl) (by decide) ?_
              refine lv_aload_n hx hb d_X_due_73 rfl (lv_at hl 0 rfl) ?_
              refine va_get (D := D) (ci := 0) (v := .long (d_paidI (x_debts z (ixN (q))))) (C := R_D) (T := F_D) (N := 15) hx hb hts (in_D _) hown hK hP (b + 7 + 3 * (ixN (q))) hU.o rfl 11 (by decide) (hts (.fieldLink R_X 153 "DebtRows$Debt" "paidInterest" "J") (List.mem_cons_of_mem _ mB_227)) (fun _ h9 => h9) rfl d_X_due_74 ?_
              refine vx_ret (W.widen (k := 2) (n := 12) (Nat.le_of_ble_eq_true rfl) (Nat.le_of_ble_eq_true rfl) ?_)
              exact W.lret (v := d_paidI (x_debts z (ixN (q)))) hx hb hr (fun t ht hW => ⟨⟨_, (), rfl, ⟨by rw [f_due, if_pos c_177, if_neg c_179, if_neg c_180, if_neg c_182, if_neg c_183, if_pos c_184], by rw [f_due, if_pos c_177, if_neg c_179, if_neg c_180, if_neg c_182, if_neg c_183, if_pos c_184]⟩, w, by rw [ht]; exact hP, hD, by rw [f_due, if_pos c_177, if_neg c_179, if_neg c_180, if_neg c_182, if_neg c_183, if_pos c_184]; exact hC.at, hC.2⟩, hS.F ht⟩) hS.2.2 d_X_due_77
            · refine lv_tableOut (tgt := 78) hx hb d_X_due_7 (tsw5 c_179 c_180 c_182 c_183 c_184) (by decide) ?_
              obtain ⟨sa9, hz9⟩ := hE.2.2.2 (156, "no such side") (by decide)
              exact vx_throwS (own := R_X) (cls := "java/lang/IllegalArgumentException") (names := ["java/lang/RuntimeException", "java/lang/Exception"]) hx hb hl9 hown (by decide +kernel) (by decide +kernel) (hts (.classLink R_X 45 "java/lang/IllegalArgumentException") (List.mem_cons_of_mem _ mB_161)) (hts (.initialized "java/lang/IllegalArgumentException") (List.mem_cons_of_mem _ mB_22)) hz9 (vx_hat (B := badL) (fun w hw => hts w ((by decide +kernel : ∀ w ∈ (vx_atS R_X 49 "java/lang/IllegalArgumentException" ["java/lang/RuntimeException", "java/lang/Exception"]).filter goodWord, w ∈ w_X_due) w hw)) (by decide +kernel) (fun w hw => bad_use hw (hE.2.2.1 w hw))) (by decide +kernel) hE.1 hE.2.1 hS (hl.1.trans hml.symm) d_X_due_78 d_X_due_81 d_X_due_82 d_X_due_84 d_X_due_87 (fun x hx => (hEx x hx).elim) (Nat.le_of_ble_eq_true rfl) (Nat.le_of_ble_eq_true rfl) (Nat.le_of_ble_eq_true rfl) (Nat.le_of_ble_eq_true rfl) hlocks (fun t ha hsz hk => ⟨(), trivial, ⟨⟨0, rfl, by rw [f_due, if_pos c_177, if_neg c_179, if_neg c_180, if_neg c_182, if_neg c_183, if_neg c_184]; rfl⟩, hP.kept (fun k q hq => hk q.1 (hP k q hq).lt)⟩, Nat.le_trans hS.1 hsz, fun q h1 h2 => (hk q (Nat.lt_of_lt_of_le h1 hS.1)).trans (hS.2.1 q h1 h2)⟩) hS.2.2 (Nat.le_of_ble_eq_true rfl) (Nat.le_of_ble_eq_true rfl)
def f_recourse (z : XT) (q : Int32) (who : Int32) (sd : Int32) : Int32 × Int64 × XT :=
  if okN (z) (q) then (if (f_placeOf (x_debts z (ixN (q))) (who)) = -1 then (1, 0, z)
    else if sd = 0 then (0, (f_paidBy (x_debts z (ixN (q))) ((f_placeOf (x_debts z (ixN (q))) (who)))), z)
      else if sd = 1 then (0, (f_shareOf (x_debts z (ixN (q))) ((f_placeOf (x_debts z (ixN (q))) (who)))), z)
        else if sd = 2 then (0, (jMax (0) (((f_paidBy (x_debts z (ixN (q))) ((f_placeOf (x_debts z (ixN (q))) (who)))) - (f_shareOf (x_debts z (ixN (q))) ((f_placeOf (x_debts z (ixN (q))) (who))))))), z)
          else (1, 0, z))
  else (1, 0, z)
set_option maxHeartbeats 4000000 in
set_option maxRecDepth 100000 in
theorem c_recourse (l : Launch) (hl9 : l.stackTraces = false) (D : va_G) (A : Nat → Prop) (w : va_W) (cI cL cD : ClassId) (b : Nat) (a : AD) (z : XT) (q : Int32) (who : Int32) (sd : Int32) (hC0 : cA w b cI cL cD a z) : vx_Met l y_X_recourse w_X_recourse ({ frames := 7, cells := 2, slots := 12, locals := 112 }) (ePc D w (tyL cI cL cD) A [.ref (a_x a), .int (q), .int (who), .int (sd)]) (va_Ql (fun z9 (_ : Unit) => (f_recourse z q who sd).1 = 0 ∧ z9 = (f_recourse z q who sd).2.1) (fun (_ : Unit) t => ∃ w9 : va_W, va_P D vwCl w9 t.heap ∧ va_D A w9 ∧ cAt w9 b cI cL cD (a_x a) ((f_recourse z q who sd).2.2) ∧ ∀ j, j < b → w9[j]? = w[j]?) A) (vx_X (fun _ : Unit => True) (fun E9 _ t => exN ["java/lang/IllegalArgumentException"] (f_recourse z q who sd).1 E9 ∧ va_P D vwCl w t.heap) A) 2 12 A := by
  refine vx_ofW (cc := b_X_recourse) (maxL := 6) (ret := (some .long)) (by decide) rfl ?_
  intro p e s m args below meth c s₁ B hml hEx hv
  obtain ⟨rfl, hP, hK, hD, hE⟩ := hv
  have hx := B.exec
  have hb := B.bytes
  have hr := B.returns
  have hts := atoms_spec (ws := w_X_recourse) B.pre
  have hown : s.vm.findClass R_X = some m.cls := findClass_of_methodNamed B.named
  have hlocks := B.notSynchronized
  have hS : va_S A s.heap s.heap [] := va_S.rf
  have hC : cUpd w w b cI cL cD a z := cUpd.rf hC0
  have hl := lv_entry ([.ref (a_x a), .int (q), .int (who), .int (sd)]) (n := 6) (Nat.le_of_ble_eq_true rfl)
  rw [lg_entry_eq]
  generalize (lg_sl ([.ref (a_x a), .int (q), .int (who), .int (sd)]) ++ List.replicate (6 - (lg_sl ([.ref (a_x a), .int (q), .int (who), .int (sd)])).length) Slot.unset).toArray = ls at hl ⊢
  have hl : lv_has ls 6 [(0, .ref (a_x a)), (1, .int (q)), (2, .int (who)), (3, .int (sd))] := hl
  refine lv_aload_n hx hb d_X_recourse_0 rfl (lv_at hl 0 rfl) ?_
  refine lv_iload_n hx hb d_X_recourse_1 rfl (lv_at hl 1 rfl) ?_
  refine vz_callq (vx_runV (As := [.int (q)]) (rest := []) ⟨hx, hb, hml, hown, hts⟩ (c_findOrRefuse l hl9 D A w cI cL cD b a (z) (q) hC.1) (cwV 1 hts (gV _ mB_254 mB_255 mB_3 mB_15 mB_256) rfl rfl rfl (by decide +kernel) ⟨(Nat.le_of_ble_eq_true rfl), (Nat.le_of_ble_eq_true rfl)⟩) ⟨ePc_bl, va_recv hK hP (ci := 2) (q0 := b) rfl hC.1.x, ePc_pr hP hK hD hE hS⟩ rfl rfl hl.1 rfl (lv_room (Nat.le_of_ble_eq_true rfl)) d_X_recourse_2 ⟨(Nat.le_of_ble_eq_true rfl), (Nat.le_of_ble_eq_true rfl)⟩) hS (fun _ _ h => h) (fun _ h => h) (fun _ _ h => h) (fun E9 ce q9 u9 t H locs ht hvm hp9 hB hz1 hk1 hS hce hcv hcl => ?_) (fun v_185 u9 t H locs ht hvm hp9 hB hz1 hk1 hS => ?_)
  · obtain ⟨rfl, c_186, hP⟩ := hB
    rw [ht] at hP
    exact vx_out (E := "java/lang/IllegalArgumentException") (fun x hx => (hEx x hx).elim) hlocks hce hcv hcl (fun t ht ha => ⟨(), trivial, ⟨⟨0, rfl, by rw [f_recourse, if_neg c_186]; rfl⟩, by rw [ht]; exact hP⟩, hS.F ht⟩) hS.2.2 (Nat.le_of_ble_eq_true rfl) (Nat.le_of_ble_eq_true rfl)
  · obtain ⟨c_186, ev_185⟩ := hp9
    subst ev_185
    have hP := hB
    rw [ht] at hP
    have hi_187 : ixN (q) < a_n a := (okN_ix c_186 hC.1.en hC.1.n).1
    have hU : dUpd w w (b + 7 + 3 * (ixN (q))) cI cL (a_da a (ixN (q))) (a_pa a (ixN (q))) (a_qa a (ixN (q))) (x_debts z (ixN (q))) := dUpd.rf (hC.1.d hi_187)
    have hw : wfD (x_debts z (ixN (q))) := hC.1.wd hi_187
    refine lv_astore (lv' := [(4, .ref (a_da a (ixN (q)))), (0, .ref (a_x a)), (1, .int (q)), (2, .int (who)), (3, .int (sd))]) hx hb d_X_recourse_5 hl (by decide) rfl (fun ls hl => ?_)
    refine lv_aload hx hb d_X_recourse_7 (lv_at hl 0 rfl) ?_
    refine lv_iload_n hx hb d_X_recourse_9 rfl (lv_at hl 3 rfl) ?_
    refine vp_callSi (W.runV (As := [.int (who)]) (rest := []) ⟨hx, hb, hml, hown, hts⟩ (c_placeOf l D A w cI cL cD (b + 7 + 3 * (ixN (q))) (a_da a (ixN (q))) (a_pa a (ixN (q))) (a_qa a (ixN (q))) (x_debts z (ixN (q))) (who) hU.1 hw) (cwV 1 hts (gV _ mB_278 mB_80 mB_81 mB_24 mB_82) rfl rfl rfl (by decide +kernel) ⟨(Nat.le_of_ble_eq_true rfl), (Nat.le_of_ble_eq_true rfl)⟩) ⟨mPc_bl, va_recv hK hP (ci := 0) (q0 := (b + 7 + 3 * (ixN (q)))) rfl hU.o, mPc_pr hP hK hD⟩ rfl rfl hl.1 rfl (lv_room (Nat.le_of_ble_eq_true rfl)) d_X_recourse_10 ⟨(Nat.le_of_ble_eq_true rfl), (Nat.le_of_ble_eq_true rfl)⟩) (fun v_188 ev_188 => ?_)
    subst ev_188
    refine lv_istore (lv' := [(5, .int ((f_placeOf (x_debts z (ixN (q))) (who)))), (4, .ref (a_da a (ixN (q)))), (0, .ref (a_x a)), (1, .int (q)), (2, .int (who)), (3, .int (sd))]) hx hb d_X_recourse_13 hl (by decide) rfl (fun ls hl => ?_)
    refine lv_iload hx hb d_X_recourse_15 (lv_at hl 0 rfl) ?_
    refine lv_iconst (v := -1) hx hb d_X_recourse_17 (by decide) ?_
    refine lv_icmp_ne (tgt := 31) hx hb d_X_recourse_18 (by decide) (fun c_189 => ?_) (fun c_189 => ?_)
    · refine lv_iload_n hx hb d_X_recourse_31 rfl (lv_at hl 5 rfl) ?_
      rcases Decidable.em (sd = (0 : Int32)) with c_190 | c_190
      · refine lv_tableIn (tgt := 60) hx hb d_X_recourse_32 (by rw [c_190]; decide) (by rw [c_190]; decide) (by rw [c_190]; rfl) (by decide) ?_
        refine lv_aload hx hb d_X_recourse_60 (lv_at hl 1 rfl) ?_
        refine lv_iload hx hb d_X_recourse_62 (lv_at hl 0 rfl) ?_
        refine vp_callSl (W.runV (As := [.int ((f_placeOf (x_debts z (ixN (q))) (who)))]) (rest := []) ⟨hx, hb, hml, hown, hts⟩ (c_paidBy l D A w cI cL cD (b + 7 + 3 * (ixN (q))) (a_da a (ixN (q))) (a_pa a (ixN (q))) (a_qa a (ixN (q))) (x_debts z (ixN (q))) ((f_placeOf (x_debts z (ixN (q))) (who))) hU.1 hw) (cwV 1 hts (gV _ mB_372 mB_373 mB_374 mB_24 mB_375) rfl rfl rfl (by decide +kernel) ⟨(Nat.le_of_ble_eq_true rfl), (Nat.le_of_ble_eq_true rfl)⟩) ⟨mPc_bl, va_recv hK hP (ci := 0) (q0 := (b + 7 + 3 * (ixN (q)))) rfl hU.o, mPc_pr hP hK hD⟩ rfl rfl hl.1 rfl (lv_room (Nat.le_of_ble_eq_true rfl)) d_X_recourse_64 ⟨(Nat.le_of_ble_eq_true rfl), (Nat.le_of_ble_eq_true rfl)⟩) (fun v_191 ev_191 => ?_)
        subst ev_191
        refine vx_ret (W.widen (k := 2) (n := 12) (Nat.le_of_ble_eq_true rfl) (Nat.le_of_ble_eq_true rfl) ?_)
        exact W.lret (v := (f_paidBy (x_debts z (ixN (q))) ((f_placeOf (x_debts z (ixN (q))) (who))))) hx hb hr (fun t ht hW => ⟨⟨_, (), rfl, ⟨by rw [f_recourse, if_pos c_186, if_neg c_189, if_pos c_190], by rw [f_recourse, if_pos c_186, if_neg c_189, if_pos c_190]⟩, w, by rw [ht]; exact hP, hD, by rw [f_recourse, if_pos c_186, if_neg c_189, if_pos c_190]; exact hC.at, hC.2⟩, hS.F ht⟩) hS.2.2 d_X_recourse_67
      · rcases Decidable.em (sd = (1 : Int32)) with c_192 | c_192
        · refine lv_tableIn (tgt := 68) hx hb d_X_recourse_32 (by rw [c_192]; decide) (by rw [c_192]; decide) (by rw [c_192]; rfl) (by decide) ?_
          refine lv_aload hx hb d_X_recourse_68 (lv_at hl 1 rfl) ?_
          refine lv_iload hx hb d_X_recourse_70 (lv_at hl 0 rfl) ?_
          refine vp_callSl (W.runV (As := [.int ((f_placeOf (x_debts z (ixN (q))) (who)))]) (rest := []) ⟨hx, hb, hml, hown, hts⟩ (c_shareOf l D A w cI cL cD (b + 7 + 3 * (ixN (q))) (a_da a (ixN (q))) (a_pa a (ixN (q))) (a_qa a (ixN (q))) (x_debts z (ixN (q))) ((f_placeOf (x_debts z (ixN (q))) (who))) hU.1) (cwV 1 hts (gV _ mB_376 mB_377 mB_378 mB_24 mB_379) rfl rfl rfl (by decide +kernel) ⟨(Nat.le_of_ble_eq_true rfl), (Nat.le_of_ble_eq_true rfl)⟩) ⟨mPc_bl, va_recv hK hP (ci := 0) (q0 := (b + 7 + 3 * (ixN (q)))) rfl hU.o, mPc_pr hP hK hD⟩ rfl rfl hl.1 rfl (lv_room (Nat.le_of_ble_eq_true rfl)) d_X_recourse_72 ⟨(Nat.le_of_ble_eq_true rfl), (Nat.le_of_ble_eq_true rfl)⟩) (fun v_193 ev_193 => ?_)
          subst ev_193
          refine vx_ret (W.widen (k := 2) (n := 12) (Nat.le_of_ble_eq_true rfl) (Nat.le_of_ble_eq_true rfl) ?_)
          exact W.lret (v := (f_shareOf (x_debts z (ixN (q))) ((f_placeOf (x_debts z (ixN (q))) (who))))) hx hb hr (fun t ht hW => ⟨⟨_, (), rfl, ⟨by rw [f_recourse, if_pos c_186, if_neg c_189, if_neg c_190, if_pos c_192], by rw [f_recourse, if_pos c_186, if_neg c_189, if_neg c_190, if_pos c_192]⟩, w, by rw [ht]; exact hP, hD, by rw [f_recourse, if_pos c_186, if_neg c_189, if_neg c_190, if_pos c_192]; exact hC.at, hC.2⟩, hS.F ht⟩) hS.2.2 d_X_recourse_75
        · rcases Decidable.em (sd = (2 : Int32)) with c_194 | c_194
          · refine lv_tableIn (tgt := 76) hx hb d_X_recourse_32 (by rw [c_194]; decide) (by rw [c_194]; decide) (by rw [c_194]; rfl) (by decide) ?_
            refine lv_lconst (v := 0) hx hb d_X_recourse_76 (by decide) ?_
            refine lv_aload hx hb d_X_recourse_77 (lv_at hl 1 rfl) ?_
            refine lv_iload hx hb d_X_recourse_79 (lv_at hl 0 rfl) ?_
            refine vp_callSl (W.runV (As := [.int ((f_placeOf (x_debts z (ixN (q))) (who)))]) (rest := [.long (0)]) ⟨hx, hb, hml, hown, hts⟩ (c_paidBy l D A w cI cL cD (b + 7 + 3 * (ixN (q))) (a_da a (ixN (q))) (a_pa a (ixN (q))) (a_qa a (ixN (q))) (x_debts z (ixN (q))) ((f_placeOf (x_debts z (ixN (q))) (who))) hU.1 hw) (cwV 1 hts (gV _ mB_372 mB_373 mB_374 mB_24 mB_375) rfl rfl rfl (by decide +kernel) ⟨(Nat.le_of_ble_eq_true rfl), (Nat.le_of_ble_eq_true rfl)⟩) ⟨mPc_bl, va_recv hK hP (ci := 0) (q0 := (b + 7 + 3 * (ixN (q)))) rfl hU.o, mPc_pr hP hK hD⟩ rfl rfl hl.1 rfl (lv_room (Nat.le_of_ble_eq_true rfl)) d_X_recourse_81 ⟨(Nat.le_of_ble_eq_true rfl), (Nat.le_of_ble_eq_true rfl)⟩) (fun v_195 ev_195 => ?_)
            subst ev_195
            refine lv_aload hx hb d_X_recourse_84 (lv_at hl 1 rfl) ?_
            refine lv_iload hx hb d_X_recourse_86 (lv_at hl 0 rfl) ?_
            refine vp_callSl (W.runV (As := [.int ((f_placeOf (x_debts z (ixN (q))) (who)))]) (rest := [.long ((f_paidBy (x_debts z (ixN (q))) ((f_placeOf (x_debts z (ixN (q))) (who))))), .long (0)]) ⟨hx, hb, hml, hown, hts⟩ (c_shareOf l D A w cI cL cD (b + 7 + 3 * (ixN (q))) (a_da a (ixN (q))) (a_pa a (ixN (q))) (a_qa a (ixN (q))) (x_debts z (ixN (q))) ((f_placeOf (x_debts z (ixN (q))) (who))) hU.1) (cwV 1 hts (gV _ mB_376 mB_377 mB_378 mB_24 mB_379) rfl rfl rfl (by decide +kernel) ⟨(Nat.le_of_ble_eq_true rfl), (Nat.le_of_ble_eq_true rfl)⟩) ⟨mPc_bl, va_recv hK hP (ci := 0) (q0 := (b + 7 + 3 * (ixN (q)))) rfl hU.o, mPc_pr hP hK hD⟩ rfl rfl hl.1 rfl (lv_room (Nat.le_of_ble_eq_true rfl)) d_X_recourse_88 ⟨(Nat.le_of_ble_eq_true rfl), (Nat.le_of_ble_eq_true rfl)⟩) (fun v_196 ev_196 => ?_)
            subst ev_196
            refine lv_lsub hx hb d_X_recourse_91 ?_
            refine va_mmax_long (own := R_X) (index := 167) hx hb (hml.trans hl.1.symm) hown (hts (.methodLink R_X 167 Lib.MathLoose.max_long.x) (List.mem_cons_of_mem _ mB_380)) (hts (.static Lib.MathLoose.max_long.x) (List.mem_cons_of_mem _ mB_381)) (hts (.initialized "java/lang/Math") (List.mem_cons_of_mem _ mB_25)) (hts _ (List.mem_cons_of_mem _ mC_lmax)) (Nat.le_of_ble_eq_true rfl) (Nat.le_of_ble_eq_true rfl) (Nat.le_of_ble_eq_true rfl) (Nat.le_of_ble_eq_true rfl) d_X_recourse_92 ?_
            refine lv_topl (fun v_197 ev_197 => ?_)
            have ev_197 : v_197 = jMax (0) (((f_paidBy (x_debts z (ixN (q))) ((f_placeOf (x_debts z (ixN (q))) (who)))) - (f_shareOf (x_debts z (ixN (q))) ((f_placeOf (x_debts z (ixN (q))) (who)))))) := ev_197
            subst ev_197
            refine vx_ret (W.widen (k := 2) (n := 12) (Nat.le_of_ble_eq_true rfl) (Nat.le_of_ble_eq_true rfl) ?_)
            exact W.lret (v := (jMax (0) (((f_paidBy (x_debts z (ixN (q))) ((f_placeOf (x_debts z (ixN (q))) (who)))) - (f_shareOf (x_debts z (ixN (q))) ((f_placeOf (x_debts z (ixN (q))) (who)))))))) hx hb hr (fun t ht hW => ⟨⟨_, (), rfl, ⟨by rw [f_recourse, if_pos c_186, if_neg c_189, if_neg c_190, if_neg c_192, if_pos c_194], by rw [f_recourse, if_pos c_186, if_neg c_189, if_neg c_190, if_neg c_192, if_pos c_194]⟩, w, by rw [ht]; exact hP, hD, by rw [f_recourse, if_pos c_186, if_neg c_189, if_neg c_190, if_neg c_192, if_pos c_194]; exact hC.at, hC.2⟩, hS.F ht⟩) hS.2.2 d_X_recourse_95
          · refine lv_tableOut (tgt := 96) hx hb d_X_recourse_32 (tsw3 c_190 c_192 c_194) (by decide) ?_
            obtain ⟨sa9, hz9⟩ := hE.2.2.2 (156, "no such side") (by decide)
            exact vx_throwS (own := R_X) (cls := "java/lang/IllegalArgumentException") (names := ["java/lang/RuntimeException", "java/lang/Exception"]) hx hb hl9 hown (by decide +kernel) (by decide +kernel) (hts (.classLink R_X 45 "java/lang/IllegalArgumentException") (List.mem_cons_of_mem _ mB_161)) (hts (.initialized "java/lang/IllegalArgumentException") (List.mem_cons_of_mem _ mB_22)) hz9 (vx_hat (B := badL) (fun w hw => hts w ((by decide +kernel : ∀ w ∈ (vx_atS R_X 49 "java/lang/IllegalArgumentException" ["java/lang/RuntimeException", "java/lang/Exception"]).filter goodWord, w ∈ w_X_recourse) w hw)) (by decide +kernel) (fun w hw => bad_use hw (hE.2.2.1 w hw))) (by decide +kernel) hE.1 hE.2.1 hS (hl.1.trans hml.symm) d_X_recourse_96 d_X_recourse_99 d_X_recourse_100 d_X_recourse_102 d_X_recourse_105 (fun x hx => (hEx x hx).elim) (Nat.le_of_ble_eq_true rfl) (Nat.le_of_ble_eq_true rfl) (Nat.le_of_ble_eq_true rfl) (Nat.le_of_ble_eq_true rfl) hlocks (fun t ha hsz hk => ⟨(), trivial, ⟨⟨0, rfl, by rw [f_recourse, if_pos c_186, if_neg c_189, if_neg c_190, if_neg c_192, if_neg c_194]; rfl⟩, hP.kept (fun k q hq => hk q.1 (hP k q hq).lt)⟩, Nat.le_trans hS.1 hsz, fun q h1 h2 => (hk q (Nat.lt_of_lt_of_le h1 hS.1)).trans (hS.2.1 q h1 h2)⟩) hS.2.2 (Nat.le_of_ble_eq_true rfl) (Nat.le_of_ble_eq_true rfl)
    · obtain ⟨sa9, hz9⟩ := hE.2.2.2 (158, "no debtor of this debt") (by decide)
      exact vx_throwS (own := R_X) (cls := "java/lang/IllegalArgumentException") (names := ["java/lang/RuntimeException", "java/lang/Exception"]) hx hb hl9 hown (by decide +kernel) (by decide +kernel) (hts (.classLink R_X 45 "java/lang/IllegalArgumentException") (List.mem_cons_of_mem _ mB_161)) (hts (.initialized "java/lang/IllegalArgumentException") (List.mem_cons_of_mem _ mB_22)) hz9 (vx_hat (B := badL) (fun w hw => hts w ((by decide +kernel : ∀ w ∈ (vx_atS R_X 49 "java/lang/IllegalArgumentException" ["java/lang/RuntimeException", "java/lang/Exception"]).filter goodWord, w ∈ w_X_recourse) w hw)) (by decide +kernel) (fun w hw => bad_use hw (hE.2.2.1 w hw))) (by decide +kernel) hE.1 hE.2.1 hS (hl.1.trans hml.symm) d_X_recourse_21 d_X_recourse_24 d_X_recourse_25 d_X_recourse_27 d_X_recourse_30 (fun x hx => (hEx x hx).elim) (Nat.le_of_ble_eq_true rfl) (Nat.le_of_ble_eq_true rfl) (Nat.le_of_ble_eq_true rfl) (Nat.le_of_ble_eq_true rfl) hlocks (fun t ha hsz hk => ⟨(), trivial, ⟨⟨0, rfl, by rw [f_recourse, if_pos c_186, if_pos c_189]; rfl⟩, hP.kept (fun k q hq => hk q.1 (hP k q hq).lt)⟩, Nat.le_trans hS.1 hsz, fun q h1 h2 => (hk q (Nat.lt_of_lt_of_le h1 hS.1)).trans (hS.2.1 q h1 h2)⟩) hS.2.2 (Nat.le_of_ble_eq_true rfl) (Nat.le_of_ble_eq_true rfl)
def f_look (z : XT) (q : Int32) (wh : Int32) : Int32 × Int32 × XT :=
  if okN (z) (q) then (if wh = 0 then (0, d_state (x_debts z (ixN (q))), z)
    else if wh = 1 then (0, d_birth (x_debts z (ixN (q))), z)
      else if wh = 2 then (0, d_due (x_debts z (ixN (q))), z)
        else if wh = 3 then (0, d_debtors (x_debts z (ixN (q))), z)
          else if wh < 4 then (1, 0, z)
            else if wh < (4 + d_debtors (x_debts z (ixN (q)))) then (0, (f_personAt (x_debts z (ixN (q))) ((wh - 4))), z)
              else (1, 0, z))
  else (1, 0, z)
set_option maxHeartbeats 4000000 in
set_option maxRecDepth 100000 in
theorem c_look (l : Launch) (hl9 : l.stackTraces = false) (D : va_G) (A : Nat → Prop) (w : va_W) (cI cL cD : ClassId) (b : Nat) (a : AD) (z : XT) (q : Int32) (wh : Int32) (hC0 : cA w b cI cL cD a z) : vx_Met l y_X_look w_X_look ({ frames := 6, cells := 1, slots := 6, locals := 90 }) (ePc D w (tyL cI cL cD) A [.ref (a_x a), .int (q), .int (wh)]) (va_Qi (fun z9 (_ : Unit) => (f_look z q wh).1 = 0 ∧ z9 = (f_look z q wh).2.1) (fun (_ : Unit) t => ∃ w9 : va_W, va_P D vwCl w9 t.heap ∧ va_D A w9 ∧ cAt w9 b cI cL cD (a_x a) ((f_look z q wh).2.2) ∧ ∀ j, j < b → w9[j]? = w[j]?) A) (vx_X (fun _ : Unit => True) (fun E9 _ t => exN ["java/lang/IndexOutOfBoundsException"] (f_look z q wh).1 E9 ∧ va_P D vwCl w t.heap) A) 1 6 A := by
  refine vx_ofW (cc := b_X_look) (maxL := 4) (ret := (some .int)) (by decide) rfl ?_
  intro p e s m args below meth c s₁ B hml hEx hv
  obtain ⟨rfl, hP, hK, hD, hE⟩ := hv
  have hx := B.exec
  have hb := B.bytes
  have hr := B.returns
  have hts := atoms_spec (ws := w_X_look) B.pre
  have hown : s.vm.findClass R_X = some m.cls := findClass_of_methodNamed B.named
  have hlocks := B.notSynchronized
  have hS : va_S A s.heap s.heap [] := va_S.rf
  have hC : cUpd w w b cI cL cD a z := cUpd.rf hC0
  have hl := lv_entry ([.ref (a_x a), .int (q), .int (wh)]) (n := 4) (Nat.le_of_ble_eq_true rfl)
  rw [lg_entry_eq]
  generalize (lg_sl ([.ref (a_x a), .int (q), .int (wh)]) ++ List.replicate (4 - (lg_sl ([.ref (a_x a), .int (q), .int (wh)])).length) Slot.unset).toArray = ls at hl ⊢
  have hl : lv_has ls 4 [(0, .ref (a_x a)), (1, .int (q)), (2, .int (wh))] := hl
  refine lv_aload_n hx hb d_X_look_0 rfl (lv_at hl 0 rfl) ?_
  refine lv_iload_n hx hb d_X_look_1 rfl (lv_at hl 1 rfl) ?_
  refine va_csq (W.runV (As := [.int (q)]) (rest := []) ⟨hx, hb, hml, hown, hts⟩ (c_find l D A w cI cL cD b a (z) (q) hC.1) (cwV 1 hts (gV _ mB_69 mB_70 mB_0 mB_15 mB_71) rfl rfl rfl (by decide +kernel) ⟨(Nat.le_of_ble_eq_true rfl), (Nat.le_of_ble_eq_true rfl)⟩) ⟨mPc_bl, va_recv hK hP (ci := 2) (q0 := b) rfl hC.1.x, mPc_pr hP hK hD⟩ rfl rfl hl.1 rfl (lv_room (Nat.le_of_ble_eq_true rfl)) d_X_look_2 ⟨(Nat.le_of_ble_eq_true rfl), (Nat.le_of_ble_eq_true rfl)⟩) (fun v_198 ev_198 => ?_)
  rcases Decidable.em (okN (z) (q)) with c_199 | c_199
  · rw [if_pos c_199] at ev_198
    subst ev_198
    have hi_200 : ixN (q) < a_n a := (okN_ix c_199 hC.1.en hC.1.n).1
    have hU : dUpd w w (b + 7 + 3 * (ixN (q))) cI cL (a_da a (ixN (q))) (a_pa a (ixN (q))) (a_qa a (ixN (q))) (x_debts z (ixN (q))) := dUpd.rf (hC.1.d hi_200)
    have hw : wfD (x_debts z (ixN (q))) := hC.1.wd hi_200
    refine lv_astore_n (lv' := [(3, .ref (a_da a (ixN (q)))), (0, .ref (a_x a)), (1, .int (q)), (2, .int (wh))]) hx hb d_X_look_5 rfl hl (by decide) rfl (fun ls hl => ?_)
    refine lv_aload_n hx hb d_X_look_6 rfl (lv_at hl 0 rfl) ?_
    refine lv_ifnonnull (tgt := 20) hx hb d_X_look_7 (by decide) ?_
    refine lv_iload_n hx hb d_X_look_20 rfl (lv_at hl 3 rfl) ?_
    rcases Decidable.em (wh = (0 : Int32)) with c_201 | c_201
    · refine lv_tableIn (tgt := 52) hx hb d_X_look_21 (by rw [c_201]; decide) (by rw [c_201]; decide) (by rw [c_201]; rfl) (by decide) ?_
      refine lv_aload_n hx hb d_X_look_52 rfl (lv_at hl 0 rfl) ?_
      refine va_get (D := D) (ci := 0) (v := .int (d_state (x_debts z (ixN (q))))) (C := R_D) (T := F_D) (N := 15) hx hb hts (in_D _) hown hK hP (b + 7 + 3 * (ixN (q))) hU.o rfl 5 (by decide) (hts (.fieldLink R_X 88 "DebtRows$Debt" "state" "I") (List.mem_cons_of_mem _ mB_217)) (fun _ h9 => h9) rfl d_X_look_53 ?_
      refine vx_ret (W.widen (k := 1) (n := 6) (Nat.le_of_ble_eq_true rfl) (Nat.le_of_ble_eq_true rfl) ?_)
      exact W.iret (v := d_state (x_debts z (ixN (q)))) hx hb hr (fun t ht hW => ⟨⟨_, (), rfl, ⟨by rw [f_look, if_pos c_199, if_pos c_201], by rw [f_look, if_pos c_199, if_pos c_201]⟩, w, by rw [ht]; exact hP, hD, by rw [f_look, if_pos c_199, if_pos c_201]; exact hC.at, hC.2⟩, hS.F ht⟩) hS.2.2 d_X_look_56
    · rcases Decidable.em (wh = (1 : Int32)) with c_202 | c_202
      · refine lv_tableIn (tgt := 57) hx hb d_X_look_21 (by rw [c_202]; decide) (by rw [c_202]; decide) (by rw [c_202]; rfl) (by decide) ?_
        refine lv_aload_n hx hb d_X_look_57 rfl (lv_at hl 0 rfl) ?_
        refine va_get (D := D) (ci := 0) (v := .int (d_birth (x_debts z (ixN (q))))) (C := R_D) (T := F_D) (N := 15) hx hb hts (in_D _) hown hK hP (b + 7 + 3 * (ixN (q))) hU.o rfl 1 (by decide) (hts (.fieldLink R_X 178 "DebtRows$Debt" "birth" "I") (List.mem_cons_of_mem _ mB_211)) (fun _ h9 => h9) rfl d_X_look_58 ?_
        refine vx_ret (W.widen (k := 1) (n := 6) (Nat.le_of_ble_eq_true rfl) (Nat.le_of_ble_eq_true rfl) ?_)
        exact W.iret (v := d_birth (x_debts z (ixN (q)))) hx hb hr (fun t ht hW => ⟨⟨_, (), rfl, ⟨by rw [f_look, if_pos c_199, if_neg c_201, if_pos c_202], by rw [f_look, if_pos c_199, if_neg c_201, if_pos c_202]⟩, w, by rw [ht]; exact hP, hD, by rw [f_look, if_pos c_199, if_neg c_201, if_pos c_202]; exact hC.at, hC.2⟩, hS.F ht⟩) hS.2.2 d_X_look_61
      · rcases Decidable.em (wh = (2 : Int32)) with c_203 | c_203
        · refine lv_tableIn (tgt := 62) hx hb d_X_look_21 (by rw [c_203]; decide) (by rw [c_203]; decide) (by rw [c_203]; rfl) (by decide) ?_
          refine lv_aload_n hx hb d_X_look_62 rfl (lv_at hl 0 rfl) ?_
          refine va_get (D := D) (ci := 0) (v := .int (d_due (x_debts z (ixN (q))))) (C := R_D) (T := F_D) (N := 15) hx hb hts (in_D _) hown hK hP (b + 7 + 3 * (ixN (q))) hU.o rfl 6 (by decide) (hts (.fieldLink R_X 97 "DebtRows$Debt" "dueDay" "I") (List.mem_cons_of_mem _ mB_219)) (fun _ h9 => h9) rfl d_X_look_63 ?_
          refine vx_ret (W.widen (k := 1) (n := 6) (Nat.le_of_ble_eq_true rfl) (Nat.le_of_ble_eq_true rfl) ?_)
          exact W.iret (v := d_due (x_debts z (ixN (q)))) hx hb hr (fun t ht hW => ⟨⟨_, (), rfl, ⟨by rw [f_look, if_pos c_199, if_neg c_201, if_neg c_202, if_pos c_203], by rw [f_look, if_pos c_199, if_neg c_201, if_neg c_202, if_pos c_203]⟩, w, by rw [ht]; exact hP, hD, by rw [f_look, if_pos c_199, if_neg c_201, if_neg c_202, if_pos c_203]; exact hC.at, hC.2⟩, hS.F ht⟩) hS.2.2 d_X_look_66
        · rcases Decidable.em (wh = (3 : Int32)) with c_204 | c_204
          · refine lv_tableIn (tgt := 67) hx hb d_X_look_21 (by rw [c_204]; decide) (by rw [c_204]; decide) (by rw [c_204]; rfl) (by decide) ?_
            refine lv_aload_n hx hb d_X_look_67 rfl (lv_at hl 0 rfl) ?_
            refine va_get (D := D) (ci := 0) (v := .int (d_debtors (x_debts z (ixN (q))))) (C := R_D) (T := F_D) (N := 15) hx hb hts (in_D _) hown hK hP (b + 7 + 3 * (ixN (q))) hU.o rfl 4 (by decide) (hts (.fieldLink R_X 181 "DebtRows$Debt" "debtors" "I") (List.mem_cons_of_mem _ mB_215)) (fun _ h9 => h9) rfl d_X_look_68 ?_
            refine vx_ret (W.widen (k := 1) (n := 6) (Nat.le_of_ble_eq_true rfl) (Nat.le_of_ble_eq_true rfl) ?_)
            exact W.iret (v := d_debtors (x_debts z (ixN (q)))) hx hb hr (fun t ht hW => ⟨⟨_, (), rfl, ⟨by rw [f_look, if_pos c_199, if_neg c_201, if_neg c_202, if_neg c_203, if_pos c_204], by rw [f_look, if_pos c_199, if_neg c_201, if_neg c_202, if_neg c_203, if_pos c_204]⟩, w, by rw [ht]; exact hP, hD, by rw [f_look, if_pos c_199, if_neg c_201, if_neg c_202, if_neg c_203, if_pos c_204]; exact hC.at, hC.2⟩, hS.F ht⟩) hS.2.2 d_X_look_71
          · refine lv_tableOut (tgt := 72) hx hb d_X_look_21 (tsw4 c_201 c_202 c_203 c_204) (by decide) ?_
            refine lv_iload_n hx hb d_X_look_72 rfl (lv_at hl 3 rfl) ?_
            refine lv_iconst (v := 4) hx hb d_X_look_73 (by decide) ?_
            refine lv_icmp_lt (tgt := 87) hx hb d_X_look_74 (by decide) (fun c_205 => ?_) (fun c_205 => ?_)
            · obtain ⟨sa9, hz9⟩ := hE.2.2.2 (184, "nothing to look at") (by decide)
              exact vx_throwS (own := R_X) (cls := "java/lang/IndexOutOfBoundsException") (names := ["java/lang/RuntimeException", "java/lang/Exception"]) hx hb hl9 hown (by decide +kernel) (by decide +kernel) (hts (.classLink R_X 173 "java/lang/IndexOutOfBoundsException") (List.mem_cons_of_mem _ mB_390)) (hts (.initialized "java/lang/IndexOutOfBoundsException") (List.mem_cons_of_mem _ mB_26)) hz9 (vx_hat (B := badL) (fun w hw => hts w ((by decide +kernel : ∀ w ∈ (vx_atS R_X 177 "java/lang/IndexOutOfBoundsException" ["java/lang/RuntimeException", "java/lang/Exception"]).filter goodWord, w ∈ w_X_look) w hw)) (by decide +kernel) (fun w hw => bad_use hw (hE.2.2.1 w hw))) (by decide +kernel) hE.1 hE.2.1 hS (hl.1.trans hml.symm) d_X_look_87 d_X_look_90 d_X_look_91 d_X_look_93 d_X_look_96 (fun x hx => (hEx x hx).elim) (Nat.le_of_ble_eq_true rfl) (Nat.le_of_ble_eq_true rfl) (Nat.le_of_ble_eq_true rfl) (Nat.le_of_ble_eq_true rfl) hlocks (fun t ha hsz hk => ⟨(), trivial, ⟨⟨0, rfl, by rw [f_look, if_pos c_199, if_neg c_201, if_neg c_202, if_neg c_203, if_neg c_204, if_pos c_205]; rfl⟩, hP.kept (fun k q hq => hk q.1 (hP k q hq).lt)⟩, Nat.le_trans hS.1 hsz, fun q h1 h2 => (hk q (Nat.lt_of_lt_of_le h1 hS.1)).trans (hS.2.1 q h1 h2)⟩) hS.2.2 (Nat.le_of_ble_eq_true rfl) (Nat.le_of_ble_eq_true rfl)
            · refine lv_iload_n hx hb d_X_look_77 rfl (lv_at hl 3 rfl) ?_
              refine lv_iconst (v := 4) hx hb d_X_look_78 (by decide) ?_
              refine lv_aload_n hx hb d_X_look_79 rfl (lv_at hl 0 rfl) ?_
              refine va_get (D := D) (ci := 0) (v := .int (d_debtors (x_debts z (ixN (q))))) (C := R_D) (T := F_D) (N := 15) hx hb hts (in_D _) hown hK hP (b + 7 + 3 * (ixN (q))) hU.o rfl 4 (by decide) (hts (.fieldLink R_X 181 "DebtRows$Debt" "debtors" "I") (List.mem_cons_of_mem _ mB_215)) (fun _ h9 => h9) rfl d_X_look_80 ?_
              refine lv_iadd hx hb d_X_look_83 ?_
              refine lv_icmp_lt (tgt := 97) hx hb d_X_look_84 (by decide) (fun c_206 => ?_) (fun c_206 => ?_)
              · refine lv_aload_n hx hb d_X_look_97 rfl (lv_at hl 0 rfl) ?_
                refine lv_iload_n hx hb d_X_look_98 rfl (lv_at hl 3 rfl) ?_
                refine lv_iconst (v := 4) hx hb d_X_look_99 (by decide) ?_
                refine lv_isub hx hb d_X_look_100 ?_
                refine vp_callSi (W.runV (As := [.int ((wh - 4))]) (rest := []) ⟨hx, hb, hml, hown, hts⟩ (c_personAt l D A w cI cL cD (b + 7 + 3 * (ixN (q))) (a_da a (ixN (q))) (a_pa a (ixN (q))) (a_qa a (ixN (q))) (x_debts z (ixN (q))) ((wh - 4)) hU.1 hw) (cwV 1 hts (gV _ mB_404 mB_405 mB_406 mB_24 mB_407) rfl rfl rfl (by decide +kernel) ⟨(Nat.le_of_ble_eq_true rfl), (Nat.le_of_ble_eq_true rfl)⟩) ⟨mPc_bl, va_recv hK hP (ci := 0) (q0 := (b + 7 + 3 * (ixN (q)))) rfl hU.o, mPc_pr hP hK hD⟩ rfl rfl hl.1 rfl (lv_room (Nat.le_of_ble_eq_true rfl)) d_X_look_101 ⟨(Nat.le_of_ble_eq_true rfl), (Nat.le_of_ble_eq_true rfl)⟩) (fun v_207 ev_207 => ?_)
                subst ev_207
                refine vx_ret (W.widen (k := 1) (n := 6) (Nat.le_of_ble_eq_true rfl) (Nat.le_of_ble_eq_true rfl) ?_)
                exact W.iret (v := (f_personAt (x_debts z (ixN (q))) ((wh - 4)))) hx hb hr (fun t ht hW => ⟨⟨_, (), rfl, ⟨by rw [f_look, if_pos c_199, if_neg c_201, if_neg c_202, if_neg c_203, if_neg c_204, if_neg c_205, if_pos c_206], by rw [f_look, if_pos c_199, if_neg c_201, if_neg c_202, if_neg c_203, if_neg c_204, if_neg c_205, if_pos c_206]⟩, w, by rw [ht]; exact hP, hD, by rw [f_look, if_pos c_199, if_neg c_201, if_neg c_202, if_neg c_203, if_neg c_204, if_neg c_205, if_pos c_206]; exact hC.at, hC.2⟩, hS.F ht⟩) hS.2.2 d_X_look_104
              · obtain ⟨sa9, hz9⟩ := hE.2.2.2 (184, "nothing to look at") (by decide)
                exact vx_throwS (own := R_X) (cls := "java/lang/IndexOutOfBoundsException") (names := ["java/lang/RuntimeException", "java/lang/Exception"]) hx hb hl9 hown (by decide +kernel) (by decide +kernel) (hts (.classLink R_X 173 "java/lang/IndexOutOfBoundsException") (List.mem_cons_of_mem _ mB_390)) (hts (.initialized "java/lang/IndexOutOfBoundsException") (List.mem_cons_of_mem _ mB_26)) hz9 (vx_hat (B := badL) (fun w hw => hts w ((by decide +kernel : ∀ w ∈ (vx_atS R_X 177 "java/lang/IndexOutOfBoundsException" ["java/lang/RuntimeException", "java/lang/Exception"]).filter goodWord, w ∈ w_X_look) w hw)) (by decide +kernel) (fun w hw => bad_use hw (hE.2.2.1 w hw))) (by decide +kernel) hE.1 hE.2.1 hS (hl.1.trans hml.symm) d_X_look_87 d_X_look_90 d_X_look_91 d_X_look_93 d_X_look_96 (fun x hx => (hEx x hx).elim) (Nat.le_of_ble_eq_true rfl) (Nat.le_of_ble_eq_true rfl) (Nat.le_of_ble_eq_true rfl) (Nat.le_of_ble_eq_true rfl) hlocks (fun t ha hsz hk => ⟨(), trivial, ⟨⟨0, rfl, by rw [f_look, if_pos c_199, if_neg c_201, if_neg c_202, if_neg c_203, if_neg c_204, if_neg c_205, if_neg c_206]; rfl⟩, hP.kept (fun k q hq => hk q.1 (hP k q hq).lt)⟩, Nat.le_trans hS.1 hsz, fun q h1 h2 => (hk q (Nat.lt_of_lt_of_le h1 hS.1)).trans (hS.2.1 q h1 h2)⟩) hS.2.2 (Nat.le_of_ble_eq_true rfl) (Nat.le_of_ble_eq_true rfl)
  · rw [if_neg c_199] at ev_198
    subst ev_198
    refine lv_astore_nN (lv' := [(3, .null), (0, .ref (a_x a)), (1, .int (q)), (2, .int (wh))]) hx hb d_X_look_5 rfl hl (by decide) rfl (fun ls hl => ?_)
    refine lv_aload_nN hx hb d_X_look_6 rfl (lv_at hl 0 rfl) ?_
    refine lv_ifnonnullN hx hb d_X_look_7 ?_
    obtain ⟨sa9, hz9⟩ := hE.2.2.2 (175, "no such debt") (by decide)
    exact vx_throwS (own := R_X) (cls := "java/lang/IndexOutOfBoundsException") (names := ["java/lang/RuntimeException", "java/lang/Exception"]) hx hb hl9 hown (by decide +kernel) (by decide +kernel) (hts (.classLink R_X 173 "java/lang/IndexOutOfBoundsException") (List.mem_cons_of_mem _ mB_390)) (hts (.initialized "java/lang/IndexOutOfBoundsException") (List.mem_cons_of_mem _ mB_26)) hz9 (vx_hat (B := badL) (fun w hw => hts w ((by decide +kernel : ∀ w ∈ (vx_atS R_X 177 "java/lang/IndexOutOfBoundsException" ["java/lang/RuntimeException", "java/lang/Exception"]).filter goodWord, w ∈ w_X_look) w hw)) (by decide +kernel) (fun w hw => bad_use hw (hE.2.2.1 w hw))) (by decide +kernel) hE.1 hE.2.1 hS (hl.1.trans hml.symm) d_X_look_10 d_X_look_13 d_X_look_14 d_X_look_16 d_X_look_19 (fun x hx => (hEx x hx).elim) (Nat.le_of_ble_eq_true rfl) (Nat.le_of_ble_eq_true rfl) (Nat.le_of_ble_eq_true rfl) (Nat.le_of_ble_eq_true rfl) hlocks (fun t ha hsz hk => ⟨(), trivial, ⟨⟨0, rfl, by rw [f_look, if_neg c_199]; rfl⟩, hP.kept (fun k q hq => hk q.1 (hP k q hq).lt)⟩, Nat.le_trans hS.1 hsz, fun q h1 h2 => (hk q (Nat.lt_of_lt_of_le h1 hS.1)).trans (hS.2.1 q h1 h2)⟩) hS.2.2 (Nat.le_of_ble_eq_true rfl) (Nat.le_of_ble_eq_true rfl)
def f_rate (z : XT) (fr : Int32) (up : Int32) (dn : Int32) : Int32 × Int32 × XT :=
  if dn = 0 then (1, 0, z)
  else if fr ≤ x_today z then (2, 0, z)
    else if fr < (f_R_latestDay (x_rates z)) then (2, 0, z)
      else if fr ≤ 100000 then (if dn < 0 then (2, 0, z)
          else if 1000 < dn then (2, 0, z)
            else if up < 0 then (2, 0, z)
              else if up ≤ dn then (if r_count (x_rates z) < 20 then (0, r_count ((f_R_append (x_rates z) (fr) (up) (dn))), y_rates (z) (f_R_append (x_rates z) (fr) (up) (dn)))
                  else (3, 0, z))
                else (2, 0, z))
        else (2, 0, z)
set_option maxHeartbeats 4000000 in
set_option maxRecDepth 100000 in
theorem c_rate (l : Launch) (hl9 : l.stackTraces = false) (D : va_G) (A : Nat → Prop) (w : va_W) (cI cL cD : ClassId) (b : Nat) (a : AD) (z : XT) (fr : Int32) (up : Int32) (dn : Int32) (hC0 : cA w b cI cL cD a z) : vx_Met l y_X_rate w_X_rate ({ frames := 6, cells := 1, slots := 6, locals := 90 }) (ePc D w (tyL cI cL cD) A [.ref (a_x a), .int (fr), .int (up), .int (dn)]) (va_Qi (fun z9 (_ : Unit) => (f_rate z fr up dn).1 = 0 ∧ z9 = (f_rate z fr up dn).2.1) (fun (_ : Unit) t => ∃ w9 : va_W, va_P D vwCl w9 t.heap ∧ va_D A w9 ∧ cAt w9 b cI cL cD (a_x a) ((f_rate z fr up dn).2.2) ∧ ∀ j, j < b → w9[j]? = w[j]?) A) (vx_X (fun _ : Unit => True) (fun E9 _ t => exN ["java/lang/ArithmeticException", "java/lang/IllegalArgumentException", "java/lang/IllegalStateException"] (f_rate z fr up dn).1 E9 ∧ va_P D vwCl w t.heap) A) 1 6 A := by
  refine vx_ofW (cc := b_X_rate) (maxL := 4) (ret := (some .int)) (by decide) rfl ?_
  intro p e s m args below meth c s₁ B hml hEx hv
  obtain ⟨rfl, hP, hK, hD, hE⟩ := hv
  have hx := B.exec
  have hb := B.bytes
  have hr := B.returns
  have hts := atoms_spec (ws := w_X_rate) B.pre
  have hown : s.vm.findClass R_X = some m.cls := findClass_of_methodNamed B.named
  have hlocks := B.notSynchronized
  have hS : va_S A s.heap s.heap [] := va_S.rf
  have hC : cUpd w w b cI cL cD a z := cUpd.rf hC0
  have hl := lv_entry ([.ref (a_x a), .int (fr), .int (up), .int (dn)]) (n := 4) (Nat.le_of_ble_eq_true rfl)
  rw [lg_entry_eq]
  generalize (lg_sl ([.ref (a_x a), .int (fr), .int (up), .int (dn)]) ++ List.replicate (4 - (lg_sl ([.ref (a_x a), .int (fr), .int (up), .int (dn)])).length) Slot.unset).toArray = ls at hl ⊢
  have hl : lv_has ls 4 [(0, .ref (a_x a)), (1, .int (fr)), (2, .int (up)), (3, .int (dn))] := hl
  refine lv_iload_n hx hb d_X_rate_0 rfl (lv_at hl 3 rfl) ?_
  refine lv_if_ne (tgt := 14) hx hb d_X_rate_1 (by decide) (fun c_208 => ?_) (fun c_208 => ?_)
  · refine lv_iload_n hx hb d_X_rate_14 rfl (lv_at hl 1 rfl) ?_
    refine lv_aload_n hx hb d_X_rate_15 rfl (lv_at hl 0 rfl) ?_
    refine va_get (D := D) (ci := 2) (v := .int (x_today z)) (C := R_X) (T := F_X) (N := 5) hx hb hts (in_X _) hown hK hP b hC.1.x rfl 4 (by decide) (hts (.fieldLink R_X 30 "DebtRows" "today" "I") (List.mem_cons_of_mem _ mB_57)) (fun _ h9 => h9) rfl d_X_rate_16 ?_
    refine lv_icmp_le (tgt := 39) hx hb d_X_rate_19 (by decide) (fun c_209 => ?_) (fun c_209 => ?_)
    · obtain ⟨sa9, hz9⟩ := hE.2.2.2 (47, "no such day for a rate") (by decide)
      exact vx_throwS (own := R_X) (cls := "java/lang/IllegalArgumentException") (names := ["java/lang/RuntimeException", "java/lang/Exception"]) hx hb hl9 hown (by decide +kernel) (by decide +kernel) (hts (.classLink R_X 45 "java/lang/IllegalArgumentException") (List.mem_cons_of_mem _ mB_161)) (hts (.initialized "java/lang/IllegalArgumentException") (List.mem_cons_of_mem _ mB_22)) hz9 (vx_hat (B := badL) (fun w hw => hts w ((by decide +kernel : ∀ w ∈ (vx_atS R_X 49 "java/lang/IllegalArgumentException" ["java/lang/RuntimeException", "java/lang/Exception"]).filter goodWord, w ∈ w_X_rate) w hw)) (by decide +kernel) (fun w hw => bad_use hw (hE.2.2.1 w hw))) (by decide +kernel) hE.1 hE.2.1 hS (hl.1.trans hml.symm) d_X_rate_39 d_X_rate_42 d_X_rate_43 d_X_rate_45 d_X_rate_48 (fun x hx => (hEx x hx).elim) (Nat.le_of_ble_eq_true rfl) (Nat.le_of_ble_eq_true rfl) (Nat.le_of_ble_eq_true rfl) (Nat.le_of_ble_eq_true rfl) hlocks (fun t ha hsz hk => ⟨(), trivial, ⟨⟨1, rfl, by rw [f_rate, if_neg c_208, if_pos c_209]; rfl⟩, hP.kept (fun k q hq => hk q.1 (hP k q hq).lt)⟩, Nat.le_trans hS.1 hsz, fun q h1 h2 => (hk q (Nat.lt_of_lt_of_le h1 hS.1)).trans (hS.2.1 q h1 h2)⟩) hS.2.2 (Nat.le_of_ble_eq_true rfl) (Nat.le_of_ble_eq_true rfl)
    · refine lv_iload_n hx hb d_X_rate_22 rfl (lv_at hl 1 rfl) ?_
      refine lv_aload_n hx hb d_X_rate_23 rfl (lv_at hl 0 rfl) ?_
      refine va_get (D := D) (ci := 2) (v := .ref (a_r0 a)) (C := R_X) (T := F_X) (N := 5) hx hb hts (in_X _) hown hK hP b hC.1.x rfl 0 (by decide) (hts (.fieldLink R_X 10 "DebtRows" "rates" "LDebtRows$Rates;") (List.mem_cons_of_mem _ mB_53)) (fun _ h9 => h9) rfl d_X_rate_24 ?_
      refine vp_callSi (W.runV (As := []) (rest := [.int (fr)]) ⟨hx, hb, hml, hown, hts⟩ (c_R_latestDay l D A w cI cL cD (b + 1) (a_r0 a) (a_fr a) (a_up a) (a_dn a) (x_rates z) hC.1.r hC.1.wr) (cwV 0 hts (gV _ mB_156 mB_157 mB_158 mB_16 mB_159) rfl rfl rfl (by decide +kernel) ⟨(Nat.le_of_ble_eq_true rfl), (Nat.le_of_ble_eq_true rfl)⟩) ⟨mPc_bl, va_recv hK hP (ci := 1) (q0 := (b + 1)) rfl hC.1.r.1, mPc_pr hP hK hD⟩ rfl rfl hl.1 rfl (lv_room (Nat.le_of_ble_eq_true rfl)) d_X_rate_27 ⟨(Nat.le_of_ble_eq_true rfl), (Nat.le_of_ble_eq_true rfl)⟩) (fun v_210 ev_210 => ?_)
      subst ev_210
      refine lv_icmp_lt (tgt := 39) hx hb d_X_rate_30 (by decide) (fun c_211 => ?_) (fun c_211 => ?_)
      · obtain ⟨sa9, hz9⟩ := hE.2.2.2 (47, "no such day for a rate") (by decide)
        exact vx_throwS (own := R_X) (cls := "java/lang/IllegalArgumentException") (names := ["java/lang/RuntimeException", "java/lang/Exception"]) hx hb hl9 hown (by decide +kernel) (by decide +kernel) (hts (.classLink R_X 45 "java/lang/IllegalArgumentException") (List.mem_cons_of_mem _ mB_161)) (hts (.initialized "java/lang/IllegalArgumentException") (List.mem_cons_of_mem _ mB_22)) hz9 (vx_hat (B := badL) (fun w hw => hts w ((by decide +kernel : ∀ w ∈ (vx_atS R_X 49 "java/lang/IllegalArgumentException" ["java/lang/RuntimeException", "java/lang/Exception"]).filter goodWord, w ∈ w_X_rate) w hw)) (by decide +kernel) (fun w hw => bad_use hw (hE.2.2.1 w hw))) (by decide +kernel) hE.1 hE.2.1 hS (hl.1.trans hml.symm) d_X_rate_39 d_X_rate_42 d_X_rate_43 d_X_rate_45 d_X_rate_48 (fun x hx => (hEx x hx).elim) (Nat.le_of_ble_eq_true rfl) (Nat.le_of_ble_eq_true rfl) (Nat.le_of_ble_eq_true rfl) (Nat.le_of_ble_eq_true rfl) hlocks (fun t ha hsz hk => ⟨(), trivial, ⟨⟨1, rfl, by rw [f_rate, if_neg c_208, if_neg c_209, if_pos c_211]; rfl⟩, hP.kept (fun k q hq => hk q.1 (hP k q hq).lt)⟩, Nat.le_trans hS.1 hsz, fun q h1 h2 => (hk q (Nat.lt_of_lt_of_le h1 hS.1)).trans (hS.2.1 q h1 h2)⟩) hS.2.2 (Nat.le_of_ble_eq_true rfl) (Nat.le_of_ble_eq_true rfl)
      · refine lv_iload_n hx hb d_X_rate_33 rfl (lv_at hl 1 rfl) ?_
        refine lv_ldc (own := R_X) (index := 44) (v := 100000) hx hb hown (hts (.constant R_X 44 (100000)) (List.mem_cons_of_mem _ mB_160)) d_X_rate_34 ?_
        refine lv_icmp_le (tgt := 49) hx hb d_X_rate_36 (by decide) (fun c_212 => ?_) (fun c_212 => ?_)
        · refine lv_iload_n hx hb d_X_rate_49 rfl (lv_at hl 3 rfl) ?_
          refine lv_if_lt (tgt := 69) hx hb d_X_rate_50 (by decide) (fun c_213 => ?_) (fun c_213 => ?_)
          · obtain ⟨sa9, hz9⟩ := hE.2.2.2 (50, "no such rate") (by decide)
            exact vx_throwS (own := R_X) (cls := "java/lang/IllegalArgumentException") (names := ["java/lang/RuntimeException", "java/lang/Exception"]) hx hb hl9 hown (by decide +kernel) (by decide +kernel) (hts (.classLink R_X 45 "java/lang/IllegalArgumentException") (List.mem_cons_of_mem _ mB_161)) (hts (.initialized "java/lang/IllegalArgumentException") (List.mem_cons_of_mem _ mB_22)) hz9 (vx_hat (B := badL) (fun w hw => hts w ((by decide +kernel : ∀ w ∈ (vx_atS R_X 49 "java/lang/IllegalArgumentException" ["java/lang/RuntimeException", "java/lang/Exception"]).filter goodWord, w ∈ w_X_rate) w hw)) (by decide +kernel) (fun w hw => bad_use hw (hE.2.2.1 w hw))) (by decide +kernel) hE.1 hE.2.1 hS (hl.1.trans hml.symm) d_X_rate_69 d_X_rate_72 d_X_rate_73 d_X_rate_75 d_X_rate_78 (fun x hx => (hEx x hx).elim) (Nat.le_of_ble_eq_true rfl) (Nat.le_of_ble_eq_true rfl) (Nat.le_of_ble_eq_true rfl) (Nat.le_of_ble_eq_true rfl) hlocks (fun t ha hsz hk => ⟨(), trivial, ⟨⟨1, rfl, by rw [f_rate, if_neg c_208, if_neg c_209, if_neg c_211, if_pos c_212, if_pos c_213]; rfl⟩, hP.kept (fun k q hq => hk q.1 (hP k q hq).lt)⟩, Nat.le_trans hS.1 hsz, fun q h1 h2 => (hk q (Nat.lt_of_lt_of_le h1 hS.1)).trans (hS.2.1 q h1 h2)⟩) hS.2.2 (Nat.le_of_ble_eq_true rfl) (Nat.le_of_ble_eq_true rfl)
          · refine lv_iload_n hx hb d_X_rate_53 rfl (lv_at hl 3 rfl) ?_
            refine lv_sipush (v := 1000) hx hb d_X_rate_54 (by decide) ?_
            refine lv_icmp_gt (tgt := 69) hx hb d_X_rate_57 (by decide) (fun c_214 => ?_) (fun c_214 => ?_)
            · obtain ⟨sa9, hz9⟩ := hE.2.2.2 (50, "no such rate") (by decide)
              exact vx_throwS (own := R_X) (cls := "java/lang/IllegalArgumentException") (names := ["java/lang/RuntimeException", "java/lang/Exception"]) hx hb hl9 hown (by decide +kernel) (by decide +kernel) (hts (.classLink R_X 45 "java/lang/IllegalArgumentException") (List.mem_cons_of_mem _ mB_161)) (hts (.initialized "java/lang/IllegalArgumentException") (List.mem_cons_of_mem _ mB_22)) hz9 (vx_hat (B := badL) (fun w hw => hts w ((by decide +kernel : ∀ w ∈ (vx_atS R_X 49 "java/lang/IllegalArgumentException" ["java/lang/RuntimeException", "java/lang/Exception"]).filter goodWord, w ∈ w_X_rate) w hw)) (by decide +kernel) (fun w hw => bad_use hw (hE.2.2.1 w hw))) (by decide +kernel) hE.1 hE.2.1 hS (hl.1.trans hml.symm) d_X_rate_69 d_X_rate_72 d_X_rate_73 d_X_rate_75 d_X_rate_78 (fun x hx => (hEx x hx).elim) (Nat.le_of_ble_eq_true rfl) (Nat.le_of_ble_eq_true rfl) (Nat.le_of_ble_eq_true rfl) (Nat.le_of_ble_eq_true rfl) hlocks (fun t ha hsz hk => ⟨(), trivial, ⟨⟨1, rfl, by rw [f_rate, if_neg c_208, if_neg c_209, if_neg c_211, if_pos c_212, if_neg c_213, if_pos c_214]; rfl⟩, hP.kept (fun k q hq => hk q.1 (hP k q hq).lt)⟩, Nat.le_trans hS.1 hsz, fun q h1 h2 => (hk q (Nat.lt_of_lt_of_le h1 hS.1)).trans (hS.2.1 q h1 h2)⟩) hS.2.2 (Nat.le_of_ble_eq_true rfl) (Nat.le_of_ble_eq_true rfl)
            · refine lv_iload_n hx hb d_X_rate_60 rfl (lv_at hl 2 rfl) ?_
              refine lv_if_lt (tgt := 69) hx hb d_X_rate_61 (by decide) (fun c_215 => ?_) (fun c_215 => ?_)
              · obtain ⟨sa9, hz9⟩ := hE.2.2.2 (50, "no such rate") (by decide)
                exact vx_throwS (own := R_X) (cls := "java/lang/IllegalArgumentException") (names := ["java/lang/RuntimeException", "java/lang/Exception"]) hx hb hl9 hown (by decide +kernel) (by decide +kernel) (hts (.classLink R_X 45 "java/lang/IllegalArgumentException") (List.mem_cons_of_mem _ mB_161)) (hts (.initialized "java/lang/IllegalArgumentException") (List.mem_cons_of_mem _ mB_22)) hz9 (vx_hat (B := badL) (fun w hw => hts w ((by decide +kernel : ∀ w ∈ (vx_atS R_X 49 "java/lang/IllegalArgumentException" ["java/lang/RuntimeException", "java/lang/Exception"]).filter goodWord, w ∈ w_X_rate) w hw)) (by decide +kernel) (fun w hw => bad_use hw (hE.2.2.1 w hw))) (by decide +kernel) hE.1 hE.2.1 hS (hl.1.trans hml.symm) d_X_rate_69 d_X_rate_72 d_X_rate_73 d_X_rate_75 d_X_rate_78 (fun x hx => (hEx x hx).elim) (Nat.le_of_ble_eq_true rfl) (Nat.le_of_ble_eq_true rfl) (Nat.le_of_ble_eq_true rfl) (Nat.le_of_ble_eq_true rfl) hlocks (fun t ha hsz hk => ⟨(), trivial, ⟨⟨1, rfl, by rw [f_rate, if_neg c_208, if_neg c_209, if_neg c_211, if_pos c_212, if_neg c_213, if_neg c_214, if_pos c_215]; rfl⟩, hP.kept (fun k q hq => hk q.1 (hP k q hq).lt)⟩, Nat.le_trans hS.1 hsz, fun q h1 h2 => (hk q (Nat.lt_of_lt_of_le h1 hS.1)).trans (hS.2.1 q h1 h2)⟩) hS.2.2 (Nat.le_of_ble_eq_true rfl) (Nat.le_of_ble_eq_true rfl)
              · refine lv_iload_n hx hb d_X_rate_64 rfl (lv_at hl 2 rfl) ?_
                refine lv_iload_n hx hb d_X_rate_65 rfl (lv_at hl 3 rfl) ?_
                refine lv_icmp_le (tgt := 79) hx hb d_X_rate_66 (by decide) (fun c_216 => ?_) (fun c_216 => ?_)
                · refine lv_aload_n hx hb d_X_rate_79 rfl (lv_at hl 0 rfl) ?_
                  refine va_get (D := D) (ci := 2) (v := .ref (a_r0 a)) (C := R_X) (T := F_X) (N := 5) hx hb hts (in_X _) hown hK hP b hC.1.x rfl 0 (by decide) (hts (.fieldLink R_X 10 "DebtRows" "rates" "LDebtRows$Rates;") (List.mem_cons_of_mem _ mB_53)) (fun _ h9 => h9) rfl d_X_rate_80 ?_
                  refine va_get (D := D) (ci := 1) (v := .int (r_count (x_rates z))) (C := R_S) (T := F_S) (N := 4) hx hb hts (in_S _) hown hK hP (b + 1) hC.1.r.1 rfl 3 (by decide) (hts (.fieldLink R_X 52 "DebtRows$Rates" "count" "I") (List.mem_cons_of_mem _ mB_45)) (fun _ h9 => h9) rfl d_X_rate_83 ?_
                  refine lv_bipush (v := 20) hx hb d_X_rate_86 (by decide) ?_
                  refine lv_icmp_lt (tgt := 101) hx hb d_X_rate_88 (by decide) (fun c_217 => ?_) (fun c_217 => ?_)
                  · refine lv_aload_n hx hb d_X_rate_101 rfl (lv_at hl 0 rfl) ?_
                    refine va_get (D := D) (ci := 2) (v := .ref (a_r0 a)) (C := R_X) (T := F_X) (N := 5) hx hb hts (in_X _) hown hK hP b hC.1.x rfl 0 (by decide) (hts (.fieldLink R_X 10 "DebtRows" "rates" "LDebtRows$Rates;") (List.mem_cons_of_mem _ mB_53)) (fun _ h9 => h9) rfl d_X_rate_102 ?_
                    refine lv_iload_n hx hb d_X_rate_105 rfl (lv_at hl 1 rfl) ?_
                    refine lv_iload_n hx hb d_X_rate_106 rfl (lv_at hl 2 rfl) ?_
                    refine lv_iload_n hx hb d_X_rate_107 rfl (lv_at hl 3 rfl) ?_
                    refine va_callv (va_runV (As := [.int (fr), .int (up), .int (dn)]) (rest := []) ⟨hx, hb, hml, hown, hts⟩ (c_R_append l D A w cI cL cD (b + 1) (a_r0 a) (a_fr a) (a_up a) (a_dn a) (x_rates z) (fr) (up) (dn) hC.1.r hC.1.wr) (cwV 3 hts (gV _ mB_189 mB_190 mB_191 mB_16 mB_192) rfl rfl rfl (by decide +kernel) ⟨(Nat.le_of_ble_eq_true rfl), (Nat.le_of_ble_eq_true rfl)⟩) ⟨mPc_bl, va_recv hK hP (ci := 1) (q0 := (b + 1)) rfl hC.1.r.1, mPc_pr hP hK hD⟩ rfl rfl hl.1 rfl (lv_room (Nat.le_of_ble_eq_true rfl)) d_X_rate_108 ⟨(Nat.le_of_ble_eq_true rfl), (Nat.le_of_ble_eq_true rfl)⟩) hS (fun _ _ h => h) (fun _ h => h) (fun u9 t H locs ht hvm ev_218 hB hz1 hk1 hS => ?_)
                    obtain ⟨w_219, hP, hD, hU1⟩ := hB
                    rw [ht] at hP
                    have hC := hC.r hU1 (wf_append hC.1.wr)
                    refine lv_aload_n hx hb d_X_rate_111 rfl (lv_at hl 0 rfl) ?_
                    refine va_get (D := D) (ci := 2) (v := .ref (a_r0 a)) (C := R_X) (T := F_X) (N := 5) hx hb hts (in_X _) hown hK hP b hC.1.x rfl 0 (by decide) (hts (.fieldLink R_X 10 "DebtRows" "rates" "LDebtRows$Rates;") (List.mem_cons_of_mem _ mB_53)) (fun _ h9 => h9) rfl d_X_rate_112 ?_
                    refine va_get (D := D) (ci := 1) (v := .int (r_count ((f_R_append (x_rates z) (fr) (up) (dn))))) (C := R_S) (T := F_S) (N := 4) hx hb hts (in_S _) hown hK hP (b + 1) hC.1.r.1 rfl 3 (by decide) (hts (.fieldLink R_X 52 "DebtRows$Rates" "count" "I") (List.mem_cons_of_mem _ mB_45)) (fun _ h9 => h9) rfl d_X_rate_115 ?_
                    refine vx_ret (W.widen (k := 1) (n := 6) (Nat.le_of_ble_eq_true rfl) (Nat.le_of_ble_eq_true rfl) ?_)
                    exact W.iret (v := r_count ((f_R_append (x_rates z) (fr) (up) (dn)))) hx hb hr (fun t ht hW => ⟨⟨_, (), rfl, ⟨by rw [f_rate, if_neg c_208, if_neg c_209, if_neg c_211, if_pos c_212, if_neg c_213, if_neg c_214, if_neg c_215, if_pos c_216, if_pos c_217], by rw [f_rate, if_neg c_208, if_neg c_209, if_neg c_211, if_pos c_212, if_neg c_213, if_neg c_214, if_neg c_215, if_pos c_216, if_pos c_217]⟩, w_219, by rw [ht]; exact hP, hD, by rw [f_rate, if_neg c_208, if_neg c_209, if_neg c_211, if_pos c_212, if_neg c_213, if_neg c_214, if_neg c_215, if_pos c_216, if_pos c_217]; exact hC.at, hC.2⟩, hS.F ht⟩) hS.2.2 d_X_rate_118
                  · obtain ⟨sa9, hz9⟩ := hE.2.2.2 (57, "no more rates") (by decide)
                    exact vx_throwS (own := R_X) (cls := "java/lang/IllegalStateException") (names := ["java/lang/RuntimeException", "java/lang/Exception"]) hx hb hl9 hown (by decide +kernel) (by decide +kernel) (hts (.classLink R_X 55 "java/lang/IllegalStateException") (List.mem_cons_of_mem _ mB_175)) (hts (.initialized "java/lang/IllegalStateException") (List.mem_cons_of_mem _ mB_23)) hz9 (vx_hat (B := badL) (fun w hw => hts w ((by decide +kernel : ∀ w ∈ (vx_atS R_X 59 "java/lang/IllegalStateException" ["java/lang/RuntimeException", "java/lang/Exception"]).filter goodWord, w ∈ w_X_rate) w hw)) (by decide +kernel) (fun w hw => bad_use hw (hE.2.2.1 w hw))) (by decide +kernel) hE.1 hE.2.1 hS (hl.1.trans hml.symm) d_X_rate_91 d_X_rate_94 d_X_rate_95 d_X_rate_97 d_X_rate_100 (fun x hx => (hEx x hx).elim) (Nat.le_of_ble_eq_true rfl) (Nat.le_of_ble_eq_true rfl) (Nat.le_of_ble_eq_true rfl) (Nat.le_of_ble_eq_true rfl) hlocks (fun t ha hsz hk => ⟨(), trivial, ⟨⟨2, rfl, by rw [f_rate, if_neg c_208, if_neg c_209, if_neg c_211, if_pos c_212, if_neg c_213, if_neg c_214, if_neg c_215, if_pos c_216, if_neg c_217]; rfl⟩, hP.kept (fun k q hq => hk q.1 (hP k q hq).lt)⟩, Nat.le_trans hS.1 hsz, fun q h1 h2 => (hk q (Nat.lt_of_lt_of_le h1 hS.1)).trans (hS.2.1 q h1 h2)⟩) hS.2.2 (Nat.le_of_ble_eq_true rfl) (Nat.le_of_ble_eq_true rfl)
                · obtain ⟨sa9, hz9⟩ := hE.2.2.2 (50, "no such rate") (by decide)
                  exact vx_throwS (own := R_X) (cls := "java/lang/IllegalArgumentException") (names := ["java/lang/RuntimeException", "java/lang/Exception"]) hx hb hl9 hown (by decide +kernel) (by decide +kernel) (hts (.classLink R_X 45 "java/lang/IllegalArgumentException") (List.mem_cons_of_mem _ mB_161)) (hts (.initialized "java/lang/IllegalArgumentException") (List.mem_cons_of_mem _ mB_22)) hz9 (vx_hat (B := badL) (fun w hw => hts w ((by decide +kernel : ∀ w ∈ (vx_atS R_X 49 "java/lang/IllegalArgumentException" ["java/lang/RuntimeException", "java/lang/Exception"]).filter goodWord, w ∈ w_X_rate) w hw)) (by decide +kernel) (fun w hw => bad_use hw (hE.2.2.1 w hw))) (by decide +kernel) hE.1 hE.2.1 hS (hl.1.trans hml.symm) d_X_rate_69 d_X_rate_72 d_X_rate_73 d_X_rate_75 d_X_rate_78 (fun x hx => (hEx x hx).elim) (Nat.le_of_ble_eq_true rfl) (Nat.le_of_ble_eq_true rfl) (Nat.le_of_ble_eq_true rfl) (Nat.le_of_ble_eq_true rfl) hlocks (fun t ha hsz hk => ⟨(), trivial, ⟨⟨1, rfl, by rw [f_rate, if_neg c_208, if_neg c_209, if_neg c_211, if_pos c_212, if_neg c_213, if_neg c_214, if_neg c_215, if_neg c_216]; rfl⟩, hP.kept (fun k q hq => hk q.1 (hP k q hq).lt)⟩, Nat.le_trans hS.1 hsz, fun q h1 h2 => (hk q (Nat.lt_of_lt_of_le h1 hS.1)).trans (hS.2.1 q h1 h2)⟩) hS.2.2 (Nat.le_of_ble_eq_true rfl) (Nat.le_of_ble_eq_true rfl)
        · obtain ⟨sa9, hz9⟩ := hE.2.2.2 (47, "no such day for a rate") (by decide)
          exact vx_throwS (own := R_X) (cls := "java/lang/IllegalArgumentException") (names := ["java/lang/RuntimeException", "java/lang/Exception"]) hx hb hl9 hown (by decide +kernel) (by decide +kernel) (hts (.classLink R_X 45 "java/lang/IllegalArgumentException") (List.mem_cons_of_mem _ mB_161)) (hts (.initialized "java/lang/IllegalArgumentException") (List.mem_cons_of_mem _ mB_22)) hz9 (vx_hat (B := badL) (fun w hw => hts w ((by decide +kernel : ∀ w ∈ (vx_atS R_X 49 "java/lang/IllegalArgumentException" ["java/lang/RuntimeException", "java/lang/Exception"]).filter goodWord, w ∈ w_X_rate) w hw)) (by decide +kernel) (fun w hw => bad_use hw (hE.2.2.1 w hw))) (by decide +kernel) hE.1 hE.2.1 hS (hl.1.trans hml.symm) d_X_rate_39 d_X_rate_42 d_X_rate_43 d_X_rate_45 d_X_rate_48 (fun x hx => (hEx x hx).elim) (Nat.le_of_ble_eq_true rfl) (Nat.le_of_ble_eq_true rfl) (Nat.le_of_ble_eq_true rfl) (Nat.le_of_ble_eq_true rfl) hlocks (fun t ha hsz hk => ⟨(), trivial, ⟨⟨1, rfl, by rw [f_rate, if_neg c_208, if_neg c_209, if_neg c_211, if_neg c_212]; rfl⟩, hP.kept (fun k q hq => hk q.1 (hP k q hq).lt)⟩, Nat.le_trans hS.1 hsz, fun q h1 h2 => (hk q (Nat.lt_of_lt_of_le h1 hS.1)).trans (hS.2.1 q h1 h2)⟩) hS.2.2 (Nat.le_of_ble_eq_true rfl) (Nat.le_of_ble_eq_true rfl)
  · obtain ⟨sa9, hz9⟩ := hE.2.2.2 (35, "down is 0") (by decide)
    exact vx_throwS (own := R_X) (cls := "java/lang/ArithmeticException") (names := ["java/lang/RuntimeException", "java/lang/Exception"]) hx hb hl9 hown (by decide +kernel) (by decide +kernel) (hts (.classLink R_X 33 "java/lang/ArithmeticException") (List.mem_cons_of_mem _ mB_104)) (hts (.initialized "java/lang/ArithmeticException") (List.mem_cons_of_mem _ mB_21)) hz9 (vx_hat (B := badL) (fun w hw => hts w ((by decide +kernel : ∀ w ∈ (vx_atS R_X 37 "java/lang/ArithmeticException" ["java/lang/RuntimeException", "java/lang/Exception"]).filter goodWord, w ∈ w_X_rate) w hw)) (by decide +kernel) (fun w hw => bad_use hw (hE.2.2.1 w hw))) (by decide +kernel) hE.1 hE.2.1 hS (hl.1.trans hml.symm) d_X_rate_4 d_X_rate_7 d_X_rate_8 d_X_rate_10 d_X_rate_13 (fun x hx => (hEx x hx).elim) (Nat.le_of_ble_eq_true rfl) (Nat.le_of_ble_eq_true rfl) (Nat.le_of_ble_eq_true rfl) (Nat.le_of_ble_eq_true rfl) hlocks (fun t ha hsz hk => ⟨(), trivial, ⟨⟨0, rfl, by rw [f_rate, if_pos c_208]; rfl⟩, hP.kept (fun k q hq => hk q.1 (hP k q hq).lt)⟩, Nat.le_trans hS.1 hsz, fun q h1 h2 => (hk q (Nat.lt_of_lt_of_le h1 hS.1)).trans (hS.2.1 q h1 h2)⟩) hS.2.2 (Nat.le_of_ble_eq_true rfl) (Nat.le_of_ble_eq_true rfl)
def tkL (day : Int32) : Nat → Nat → Int32 → XT → Int32 × XT
  | _, 0, t, z => (t, z)
  | i, n + 1, t, z => if (f_endsBy (x_debts z i) (day)).1 = 0 then tkL day (i + 1) n t (y_debt z i (f_endsBy (x_debts z i) (day)).2) else tkL day (i + 1) n (t + 1) (y_debt z i (f_endsBy (x_debts z i) (day)).2)
def f_tick (z : XT) (day : Int32) : Int32 × Int32 × XT :=
  if day < x_today z then (1, 0, z)
  else if day ≤ 100000 then (0, (tkL day 0 (x_cnt z).toNatClampNeg 0 (y_today (z) (day))).1, (tkL day 0 (x_cnt z).toNatClampNeg 0 (y_today (z) (day))).2)
    else (1, 0, z)
set_option maxHeartbeats 4000000 in
set_option maxRecDepth 100000 in
theorem c_tick (l : Launch) (hl9 : l.stackTraces = false) (D : va_G) (A : Nat → Prop) (w : va_W) (cI cL cD : ClassId) (b : Nat) (a : AD) (z : XT) (day : Int32) (hC0 : cA w b cI cL cD a z) : vx_Met l y_X_tick w_X_tick ({ frames := 6, cells := 1, slots := 6, locals := 90 }) (ePc D w (tyL cI cL cD) A [.ref (a_x a), .int (day)]) (va_Qi (fun z9 (_ : Unit) => (f_tick z day).1 = 0 ∧ z9 = (f_tick z day).2.1) (fun (_ : Unit) t => ∃ w9 : va_W, va_P D vwCl w9 t.heap ∧ va_D A w9 ∧ cAt w9 b cI cL cD (a_x a) ((f_tick z day).2.2) ∧ ∀ j, j < b → w9[j]? = w[j]?) A) (vx_X (fun _ : Unit => True) (fun E9 _ t => exN ["java/lang/IllegalArgumentException"] (f_tick z day).1 E9 ∧ va_P D vwCl w t.heap) A) 1 6 A := by
  refine vx_ofW (cc := b_X_tick) (maxL := 5) (ret := (some .int)) (by decide) rfl ?_
  intro p e s m args below meth c s₁ B hml hEx hv
  obtain ⟨rfl, hP, hK, hD, hE⟩ := hv
  have hx := B.exec
  have hb := B.bytes
  have hr := B.returns
  have hts := atoms_spec (ws := w_X_tick) B.pre
  have hown : s.vm.findClass R_X = some m.cls := findClass_of_methodNamed B.named
  have hlocks := B.notSynchronized
  have hS : va_S A s.heap s.heap [] := va_S.rf
  have hC : cUpd w w b cI cL cD a z := cUpd.rf hC0
  have hl := lv_entry ([.ref (a_x a), .int (day)]) (n := 5) (Nat.le_of_ble_eq_true rfl)
  rw [lg_entry_eq]
  generalize (lg_sl ([.ref (a_x a), .int (day)]) ++ List.replicate (5 - (lg_sl ([.ref (a_x a), .int (day)])).length) Slot.unset).toArray = ls at hl ⊢
  have hl : lv_has ls 5 [(0, .ref (a_x a)), (1, .int (day))] := hl
  refine lv_iload_n hx hb d_X_tick_0 rfl (lv_at hl 1 rfl) ?_
  refine lv_aload_n hx hb d_X_tick_1 rfl (lv_at hl 0 rfl) ?_
  refine va_get (D := D) (ci := 2) (v := .int (x_today z)) (C := R_X) (T := F_X) (N := 5) hx hb hts (in_X _) hown hK hP b hC.1.x rfl 4 (by decide) (hts (.fieldLink R_X 30 "DebtRows" "today" "I") (List.mem_cons_of_mem _ mB_57)) (fun _ h9 => h9) rfl d_X_tick_2 ?_
  refine lv_icmp_lt (tgt := 14) hx hb d_X_tick_5 (by decide) (fun c_220 => ?_) (fun c_220 => ?_)
  · obtain ⟨sa9, hz9⟩ := hE.2.2.2 (135, "no such day") (by decide)
    exact vx_throwS (own := R_X) (cls := "java/lang/IllegalArgumentException") (names := ["java/lang/RuntimeException", "java/lang/Exception"]) hx hb hl9 hown (by decide +kernel) (by decide +kernel) (hts (.classLink R_X 45 "java/lang/IllegalArgumentException") (List.mem_cons_of_mem _ mB_161)) (hts (.initialized "java/lang/IllegalArgumentException") (List.mem_cons_of_mem _ mB_22)) hz9 (vx_hat (B := badL) (fun w hw => hts w ((by decide +kernel : ∀ w ∈ (vx_atS R_X 49 "java/lang/IllegalArgumentException" ["java/lang/RuntimeException", "java/lang/Exception"]).filter goodWord, w ∈ w_X_tick) w hw)) (by decide +kernel) (fun w hw => bad_use hw (hE.2.2.1 w hw))) (by decide +kernel) hE.1 hE.2.1 hS (hl.1.trans hml.symm) d_X_tick_14 d_X_tick_17 d_X_tick_18 d_X_tick_20 d_X_tick_23 (fun x hx => (hEx x hx).elim) (Nat.le_of_ble_eq_true rfl) (Nat.le_of_ble_eq_true rfl) (Nat.le_of_ble_eq_true rfl) (Nat.le_of_ble_eq_true rfl) hlocks (fun t ha hsz hk => ⟨(), trivial, ⟨⟨0, rfl, by rw [f_tick, if_pos c_220]; rfl⟩, hP.kept (fun k q hq => hk q.1 (hP k q hq).lt)⟩, Nat.le_trans hS.1 hsz, fun q h1 h2 => (hk q (Nat.lt_of_lt_of_le h1 hS.1)).trans (hS.2.1 q h1 h2)⟩) hS.2.2 (Nat.le_of_ble_eq_true rfl) (Nat.le_of_ble_eq_true rfl)
  · refine lv_iload_n hx hb d_X_tick_8 rfl (lv_at hl 1 rfl) ?_
    refine lv_ldc (own := R_X) (index := 44) (v := 100000) hx hb hown (hts (.constant R_X 44 (100000)) (List.mem_cons_of_mem _ mB_160)) d_X_tick_9 ?_
    refine lv_icmp_le (tgt := 24) hx hb d_X_tick_11 (by decide) (fun c_221 => ?_) (fun c_221 => ?_)
    · refine lv_aload_n hx hb d_X_tick_24 rfl (lv_at hl 0 rfl) ?_
      refine lv_iload_n hx hb d_X_tick_25 rfl (lv_at hl 1 rfl) ?_
      refine va_put (D := D) (ci := 2) (v := .int (day)) (ty := .int) (C := R_X) (T := F_X) (N := 5) hx hb hts (in_X _) t_X to_X nn_X hown hK hP hD hS b hC.1.x rfl 4 (by decide) (hts (.fieldLink R_X 30 "DebtRows" "today" "I") (List.mem_cons_of_mem _ mB_57)) (fun _ h9 => h9) rfl (by decide +kernel) rfl rfl (Nat.le_of_ble_eq_true rfl) d_X_tick_26 (fun H locs hP hD hS => ?_)
      have hC := hC.t (day)
      have hP : va_P D vwCl (w.set b (a_x a, xE (a_r0 a) (a_ds a) (a_cr a) (y_today (z) (day)))) H := hP
      have hD : va_D A (w.set b (a_x a, xE (a_r0 a) (a_ds a) (a_cr a) (y_today (z) (day)))) := hD
      generalize w.set b (a_x a, xE (a_r0 a) (a_ds a) (a_cr a) (y_today (z) (day))) = w_222 at hP hD hC
      refine lv_iconst (v := 0) hx hb d_X_tick_29 (by decide) ?_
      refine lv_istore_n (lv' := [(2, .int (0)), (0, .ref (a_x a)), (1, .int (day))]) hx hb d_X_tick_30 rfl hl (by decide) rfl (fun ls hl => ?_)
      refine lv_iconst (v := 0) hx hb d_X_tick_31 (by decide) ?_
      refine lv_istore_n (lv' := [(3, .int (0)), (2, .int (0)), (0, .ref (a_x a)), (1, .int (day))]) hx hb d_X_tick_32 rfl hl (by decide) rfl (fun ls hl => ?_)
      have loop : ∀ (n i : Nat) (t0 : Int32) (z1 : XT), i + n = a_n a → tkL day i n t0 z1 = tkL day 0 (a_n a) 0 (y_today (z) (day)) → ∀ (H : Heap) (locs : List Loc) (w1 : va_W) (ls : Array Slot), va_P D vwCl w1 H → va_D A w1 → va_S A s.heap H locs → cUpd w w1 b cI cL cD a z1 → lv_has ls 5 [(3, .int (nI i)), (2, .int (t0)), (0, .ref (a_x a)), (1, .int (day))] → W p l e (headSpec w_X_tick ({ frames := 6, cells := 1, slots := 6, locals := 90 })).room s m [.ref (a_x a), .int (day)].toArray below meth c H locs 0 0 (vx_MQ below (va_Qi (fun z9 (_ : Unit) => (f_tick z day).1 = 0 ∧ z9 = (f_tick z day).2.1) (fun (_ : Unit) t => ∃ w9 : va_W, va_P D vwCl w9 t.heap ∧ va_D A w9 ∧ cAt w9 b cI cL cD (a_x a) ((f_tick z day).2.2) ∧ ∀ j, j < b → w9[j]? = w[j]?) A) (vx_X (fun _ : Unit => True) (fun E9 _ t => exN ["java/lang/IllegalArgumentException"] (f_tick z day).1 E9 ∧ va_P D vwCl w t.heap) A) [.ref (a_x a), .int (day)].toArray s 1 6 A) (F0 m 33 ls []) := by
        intro n
        induction n with
        | zero =>
          intro i t0 z1 hin hv H locs w1 ls hP hD hS hC hl
          refine lv_iload_n hx hb d_X_tick_33 rfl (lv_at hl 0 rfl) ?_
          refine lv_aload_n hx hb d_X_tick_34 rfl (lv_at hl 2 rfl) ?_
          refine va_get (D := D) (ci := 2) (v := .int (x_cnt z1)) (C := R_X) (T := F_X) (N := 5) hx hb hts (in_X _) hown hK hP b hC.1.x rfl 3 (by decide) (hts (.fieldLink R_X 26 "DebtRows" "debtCount" "I") (List.mem_cons_of_mem _ mB_56)) (fun _ h9 => h9) rfl d_X_tick_35 ?_
          refine lv_icmp_ge (tgt := 72) hx hb d_X_tick_38 (by decide) (fun c_223 => ?_) (fun c_223 => ?_)
          · refine lv_iload_n hx hb d_X_tick_72 rfl (lv_at hl 1 rfl) ?_
            refine vx_ret (W.widen (k := 1) (n := 6) (Nat.le_of_ble_eq_true rfl) (Nat.le_of_ble_eq_true rfl) ?_)
            exact W.iret (v := t0) hx hb hr (fun t ht hW => ⟨⟨_, (), rfl, ⟨by rw [f_tick, if_neg c_220, if_pos c_221], by rw [f_tick, if_neg c_220, if_pos c_221, hC0.en, nI_clamp (by have := hC0.n; omega), ← hv]; rfl⟩, w1, by rw [ht]; exact hP, hD, by rw [f_tick, if_neg c_220, if_pos c_221, hC0.en, nI_clamp (by have := hC0.n; omega), ← hv]; exact hC.at, hC.2⟩, hS.F ht⟩) hS.2.2 d_X_tick_73
          · exact absurd (by rw [hC.1.en]; exact nI_le (by omega) (by have := hC.1.n; omega)) c_223
        | succ n ih =>
          intro i t0 z1 hin hv H locs w1 ls hP hD hS hC hl
          refine lv_iload_n hx hb d_X_tick_33 rfl (lv_at hl 0 rfl) ?_
          refine lv_aload_n hx hb d_X_tick_34 rfl (lv_at hl 2 rfl) ?_
          refine va_get (D := D) (ci := 2) (v := .int (x_cnt z1)) (C := R_X) (T := F_X) (N := 5) hx hb hts (in_X _) hown hK hP b hC.1.x rfl 3 (by decide) (hts (.fieldLink R_X 26 "DebtRows" "debtCount" "I") (List.mem_cons_of_mem _ mB_56)) (fun _ h9 => h9) rfl d_X_tick_35 ?_
          refine lv_icmp_ge (tgt := 72) hx hb d_X_tick_38 (by decide) (fun c_224 => ?_) (fun c_224 => ?_)
          · exact absurd c_224 (by rw [hC.1.en]; exact nI_ge (by omega) (by have := hC.1.n; omega))
          · refine lv_aload_n hx hb d_X_tick_41 rfl (lv_at hl 2 rfl) ?_
            refine va_get (D := D) (ci := 2) (v := .ref (a_ds a)) (C := R_X) (T := F_X) (N := 5) hx hb hts (in_X _) hown hK hP b hC.1.x rfl 1 (by decide) (hts (.fieldLink R_X 18 "DebtRows" "debts" "[LDebtRows$Debt;") (List.mem_cons_of_mem _ mB_54)) (fun _ h9 => h9) rfl d_X_tick_42 ?_
            refine lv_iload_n hx hb d_X_tick_45 rfl (lv_at hl 0 rfl) ?_
            refine va_aldq hx hb hK hP (b + 5) 2 hC.1.ds rfl (vp_in_nI (by have := hC.1.n; omega) (by decide)) d_X_tick_46 ?_
            have hi9 : i < a_n a := by omega
            rw [nI_clamp (by have := hC.1.n; omega), hC.1.g hi9]
            have hU : dUpd w1 w1 (b + 7 + 3 * i) cI cL (a_da a i) (a_pa a i) (a_qa a i) (x_debts z1 i) := dUpd.rf (hC.1.d hi9)
            have hw : wfD (x_debts z1 i) := hC.1.wd hi9
            refine lv_astore (lv' := [(4, .ref (a_da a i)), (3, .int (nI i)), (2, .int (t0)), (0, .ref (a_x a)), (1, .int (day))]) hx hb d_X_tick_47 hl (by decide) rfl (fun ls hl => ?_)
            refine lv_aload hx hb d_X_tick_49 (lv_at hl 0 rfl) ?_
            refine lv_ifnull hx hb d_X_tick_51 ?_
            refine lv_aload hx hb d_X_tick_54 (lv_at hl 0 rfl) ?_
            refine lv_iload_n hx hb d_X_tick_56 rfl (lv_at hl 4 rfl) ?_
            refine va_calli (va_runV (As := [.int (day)]) (rest := []) ⟨hx, hb, hml, hown, hts⟩ (c_endsBy l D A w1 cI cL cD (b + 7 + 3 * i) (a_da a i) (a_pa a i) (a_qa a i) (x_debts z1 i) (day) hU.1 hw) (cwV 1 hts (gV _ mB_345 mB_346 mB_347 mB_24 mB_348) rfl rfl rfl (by decide +kernel) ⟨(Nat.le_of_ble_eq_true rfl), (Nat.le_of_ble_eq_true rfl)⟩) ⟨mPc_bl, va_recv hK hP (ci := 0) (q0 := (b + 7 + 3 * i)) rfl hU.o, mPc_pr hP hK hD⟩ rfl rfl hl.1 rfl (lv_room (Nat.le_of_ble_eq_true rfl)) d_X_tick_57 ⟨(Nat.le_of_ble_eq_true rfl), (Nat.le_of_ble_eq_true rfl)⟩) hS (fun _ _ h => h) (fun _ h => h) (fun v_225 u9 t H locs ht hvm ev_225 hB hz1 hk1 hS => ?_)
            obtain ⟨w_226, hP, hD, hU1⟩ := hB
            rw [ht] at hP
            have hU := hU.tr hU1
            have hw : wfD ((f_endsBy (x_debts z1 i) (day)).2) := wf_endsBy hw
            subst ev_225
            refine lv_if_eq (tgt := 66) hx hb d_X_tick_60 (by decide) (fun c_227 => ?_) (fun c_227 => ?_)
            · refine lv_iinc (v := nI (i + 1)) (lv' := [(3, .int (nI (i + 1))), (4, .ref (a_da a i)), (2, .int (t0)), (0, .ref (a_x a)), (1, .int (day))]) hx hb d_X_tick_66 hl (k := 1) rfl (by first | exact nI_inc i | rfl) (by decide) rfl (fun ls hl => ?_)
              refine lv_goto (tgt := 33) hx hb d_X_tick_69 (by decide) ?_
              have hC := hC.d hi9 hU hw
              exact ih (i + 1) (t0) (y_debt (z1) i (f_endsBy (x_debts z1 i) (day)).2) (by omega) (by rw [← hv, tkL, if_pos c_227]) _ _ w_226 ls hP hD hS hC (lv_sub hl [0, 2, 3, 4] rfl)
            · refine lv_iinc (v := t0 + 1) (lv' := [(2, .int (t0 + 1)), (4, .ref (a_da a i)), (3, .int (nI i)), (0, .ref (a_x a)), (1, .int (day))]) hx hb d_X_tick_63 hl (k := 2) rfl (by first | exact nI_inc i | rfl) (by decide) rfl (fun ls hl => ?_)
              refine lv_iinc (v := nI (i + 1)) (lv' := [(3, .int (nI (i + 1))), (2, .int (t0 + 1)), (4, .ref (a_da a i)), (0, .ref (a_x a)), (1, .int (day))]) hx hb d_X_tick_66 hl (k := 2) rfl (by first | exact nI_inc i | rfl) (by decide) rfl (fun ls hl => ?_)
              refine lv_goto (tgt := 33) hx hb d_X_tick_69 (by decide) ?_
              have hC := hC.d hi9 hU hw
              exact ih (i + 1) (t0 + 1) (y_debt (z1) i (f_endsBy (x_debts z1 i) (day)).2) (by omega) (by rw [← hv, tkL, if_neg c_227]) _ _ w_226 ls hP hD hS hC (lv_sub hl [0, 1, 3, 4] rfl)
      exact loop (a_n a) 0 0 (y_today (z) (day)) (by omega) rfl _ _ w_222 ls hP hD hS hC hl
    · obtain ⟨sa9, hz9⟩ := hE.2.2.2 (135, "no such day") (by decide)
      exact vx_throwS (own := R_X) (cls := "java/lang/IllegalArgumentException") (names := ["java/lang/RuntimeException", "java/lang/Exception"]) hx hb hl9 hown (by decide +kernel) (by decide +kernel) (hts (.classLink R_X 45 "java/lang/IllegalArgumentException") (List.mem_cons_of_mem _ mB_161)) (hts (.initialized "java/lang/IllegalArgumentException") (List.mem_cons_of_mem _ mB_22)) hz9 (vx_hat (B := badL) (fun w hw => hts w ((by decide +kernel : ∀ w ∈ (vx_atS R_X 49 "java/lang/IllegalArgumentException" ["java/lang/RuntimeException", "java/lang/Exception"]).filter goodWord, w ∈ w_X_tick) w hw)) (by decide +kernel) (fun w hw => bad_use hw (hE.2.2.1 w hw))) (by decide +kernel) hE.1 hE.2.1 hS (hl.1.trans hml.symm) d_X_tick_14 d_X_tick_17 d_X_tick_18 d_X_tick_20 d_X_tick_23 (fun x hx => (hEx x hx).elim) (Nat.le_of_ble_eq_true rfl) (Nat.le_of_ble_eq_true rfl) (Nat.le_of_ble_eq_true rfl) (Nat.le_of_ble_eq_true rfl) hlocks (fun t ha hsz hk => ⟨(), trivial, ⟨⟨0, rfl, by rw [f_tick, if_neg c_220, if_neg c_221]; rfl⟩, hP.kept (fun k q hq => hk q.1 (hP k q hq).lt)⟩, Nat.le_trans hS.1 hsz, fun q h1 h2 => (hk q (Nat.lt_of_lt_of_le h1 hS.1)).trans (hS.2.1 q h1 h2)⟩) hS.2.2 (Nat.le_of_ble_eq_true rfl) (Nat.le_of_ble_eq_true rfl)
theorem in_person {x : Int32} (h : ¬ f_isPerson x = 0) : vp_in x 16 := by
  unfold f_isPerson at h
  by_cases h1 : x < 0
  · rw [if_pos h1] at h; exact absurd rfl h
  · rw [if_neg h1] at h
    by_cases h2 : 16 ≤ x
    · rw [if_pos h2] at h; exact absurd rfl h
    · exact vp_lt (m := 16) h1 h2 rfl (by decide) (by decide)
def pyL (who : Int32) : Nat → Nat → Int64 → Int32 → XT → Int64 × Int32 × XT
  | _, 0, l, t, z => (l, t, z)
  | i, n + 1, l, t, z => if l ≤ 0 then (l, t, z)
    else if (f_isPayable (x_debts z i)) = 0 then pyL who (i + 1) n l t z
    else if (f_placeOf (x_debts z i) (who)) = -1 then pyL who (i + 1) n l t z
    else pyL who (i + 1) n (l - (f_take (f_fixInterest (x_debts z i) (x_rates z) (x_today z)) (f_placeOf (f_fixInterest (x_debts z i) (x_rates z) (x_today z)) (who)) (l)).1) (t + 1) (y_debt z i (f_take (f_fixInterest (x_debts z i) (x_rates z) (x_today z)) (f_placeOf (f_fixInterest (x_debts z i) (x_rates z) (x_today z)) (who)) (l)).2)
def f_pay (z : XT) (who : Int32) (cents : Int64) : Int32 × Int32 × XT :=
  if (f_isPerson (who)) = 0 then (1, 0, z)
  else if (f_isSum (cents)) = 0 then (1, 0, z)
    else (0, (pyL who 0 (x_cnt z).toNatClampNeg cents 0 z).2.1, y_credit (pyL who 0 (x_cnt z).toNatClampNeg cents 0 z).2.2 (vp_updL (x_credit (pyL who 0 (x_cnt z).toNatClampNeg cents 0 z).2.2) (who).toNatClampNeg (x_credit (pyL who 0 (x_cnt z).toNatClampNeg cents 0 z).2.2 (who).toNatClampNeg + (pyL who 0 (x_cnt z).toNatClampNeg cents 0 z).1)))
set_option maxHeartbeats 4000000 in
set_option maxRecDepth 100000 in
theorem c_pay (l : Launch) (hl9 : l.stackTraces = false) (D : va_G) (A : Nat → Prop) (w : va_W) (cI cL cD : ClassId) (b : Nat) (a : AD) (z : XT) (who : Int32) (cents : Int64) (hC0 : cA w b cI cL cD a z) : vx_Met l y_X_pay w_X_pay ({ frames := 6, cells := 1, slots := 6, locals := 99 }) (ePc D w (tyL cI cL cD) A [.ref (a_x a), .int (who), .long (cents)]) (va_Qi (fun z9 (_ : Unit) => (f_pay z who cents).1 = 0 ∧ z9 = (f_pay z who cents).2.1) (fun (_ : Unit) t => ∃ w9 : va_W, va_P D vwCl w9 t.heap ∧ va_D A w9 ∧ cAt w9 b cI cL cD (a_x a) ((f_pay z who cents).2.2) ∧ ∀ j, j < b → w9[j]? = w[j]?) A) (vx_X (fun _ : Unit => True) (fun E9 _ t => exN ["java/lang/IllegalArgumentException"] (f_pay z who cents).1 E9 ∧ va_P D vwCl w t.heap) A) 1 6 A := by
  refine vx_ofW (cc := b_X_pay) (maxL := 9) (ret := (some .int)) (by decide) rfl ?_
  intro p e s m args below meth c s₁ B hml hEx hv
  obtain ⟨rfl, hP, hK, hD, hE⟩ := hv
  have hx := B.exec
  have hb := B.bytes
  have hr := B.returns
  have hts := atoms_spec (ws := w_X_pay) B.pre
  have hown : s.vm.findClass R_X = some m.cls := findClass_of_methodNamed B.named
  have hlocks := B.notSynchronized
  have hS : va_S A s.heap s.heap [] := va_S.rf
  have hC : cUpd w w b cI cL cD a z := cUpd.rf hC0
  have hl := lv_entry ([.ref (a_x a), .int (who), .long (cents)]) (n := 9) (Nat.le_of_ble_eq_true rfl)
  rw [lg_entry_eq]
  generalize (lg_sl ([.ref (a_x a), .int (who), .long (cents)]) ++ List.replicate (9 - (lg_sl ([.ref (a_x a), .int (who), .long (cents)])).length) Slot.unset).toArray = ls at hl ⊢
  have hl : lv_has ls 9 [(0, .ref (a_x a)), (1, .int (who)), (2, .long (cents))] := hl
  refine lv_iload_n hx hb d_X_pay_0 rfl (lv_at hl 1 rfl) ?_
  refine vp_callSi (W.runS (As := [.int (who)]) (rest := []) ⟨hx, hb, hml, hown, hts⟩ (c_isPerson l (who)) (cwS 1 hts (gS _ mB_72 mB_73 mB_15 mB_74) rfl rfl rfl (by decide +kernel) ⟨(Nat.le_of_ble_eq_true rfl), (Nat.le_of_ble_eq_true rfl)⟩) ⟨fun _ _ _ _ q => q, fun U _ _ => ⟨rfl, trivial⟩⟩ rfl rfl hl.1 rfl (lv_room (Nat.le_of_ble_eq_true rfl)) d_X_pay_1 ⟨(Nat.le_of_ble_eq_true rfl), (Nat.le_of_ble_eq_true rfl)⟩) (fun v_228 ev_228 => ?_)
  subst ev_228
  refine lv_if_ne (tgt := 17) hx hb d_X_pay_4 (by decide) (fun c_229 => ?_) (fun c_229 => ?_)
  · refine lv_lload_n hx hb d_X_pay_17 rfl (lv_at hl 2 rfl) ?_
    refine vp_callSi (W.runS (As := [.long (cents)]) (rest := []) ⟨hx, hb, hml, hown, hts⟩ (c_isSum l (cents)) (cwS 1 hts (gS _ mB_199 mB_200 mB_15 mB_201) rfl rfl rfl (by decide +kernel) ⟨(Nat.le_of_ble_eq_true rfl), (Nat.le_of_ble_eq_true rfl)⟩) ⟨fun _ _ _ _ q => q, fun U _ _ => ⟨rfl, trivial⟩⟩ rfl rfl hl.1 rfl (lv_room (Nat.le_of_ble_eq_true rfl)) d_X_pay_18 ⟨(Nat.le_of_ble_eq_true rfl), (Nat.le_of_ble_eq_true rfl)⟩) (fun v_230 ev_230 => ?_)
    subst ev_230
    refine lv_if_ne (tgt := 34) hx hb d_X_pay_21 (by decide) (fun c_231 => ?_) (fun c_231 => ?_)
    · refine lv_lload_n hx hb d_X_pay_34 rfl (lv_at hl 2 rfl) ?_
      refine lv_lstore (lv' := [(4, .long (cents)), (0, .ref (a_x a)), (1, .int (who)), (2, .long (cents))]) hx hb d_X_pay_35 hl (by decide) rfl (fun ls hl => ?_)
      refine lv_iconst (v := 0) hx hb d_X_pay_37 (by decide) ?_
      refine lv_istore (lv' := [(6, .int (0)), (4, .long (cents)), (0, .ref (a_x a)), (1, .int (who)), (2, .long (cents))]) hx hb d_X_pay_38 hl (by decide) rfl (fun ls hl => ?_)
      refine lv_iconst (v := 0) hx hb d_X_pay_40 (by decide) ?_
      refine lv_istore (lv' := [(7, .int (0)), (6, .int (0)), (4, .long (cents)), (0, .ref (a_x a)), (1, .int (who)), (2, .long (cents))]) hx hb d_X_pay_41 hl (by decide) rfl (fun ls hl => ?_)
      have loop : ∀ (n i : Nat) (l0 : Int64) (t0 : Int32) (z1 : XT), i + n = a_n a → pyL who i n l0 t0 z1 = pyL who 0 (a_n a) cents 0 (z) → ∀ (H : Heap) (locs : List Loc) (w1 : va_W) (ls : Array Slot), va_P D vwCl w1 H → va_D A w1 → va_S A s.heap H locs → cUpd w w1 b cI cL cD a z1 → lv_has ls 9 [(7, .int (nI i)), (6, .int (t0)), (4, .long (l0)), (0, .ref (a_x a)), (1, .int (who)), (2, .long (cents))] → W p l e (headSpec w_X_pay ({ frames := 6, cells := 1, slots := 6, locals := 99 })).room s m [.ref (a_x a), .int (who), .long (cents)].toArray below meth c H locs 0 0 (vx_MQ below (va_Qi (fun z9 (_ : Unit) => (f_pay z who cents).1 = 0 ∧ z9 = (f_pay z who cents).2.1) (fun (_ : Unit) t => ∃ w9 : va_W, va_P D vwCl w9 t.heap ∧ va_D A w9 ∧ cAt w9 b cI cL cD (a_x a) ((f_pay z who cents).2.2) ∧ ∀ j, j < b → w9[j]? = w[j]?) A) (vx_X (fun _ : Unit => True) (fun E9 _ t => exN ["java/lang/IllegalArgumentException"] (f_pay z who cents).1 E9 ∧ va_P D vwCl w t.heap) A) [.ref (a_x a), .int (who), .long (cents)].toArray s 1 6 A) (F0 m 43 ls []) := by
        intro n
        induction n with
        | zero =>
          intro i l0 t0 z1 hin hv H locs w1 ls hP hD hS hC hl
          refine lv_iload hx hb d_X_pay_43 (lv_at hl 0 rfl) ?_
          refine lv_aload_n hx hb d_X_pay_45 rfl (lv_at hl 3 rfl) ?_
          refine va_get (D := D) (ci := 2) (v := .int (x_cnt z1)) (C := R_X) (T := F_X) (N := 5) hx hb hts (in_X _) hown hK hP b hC.1.x rfl 3 (by decide) (hts (.fieldLink R_X 26 "DebtRows" "debtCount" "I") (List.mem_cons_of_mem _ mB_56)) (fun _ h9 => h9) rfl d_X_pay_46 ?_
          refine lv_icmp_ge (tgt := 131) hx hb d_X_pay_49 (by decide) (fun c_232 => ?_) (fun c_232 => ?_)
          · refine lv_aload_n hx hb d_X_pay_131 rfl (lv_at hl 3 rfl) ?_
            refine va_get (D := D) (ci := 2) (v := .ref (a_cr a)) (C := R_X) (T := F_X) (N := 5) hx hb hts (in_X _) hown hK hP b hC.1.x rfl 2 (by decide) (hts (.fieldLink R_X 22 "DebtRows" "credit" "[J") (List.mem_cons_of_mem _ mB_55)) (fun _ h9 => h9) rfl d_X_pay_132 ?_
            refine lv_iload_n hx hb d_X_pay_135 rfl (lv_at hl 4 rfl) ?_
            refine lv_dup2_11 hx hb d_X_pay_136 rfl rfl ?_
            refine va_lald hx hb hK hP (b + 6) 1 hC.1.cr rfl (in_person c_229) d_X_pay_137 ?_
            refine lv_lload hx hb d_X_pay_138 (lv_at hl 2 rfl) ?_
            refine lv_ladd hx hb d_X_pay_140 ?_
            refine va_last hx hb hK hP hD hS (b + 6) 1 hC.1.cr rfl (in_person c_229) d_X_pay_141 (fun H locs hP hD hS => ?_)
            have hC := hC.c (vp_updL (x_credit z1) (who).toNatClampNeg (((x_credit z1 (who).toNatClampNeg) + l0)))
            have hP : va_P D vwCl (w1.set (b + 6) (a_cr a, aL cL 16 (vp_updL (x_credit z1) (who).toNatClampNeg (((x_credit z1 (who).toNatClampNeg) + l0))))) H := hP
            have hD : va_D A (w1.set (b + 6) (a_cr a, aL cL 16 (vp_updL (x_credit z1) (who).toNatClampNeg (((x_credit z1 (who).toNatClampNeg) + l0))))) := hD
            generalize w1.set (b + 6) (a_cr a, aL cL 16 (vp_updL (x_credit z1) (who).toNatClampNeg (((x_credit z1 (who).toNatClampNeg) + l0)))) = w_233 at hP hD hC
            refine lv_iload hx hb d_X_pay_142 (lv_at hl 1 rfl) ?_
            refine vx_ret (W.widen (k := 1) (n := 6) (Nat.le_of_ble_eq_true rfl) (Nat.le_of_ble_eq_true rfl) ?_)
            exact W.iret (v := t0) hx hb hr (fun t ht hW => ⟨⟨_, (), rfl, ⟨by rw [f_pay, if_neg c_229, if_neg c_231], by rw [f_pay, if_neg c_229, if_neg c_231, hC0.en, nI_clamp (by have := hC0.n; omega), ← hv]; rfl⟩, w_233, by rw [ht]; exact hP, hD, by rw [f_pay, if_neg c_229, if_neg c_231, hC0.en, nI_clamp (by have := hC0.n; omega), ← hv]; exact hC.at, hC.2⟩, hS.F ht⟩) hS.2.2 d_X_pay_144
          · exact absurd (by rw [hC.1.en]; exact nI_le (by omega) (by have := hC.1.n; omega)) c_232
        | succ n ih =>
          intro i l0 t0 z1 hin hv H locs w1 ls hP hD hS hC hl
          refine lv_iload hx hb d_X_pay_43 (lv_at hl 0 rfl) ?_
          refine lv_aload_n hx hb d_X_pay_45 rfl (lv_at hl 3 rfl) ?_
          refine va_get (D := D) (ci := 2) (v := .int (x_cnt z1)) (C := R_X) (T := F_X) (N := 5) hx hb hts (in_X _) hown hK hP b hC.1.x rfl 3 (by decide) (hts (.fieldLink R_X 26 "DebtRows" "debtCount" "I") (List.mem_cons_of_mem _ mB_56)) (fun _ h9 => h9) rfl d_X_pay_46 ?_
          refine lv_icmp_ge (tgt := 131) hx hb d_X_pay_49 (by decide) (fun c_234 => ?_) (fun c_234 => ?_)
          · exact absurd c_234 (by rw [hC.1.en]; exact nI_ge (by omega) (by have := hC.1.n; omega))
          · refine lv_lload hx hb d_X_pay_52 (lv_at hl 2 rfl) ?_
            refine lv_lconst (v := 0) hx hb d_X_pay_54 (by decide) ?_
            refine W.lcmp hx hb d_X_pay_55 ?_
            refine lv_if_le (tgt := 131) hx hb d_X_pay_56 (by decide) (fun c_235 => ?_) (fun c_235 => ?_)
            · have c_235 : l0 ≤ 0 := (lg_cmp_le _ _).mp c_235
              refine lv_aload_n hx hb d_X_pay_131 rfl (lv_at hl 3 rfl) ?_
              refine va_get (D := D) (ci := 2) (v := .ref (a_cr a)) (C := R_X) (T := F_X) (N := 5) hx hb hts (in_X _) hown hK hP b hC.1.x rfl 2 (by decide) (hts (.fieldLink R_X 22 "DebtRows" "credit" "[J") (List.mem_cons_of_mem _ mB_55)) (fun _ h9 => h9) rfl d_X_pay_132 ?_
              refine lv_iload_n hx hb d_X_pay_135 rfl (lv_at hl 4 rfl) ?_
              refine lv_dup2_11 hx hb d_X_pay_136 rfl rfl ?_
              refine va_lald hx hb hK hP (b + 6) 1 hC.1.cr rfl (in_person c_229) d_X_pay_137 ?_
              refine lv_lload hx hb d_X_pay_138 (lv_at hl 2 rfl) ?_
              refine lv_ladd hx hb d_X_pay_140 ?_
              refine va_last hx hb hK hP hD hS (b + 6) 1 hC.1.cr rfl (in_person c_229) d_X_pay_141 (fun H locs hP hD hS => ?_)
              have hC := hC.c (vp_updL (x_credit z1) (who).toNatClampNeg (((x_credit z1 (who).toNatClampNeg) + l0)))
              have hP : va_P D vwCl (w1.set (b + 6) (a_cr a, aL cL 16 (vp_updL (x_credit z1) (who).toNatClampNeg (((x_credit z1 (who).toNatClampNeg) + l0))))) H := hP
              have hD : va_D A (w1.set (b + 6) (a_cr a, aL cL 16 (vp_updL (x_credit z1) (who).toNatClampNeg (((x_credit z1 (who).toNatClampNeg) + l0))))) := hD
              generalize w1.set (b + 6) (a_cr a, aL cL 16 (vp_updL (x_credit z1) (who).toNatClampNeg (((x_credit z1 (who).toNatClampNeg) + l0)))) = w_236 at hP hD hC
              refine lv_iload hx hb d_X_pay_142 (lv_at hl 1 rfl) ?_
              refine vx_ret (W.widen (k := 1) (n := 6) (Nat.le_of_ble_eq_true rfl) (Nat.le_of_ble_eq_true rfl) ?_)
              exact W.iret (v := t0) hx hb hr (fun t ht hW => ⟨⟨_, (), rfl, ⟨by rw [f_pay, if_neg c_229, if_neg c_231], by rw [f_pay, if_neg c_229, if_neg c_231, hC0.en, nI_clamp (by have := hC0.n; omega), ← hv, pyL, if_pos c_235]⟩, w_236, by rw [ht]; exact hP, hD, by rw [f_pay, if_neg c_229, if_neg c_231, hC0.en, nI_clamp (by have := hC0.n; omega), ← hv, pyL, if_pos c_235]; exact hC.at, hC.2⟩, hS.F ht⟩) hS.2.2 d_X_pay_144
            · have c_235 : ¬ l0 ≤ 0 := fun h9 => c_235 ((lg_cmp_le _ _).mpr h9)
              refine lv_aload_n hx hb d_X_pay_59 rfl (lv_at hl 3 rfl) ?_
              refine va_get (D := D) (ci := 2) (v := .ref (a_ds a)) (C := R_X) (T := F_X) (N := 5) hx hb hts (in_X _) hown hK hP b hC.1.x rfl 1 (by decide) (hts (.fieldLink R_X 18 "DebtRows" "debts" "[LDebtRows$Debt;") (List.mem_cons_of_mem _ mB_54)) (fun _ h9 => h9) rfl d_X_pay_60 ?_
              refine lv_iload hx hb d_X_pay_63 (lv_at hl 0 rfl) ?_
              refine va_aldq hx hb hK hP (b + 5) 2 hC.1.ds rfl (vp_in_nI (by have := hC.1.n; omega) (by decide)) d_X_pay_65 ?_
              have hi9 : i < a_n a := by omega
              rw [nI_clamp (by have := hC.1.n; omega), hC.1.g hi9]
              have hU : dUpd w1 w1 (b + 7 + 3 * i) cI cL (a_da a i) (a_pa a i) (a_qa a i) (x_debts z1 i) := dUpd.rf (hC.1.d hi9)
              have hw : wfD (x_debts z1 i) := hC.1.wd hi9
              refine lv_astore (lv' := [(8, .ref (a_da a i)), (7, .int (nI i)), (6, .int (t0)), (4, .long (l0)), (0, .ref (a_x a)), (1, .int (who)), (2, .long (cents))]) hx hb d_X_pay_66 hl (by decide) rfl (fun ls hl => ?_)
              refine lv_aload hx hb d_X_pay_68 (lv_at hl 0 rfl) ?_
              refine lv_ifnull hx hb d_X_pay_70 ?_
              refine lv_aload hx hb d_X_pay_73 (lv_at hl 0 rfl) ?_
              refine vp_callSi (W.runV (As := []) (rest := []) ⟨hx, hb, hml, hown, hts⟩ (c_isPayable l D A w1 cI cL cD (b + 7 + 3 * i) (a_da a i) (a_pa a i) (a_qa a i) (x_debts z1 i) hU.1) (cwV 0 hts (gV _ mB_274 mB_275 mB_276 mB_24 mB_277) rfl rfl rfl (by decide +kernel) ⟨(Nat.le_of_ble_eq_true rfl), (Nat.le_of_ble_eq_true rfl)⟩) ⟨mPc_bl, va_recv hK hP (ci := 0) (q0 := (b + 7 + 3 * i)) rfl hU.o, mPc_pr hP hK hD⟩ rfl rfl hl.1 rfl (lv_room (Nat.le_of_ble_eq_true rfl)) d_X_pay_75 ⟨(Nat.le_of_ble_eq_true rfl), (Nat.le_of_ble_eq_true rfl)⟩) (fun v_237 ev_237 => ?_)
              subst ev_237
              refine lv_if_eq (tgt := 125) hx hb d_X_pay_78 (by decide) (fun c_238 => ?_) (fun c_238 => ?_)
              · refine lv_iinc (v := nI (i + 1)) (lv' := [(7, .int (nI (i + 1))), (8, .ref (a_da a i)), (6, .int (t0)), (4, .long (l0)), (0, .ref (a_x a)), (1, .int (who)), (2, .long (cents))]) hx hb d_X_pay_125 hl (k := 1) rfl (by first | exact nI_inc i | rfl) (by decide) rfl (fun ls hl => ?_)
                refine lv_goto (tgt := 43) hx hb d_X_pay_128 (by decide) ?_
                exact ih (i + 1) (l0) (t0) (z1) (by omega) (by rw [← hv, pyL, if_neg c_235, if_pos c_238]) _ _ w1 ls hP hD hS hC (lv_sub hl [0, 2, 3, 4, 5, 6] rfl)
              · refine lv_aload hx hb d_X_pay_81 (lv_at hl 0 rfl) ?_
                refine lv_iload_n hx hb d_X_pay_83 rfl (lv_at hl 5 rfl) ?_
                refine vp_callSi (W.runV (As := [.int (who)]) (rest := []) ⟨hx, hb, hml, hown, hts⟩ (c_placeOf l D A w1 cI cL cD (b + 7 + 3 * i) (a_da a i) (a_pa a i) (a_qa a i) (x_debts z1 i) (who) hU.1 hw) (cwV 1 hts (gV _ mB_278 mB_80 mB_81 mB_24 mB_82) rfl rfl rfl (by decide +kernel) ⟨(Nat.le_of_ble_eq_true rfl), (Nat.le_of_ble_eq_true rfl)⟩) ⟨mPc_bl, va_recv hK hP (ci := 0) (q0 := (b + 7 + 3 * i)) rfl hU.o, mPc_pr hP hK hD⟩ rfl rfl hl.1 rfl (lv_room (Nat.le_of_ble_eq_true rfl)) d_X_pay_84 ⟨(Nat.le_of_ble_eq_true rfl), (Nat.le_of_ble_eq_true rfl)⟩) (fun v_239 ev_239 => ?_)
                subst ev_239
                refine lv_iconst (v := -1) hx hb d_X_pay_87 (by decide) ?_
                refine lv_icmp_eq (tgt := 125) hx hb d_X_pay_88 (by decide) (fun c_240 => ?_) (fun c_240 => ?_)
                · refine lv_iinc (v := nI (i + 1)) (lv' := [(7, .int (nI (i + 1))), (8, .ref (a_da a i)), (6, .int (t0)), (4, .long (l0)), (0, .ref (a_x a)), (1, .int (who)), (2, .long (cents))]) hx hb d_X_pay_125 hl (k := 1) rfl (by first | exact nI_inc i | rfl) (by decide) rfl (fun ls hl => ?_)
                  refine lv_goto (tgt := 43) hx hb d_X_pay_128 (by decide) ?_
                  exact ih (i + 1) (l0) (t0) (z1) (by omega) (by rw [← hv, pyL, if_neg c_235, if_neg c_238, if_pos c_240]) _ _ w1 ls hP hD hS hC (lv_sub hl [0, 2, 3, 4, 5, 6] rfl)
                · refine lv_aload hx hb d_X_pay_91 (lv_at hl 0 rfl) ?_
                  refine lv_aload_n hx hb d_X_pay_93 rfl (lv_at hl 4 rfl) ?_
                  refine va_get (D := D) (ci := 2) (v := .ref (a_r0 a)) (C := R_X) (T := F_X) (N := 5) hx hb hts (in_X _) hown hK hP b hC.1.x rfl 0 (by decide) (hts (.fieldLink R_X 10 "DebtRows" "rates" "LDebtRows$Rates;") (List.mem_cons_of_mem _ mB_53)) (fun _ h9 => h9) rfl d_X_pay_94 ?_
                  refine lv_aload_n hx hb d_X_pay_97 rfl (lv_at hl 4 rfl) ?_
                  refine va_get (D := D) (ci := 2) (v := .int (x_today z1)) (C := R_X) (T := F_X) (N := 5) hx hb hts (in_X _) hown hK hP b hC.1.x rfl 4 (by decide) (hts (.fieldLink R_X 30 "DebtRows" "today" "I") (List.mem_cons_of_mem _ mB_57)) (fun _ h9 => h9) rfl d_X_pay_98 ?_
                  refine va_callv (va_runV (As := [.ref (a_r0 a), .int (x_today z1)]) (rest := []) ⟨hx, hb, hml, hown, hts⟩ (c_fixInterest l D A w1 cI cL cD (b + 7 + 3 * i) (a_da a i) (a_pa a i) (a_qa a i) (x_debts z1 i) (b + 1) (a_r0 a) (a_fr a) (a_up a) (a_dn a) (x_rates z1) (x_today z1) hU.1 hC.1.r (by omega) hC.1.wr) (cwV 2 hts (gV _ mB_279 mB_280 mB_281 mB_24 mB_282) rfl rfl rfl (by decide +kernel) ⟨(Nat.le_of_ble_eq_true rfl), (Nat.le_of_ble_eq_true rfl)⟩) ⟨mPc_bl, va_recv hK hP (ci := 0) (q0 := (b + 7 + 3 * i)) rfl hU.o, mPc_pr hP hK hD⟩ rfl rfl hl.1 rfl (lv_room (Nat.le_of_ble_eq_true rfl)) d_X_pay_101 ⟨(Nat.le_of_ble_eq_true rfl), (Nat.le_of_ble_eq_true rfl)⟩) hS (fun _ _ h => h) (fun _ h => h) (fun u9 t H locs ht hvm ev_241 hB hz1 hk1 hS => ?_)
                  obtain ⟨w_242, hP, hD, hU1⟩ := hB
                  rw [ht] at hP
                  have hU := hU.tr hU1
                  have hw : wfD ((f_fixInterest (x_debts z1 i) (x_rates z1) (x_today z1))) := wf_fixInterest hw
                  refine lv_lload hx hb d_X_pay_104 (lv_at hl 3 rfl) ?_
                  refine lv_aload hx hb d_X_pay_106 (lv_at hl 0 rfl) ?_
                  refine lv_aload hx hb d_X_pay_108 (lv_at hl 0 rfl) ?_
                  refine lv_iload_n hx hb d_X_pay_110 rfl (lv_at hl 5 rfl) ?_
                  refine vp_callSi (W.runV (As := [.int (who)]) (rest := [.ref (a_da a i), .long (l0)]) ⟨hx, hb, hml, hown, hts⟩ (c_placeOf l D A w_242 cI cL cD (b + 7 + 3 * i) (a_da a i) (a_pa a i) (a_qa a i) (f_fixInterest (x_debts z1 i) (x_rates z1) (x_today z1)) (who) hU.1 hw) (cwV 1 hts (gV _ mB_278 mB_80 mB_81 mB_24 mB_82) rfl rfl rfl (by decide +kernel) ⟨(Nat.le_of_ble_eq_true rfl), (Nat.le_of_ble_eq_true rfl)⟩) ⟨mPc_bl, va_recv hK hP (ci := 0) (q0 := (b + 7 + 3 * i)) rfl hU.o, mPc_pr hP hK hD⟩ rfl rfl hl.1 rfl (lv_room (Nat.le_of_ble_eq_true rfl)) d_X_pay_111 ⟨(Nat.le_of_ble_eq_true rfl), (Nat.le_of_ble_eq_true rfl)⟩) (fun v_243 ev_243 => ?_)
                  subst ev_243
                  refine lv_lload hx hb d_X_pay_114 (lv_at hl 3 rfl) ?_
                  refine va_calll (va_runV (As := [.int ((f_placeOf (f_fixInterest (x_debts z1 i) (x_rates z1) (x_today z1)) (who))), .long (l0)]) (rest := [.long (l0)]) ⟨hx, hb, hml, hown, hts⟩ (c_take l D A w_242 cI cL cD (b + 7 + 3 * i) (a_da a i) (a_pa a i) (a_qa a i) (f_fixInterest (x_debts z1 i) (x_rates z1) (x_today z1)) ((f_placeOf (f_fixInterest (x_debts z1 i) (x_rates z1) (x_today z1)) (who))) (l0) hU.1 hw) (cwV 2 hts (gV _ mB_296 mB_297 mB_298 mB_24 mB_299) rfl rfl rfl (by decide +kernel) ⟨(Nat.le_of_ble_eq_true rfl), (Nat.le_of_ble_eq_true rfl)⟩) ⟨mPc_bl, va_recv hK hP (ci := 0) (q0 := (b + 7 + 3 * i)) rfl hU.o, mPc_pr hP hK hD⟩ rfl rfl hl.1 rfl (lv_room (Nat.le_of_ble_eq_true rfl)) d_X_pay_116 ⟨(Nat.le_of_ble_eq_true rfl), (Nat.le_of_ble_eq_true rfl)⟩) hS (fun _ _ h => h) (fun _ h => h) (fun v_244 u9 t H locs ht hvm ev_244 hB hz1 hk1 hS => ?_)
                  obtain ⟨w_245, hP, hD, hU1⟩ := hB
                  rw [ht] at hP
                  have hU := hU.tr hU1
                  have hw : wfD ((f_take (f_fixInterest (x_debts z1 i) (x_rates z1) (x_today z1)) ((f_placeOf (f_fixInterest (x_debts z1 i) (x_rates z1) (x_today z1)) (who))) (l0)).2) := wf_take hw
                  subst ev_244
                  refine lv_lsub hx hb d_X_pay_119 ?_
                  refine lv_lstore (lv' := [(4, .long ((l0 - (f_take (f_fixInterest (x_debts z1 i) (x_rates z1) (x_today z1)) ((f_placeOf (f_fixInterest (x_debts z1 i) (x_rates z1) (x_today z1)) (who))) (l0)).1))), (8, .ref (a_da a i)), (7, .int (nI i)), (6, .int (t0)), (0, .ref (a_x a)), (1, .int (who)), (2, .long (cents))]) hx hb d_X_pay_120 hl (by decide) rfl (fun ls hl => ?_)
                  refine lv_iinc (v := t0 + 1) (lv' := [(6, .int (t0 + 1)), (4, .long ((l0 - (f_take (f_fixInterest (x_debts z1 i) (x_rates z1) (x_today z1)) ((f_placeOf (f_fixInterest (x_debts z1 i) (x_rates z1) (x_today z1)) (who))) (l0)).1))), (8, .ref (a_da a i)), (7, .int (nI i)), (0, .ref (a_x a)), (1, .int (who)), (2, .long (cents))]) hx hb d_X_pay_122 hl (k := 3) rfl (by first | exact nI_inc i | rfl) (by decide) rfl (fun ls hl => ?_)
                  refine lv_iinc (v := nI (i + 1)) (lv' := [(7, .int (nI (i + 1))), (6, .int (t0 + 1)), (4, .long ((l0 - (f_take (f_fixInterest (x_debts z1 i) (x_rates z1) (x_today z1)) ((f_placeOf (f_fixInterest (x_debts z1 i) (x_rates z1) (x_today z1)) (who))) (l0)).1))), (8, .ref (a_da a i)), (0, .ref (a_x a)), (1, .int (who)), (2, .long (cents))]) hx hb d_X_pay_125 hl (k := 3) rfl (by first | exact nI_inc i | rfl) (by decide) rfl (fun ls hl => ?_)
                  refine lv_goto (tgt := 43) hx hb d_X_pay_128 (by decide) ?_
                  have hC := hC.d hi9 hU hw
                  exact ih (i + 1) ((l0 - (f_take (f_fixInterest (x_debts z1 i) (x_rates z1) (x_today z1)) ((f_placeOf (f_fixInterest (x_debts z1 i) (x_rates z1) (x_today z1)) (who))) (l0)).1)) (t0 + 1) (y_debt (z1) i (f_take (f_fixInterest (x_debts z1 i) (x_rates z1) (x_today z1)) ((f_placeOf (f_fixInterest (x_debts z1 i) (x_rates z1) (x_today z1)) (who))) (l0)).2) (by omega) (by rw [← hv, pyL, if_neg c_235, if_neg c_238, if_neg c_240]) _ _ w_245 ls hP hD hS hC (lv_sub hl [0, 1, 2, 4, 5, 6] rfl)
      exact loop (a_n a) 0 cents 0 (z) (by omega) rfl _ _ w ls hP hD hS hC hl
    · obtain ⟨sa9, hz9⟩ := hE.2.2.2 (68, "no such sum") (by decide)
      exact vx_throwS (own := R_X) (cls := "java/lang/IllegalArgumentException") (names := ["java/lang/RuntimeException", "java/lang/Exception"]) hx hb hl9 hown (by decide +kernel) (by decide +kernel) (hts (.classLink R_X 45 "java/lang/IllegalArgumentException") (List.mem_cons_of_mem _ mB_161)) (hts (.initialized "java/lang/IllegalArgumentException") (List.mem_cons_of_mem _ mB_22)) hz9 (vx_hat (B := badL) (fun w hw => hts w ((by decide +kernel : ∀ w ∈ (vx_atS R_X 49 "java/lang/IllegalArgumentException" ["java/lang/RuntimeException", "java/lang/Exception"]).filter goodWord, w ∈ w_X_pay) w hw)) (by decide +kernel) (fun w hw => bad_use hw (hE.2.2.1 w hw))) (by decide +kernel) hE.1 hE.2.1 hS (hl.1.trans hml.symm) d_X_pay_24 d_X_pay_27 d_X_pay_28 d_X_pay_30 d_X_pay_33 (fun x hx => (hEx x hx).elim) (Nat.le_of_ble_eq_true rfl) (Nat.le_of_ble_eq_true rfl) (Nat.le_of_ble_eq_true rfl) (Nat.le_of_ble_eq_true rfl) hlocks (fun t ha hsz hk => ⟨(), trivial, ⟨⟨0, rfl, by rw [f_pay, if_neg c_229, if_pos c_231]; rfl⟩, hP.kept (fun k q hq => hk q.1 (hP k q hq).lt)⟩, Nat.le_trans hS.1 hsz, fun q h1 h2 => (hk q (Nat.lt_of_lt_of_le h1 hS.1)).trans (hS.2.1 q h1 h2)⟩) hS.2.2 (Nat.le_of_ble_eq_true rfl) (Nat.le_of_ble_eq_true rfl)
  · obtain ⟨sa9, hz9⟩ := hE.2.2.2 (74, "no such person") (by decide)
    exact vx_throwS (own := R_X) (cls := "java/lang/IllegalArgumentException") (names := ["java/lang/RuntimeException", "java/lang/Exception"]) hx hb hl9 hown (by decide +kernel) (by decide +kernel) (hts (.classLink R_X 45 "java/lang/IllegalArgumentException") (List.mem_cons_of_mem _ mB_161)) (hts (.initialized "java/lang/IllegalArgumentException") (List.mem_cons_of_mem _ mB_22)) hz9 (vx_hat (B := badL) (fun w hw => hts w ((by decide +kernel : ∀ w ∈ (vx_atS R_X 49 "java/lang/IllegalArgumentException" ["java/lang/RuntimeException", "java/lang/Exception"]).filter goodWord, w ∈ w_X_pay) w hw)) (by decide +kernel) (fun w hw => bad_use hw (hE.2.2.1 w hw))) (by decide +kernel) hE.1 hE.2.1 hS (hl.1.trans hml.symm) d_X_pay_7 d_X_pay_10 d_X_pay_11 d_X_pay_13 d_X_pay_16 (fun x hx => (hEx x hx).elim) (Nat.le_of_ble_eq_true rfl) (Nat.le_of_ble_eq_true rfl) (Nat.le_of_ble_eq_true rfl) (Nat.le_of_ble_eq_true rfl) hlocks (fun t ha hsz hk => ⟨(), trivial, ⟨⟨0, rfl, by rw [f_pay, if_pos c_229]; rfl⟩, hP.kept (fun k q hq => hk q.1 (hP k q hq).lt)⟩, Nat.le_trans hS.1 hsz, fun q h1 h2 => (hk q (Nat.lt_of_lt_of_le h1 hS.1)).trans (hS.2.1 q h1 h2)⟩) hS.2.2 (Nat.le_of_ble_eq_true rfl) (Nat.le_of_ble_eq_true rfl)
end
section
/-- a start with room for new cells in A -/
def aPc (D : va_G) (w : va_W) (tys : List (ClassId × FieldType)) (A : Nat → Prop) (av : List Value) : Array Value → State → Prop := va_Pc av (fun U => va_P D vwCl w U.heap ∧ va_K D vwCl tys U ∧ va_D A w ∧ ∀ q : Nat, U.heap.size ≤ q → A q)
theorem aPc_bl {D : va_G} {w : va_W} {tys : List (ClassId × FieldType)} {A : Nat → Prop} {av : List Value} : FrameBlind (aPc D w tys A av) := fun a U g mk q => by
  obtain ⟨q0, qP, qK, qD, qE⟩ := q
  exact ⟨q0, qP, va_K.moved (u := U) (U := U.calling g mk a) (Vm.Alike.refl U.vm) qK, qD, qE⟩
theorem aPc_pr {D : va_G} {w : va_W} {tys : List (ClassId × FieldType)} {A : Nat → Prop} {av : List Value} {s : State} {H : Heap} (hP : va_P D vwCl w H) (hK : va_K D vwCl tys s) (hD : va_D A w) (hA : ∀ q : Nat, H.size ≤ q → A q) : ∀ U : State, U.heap = H → s.WarmedH U.vm → aPc D w tys A av av.toArray U := fun U hU hW => ⟨rfl, by rw [hU]; exact hP, va_K.moved hW.alike hK, hD, by rw [hU]; exact hA⟩
def oPc (D : va_G) (w : va_W) (tys : List (ClassId × FieldType)) (A : Nat → Prop) (av : List Value) : Array Value → State → Prop := va_Pc av (fun U => va_P D vwCl w U.heap ∧ va_K D vwCl tys U ∧ va_D A w ∧ (∀ q : Nat, U.heap.size ≤ q → A q) ∧ va_AO "DebtRows$Debt" U)
theorem oPc_bl {D : va_G} {w : va_W} {tys : List (ClassId × FieldType)} {A : Nat → Prop} {av : List Value} : FrameBlind (oPc D w tys A av) := fun a U g mk q => by
  obtain ⟨q0, qP, qK, qD, qE, qO⟩ := q
  exact ⟨q0, qP, va_K.moved (u := U) (U := U.calling g mk a) (Vm.Alike.refl U.vm) qK, qD, qE, va_AO.moved (u := U) (U := U.calling g mk a) (Vm.Alike.refl U.vm) qO⟩
theorem oPc_pr {D : va_G} {w : va_W} {tys : List (ClassId × FieldType)} {A : Nat → Prop} {av : List Value} {s : State} {H : Heap} (hP : va_P D vwCl w H) (hK : va_K D vwCl tys s) (hD : va_D A w) (hA : ∀ q : Nat, H.size ≤ q → A q) (hO : va_AO "DebtRows$Debt" s) : ∀ U : State, U.heap = H → s.WarmedH U.vm → oPc D w tys A av av.toArray U := fun U hU hW => ⟨rfl, by rw [hU]; exact hP, va_K.moved hW.alike hK, hD, by rw [hU]; exact hA, va_AO.moved hW.alike hO⟩
def fPc (D : va_G) (w : va_W) (tys : List (ClassId × FieldType)) (A : Nat → Prop) (av : List Value) : Array Value → State → Prop := va_Pc av (fun U => va_P D vwCl w U.heap ∧ va_K D vwCl tys U ∧ va_D A w ∧ xEnv A U ∧ ∀ q : Nat, U.heap.size ≤ q → A q)
theorem fPc_bl {D : va_G} {w : va_W} {tys : List (ClassId × FieldType)} {A : Nat → Prop} {av : List Value} : FrameBlind (fPc D w tys A av) := fun a U g mk q => by
  obtain ⟨q0, qP, qK, qD, qE, qA⟩ := q
  exact ⟨q0, qP, va_K.moved (u := U) (U := U.calling g mk a) (Vm.Alike.refl U.vm) qK, qD, qE.mv (U := U.calling g mk a) (va_S.rf (A := A)) rfl (State.WarmedH.refl U), qA⟩
theorem fPc_pr {D : va_G} {w : va_W} {tys : List (ClassId × FieldType)} {A : Nat → Prop} {av : List Value} {s : State} {H : Heap} {locs : List Loc} (hP : va_P D vwCl w H) (hK : va_K D vwCl tys s) (hD : va_D A w) (hE : xEnv A s) (hS : va_S A s.heap H locs) (hA : ∀ q : Nat, s.heap.size ≤ q → A q) : ∀ U : State, U.heap = H → s.WarmedH U.vm → fPc D w tys A av av.toArray U := fun U hU hW => ⟨rfl, by rw [hU]; exact hP, va_K.moved hW.alike hK, hD, hE.mv hS hU hW, fun q h => hA q (Nat.le_trans hS.1 (by rw [← hU]; exact h))⟩
/-- one class for the arrays of one type -/
theorem kI_eq {D : va_G} {cl : List vw_C} {t1 t2 : List (ClassId × FieldType)} {U : State} {c1 c2 : ClassId} (h1 : va_K D cl t1 U) (h2 : va_K D cl t2 U) (i j : Nat) (e1 : t1[i]? = some (c1, .int)) (e2 : t2[j]? = some (c2, .int)) : c1 = c2 := by
  have a := (h1.2 i _ e1).2
  have b := (h2.2 j _ e2).2
  exact Option.some.inj (a.symm.trans b)
theorem kL_eq {D : va_G} {cl : List vw_C} {t1 t2 : List (ClassId × FieldType)} {U : State} {c1 c2 : ClassId} (h1 : va_K D cl t1 U) (h2 : va_K D cl t2 U) (i j : Nat) (e1 : t1[i]? = some (c1, .long)) (e2 : t2[j]? = some (c2, .long)) : c1 = c2 := by
  have a := (h1.2 i _ e1).2
  have b := (h2.2 j _ e2).2
  exact Option.some.inj (a.symm.trans b)
theorem ap_l {w : va_W} {j : Nat} {q : Nat × va_E} {e : Nat × va_E} (h : w[j]? = some e) : (w ++ [q])[j]? = some e := by
  rw [List.getElem?_append_left (List.getElem?_eq_some_iff.mp h).1]; exact h
theorem ap_k {w : va_W} {j : Nat} {q : Nat × va_E} (h : j < w.length) : (w ++ [q])[j]? = w[j]? := List.getElem?_append_left h
theorem ap_r {w : va_W} {k : Nat} {q : Nat × va_E} (h : w.length = k) : (w ++ [q])[k]? = some q := by
  subst h; rw [List.getElem?_append_right (Nat.le_refl _), Nat.sub_self]; rfl
theorem ap_n {w : va_W} {k : Nat} {q : Nat × va_E} (h : w.length = k) : (w ++ [q]).length = k + 1 := by rw [List.length_append, h]; rfl

abbrev dNew (cents : Int64) (birth : Int32) : DT := (cents, birth, fun _ => 0, fun _ => 0, 0, 0, -1, 0, cents, 0, 0, 0, 0, 0, 0)
set_option maxHeartbeats 4000000 in
set_option maxRecDepth 100000 in
theorem c_Dinit (l : Launch) (D : va_G) (A : Nat → Prop) (w : va_W) (cI cL cD : ClassId) (k h0 : Nat) (cents : Int64) (birth : Int32) (ho0 : w[k]? = some (h0, .inr (0, [.long (0), .int (0), .null, .null, .int (0), .int (0), .int (0), .int (0), .long (0), .long (0), .long (0), .long (0), .int (0), .int (0), .long (0)]))) (hn0 : w.length = k + 1) : Met l y_D_init w_D_init ({ frames := 1, cells := 2, slots := 8, locals := 12 }) (aPc D w (tyL cI cL cD) A [.ref h0, .long (cents), .int (birth)]) (va_Qv (fun _ : Unit => True) (fun (_ : Unit) t => ∃ (w9 : va_W) (hp hq : Nat), va_P D vwCl w9 t.heap ∧ va_D A w9 ∧ dAt w9 k cI cL h0 hp hq (dNew cents birth) ∧ w9.length = k + 3 ∧ ∀ j, j < k → w9[j]? = w[j]?) A) 2 8 A := by
  refine Met.ofW (cc := b_D_init) (maxL := 4) (ret := none) (by decide) rfl ?_
  intro p e s m args below meth c s₁ B hml hv
  obtain ⟨rfl, hP, hK, hD, hA⟩ := hv
  have hx := B.exec
  have hb := B.bytes
  have hr := B.returns
  have hts := atoms_spec (ws := w_D_init) B.pre
  have hown : s.vm.findClass R_D = some m.cls := findClass_of_methodNamed B.named
  have hlocks := B.notSynchronized
  have hin : meth.name = "<init>" := (name_of_methodNamed B.named B.method).1
  have hS : va_S A s.heap s.heap [] := va_S.rf
  have ho := ho0
  have hn := hn0
  have hk : ∀ j, j < k → w[j]? = w[j]? := fun _ _ => rfl
  have hl := lv_entry ([.ref h0, .long (cents), .int (birth)]) (n := 4) (Nat.le_of_ble_eq_true rfl)
  rw [lg_entry_eq]
  generalize (lg_sl ([.ref h0, .long (cents), .int (birth)]) ++ List.replicate (4 - (lg_sl ([.ref h0, .long (cents), .int (birth)])).length) Slot.unset).toArray = ls at hl ⊢
  have hl : lv_has ls 4 [(0, .ref h0), (1, .long (cents)), (3, .int (birth))] := hl
  refine lv_aload_n hx hb d_D_init_0 rfl (lv_at hl 0 rfl) ?_
  refine W.objInit hx hb hown (hts (.methodLink R_D 3 objectInit) (List.mem_cons_of_mem _ mB_207)) (hts (.instanceMethod objectInit) (List.mem_cons_of_mem _ mB_33)) (hts _ (List.mem_cons_of_mem _ mC_obj)) rfl (by rw [hml]; exact hl.1) rfl d_D_init_1 (Nat.le_of_ble_eq_true rfl) (Nat.le_of_ble_eq_true rfl) ?_
  refine W.eq (g2 := F0 m 4 ls []) rfl ?_
  refine lv_aload_n hx hb d_D_init_4 rfl (lv_at hl 0 rfl) ?_
  refine lv_lload_n hx hb d_D_init_5 rfl (lv_at hl 1 rfl) ?_
  refine va_putF (D := D) (ci := 0) (v := .long (cents)) (ty := .long) (C := R_D) (T := F_D) (N := 15) hx hb hts (in_D _) t_D to_D nn_D hown hK hP hD hS k ho rfl 0 (by decide) (hts (.fieldLink R_D 9 "DebtRows$Debt" "cents" "J") (List.mem_cons_of_mem _ mB_208)) (fun _ h9 => h9) rfl hin rfl (by decide +kernel) rfl rfl (Nat.le_of_ble_eq_true rfl) d_D_init_6 (fun H locs hP hD hS => ?_)
  have ho : (w.set k (h0, .inr (0, [.long (cents), .int (0), .null, .null, .int (0), .int (0), .int (0), .int (0), .long (0), .long (0), .long (0), .long (0), .int (0), .int (0), .long (0)])))[k]? = some (h0, .inr (0, [.long (cents), .int (0), .null, .null, .int (0), .int (0), .int (0), .int (0), .long (0), .long (0), .long (0), .long (0), .int (0), .int (0), .long (0)])) := ws_s ho
  have hn : (w.set k (h0, .inr (0, [.long (cents), .int (0), .null, .null, .int (0), .int (0), .int (0), .int (0), .long (0), .long (0), .long (0), .long (0), .int (0), .int (0), .long (0)]))).length = k + 1 := by rw [List.length_set]; exact hn
  have hk : ∀ j, j < k → (w.set k (h0, .inr (0, [.long (cents), .int (0), .null, .null, .int (0), .int (0), .int (0), .int (0), .long (0), .long (0), .long (0), .long (0), .int (0), .int (0), .long (0)])))[j]? = w[j]? := fun j hj => (ws_n (by omega)).trans (hk j hj)
  have hP : va_P D vwCl (w.set k (h0, .inr (0, [.long (cents), .int (0), .null, .null, .int (0), .int (0), .int (0), .int (0), .long (0), .long (0), .long (0), .long (0), .int (0), .int (0), .long (0)]))) H := hP
  have hD : va_D A (w.set k (h0, .inr (0, [.long (cents), .int (0), .null, .null, .int (0), .int (0), .int (0), .int (0), .long (0), .long (0), .long (0), .long (0), .int (0), .int (0), .long (0)]))) := hD
  generalize w.set k (h0, .inr (0, [.long (cents), .int (0), .null, .null, .int (0), .int (0), .int (0), .int (0), .long (0), .long (0), .long (0), .long (0), .int (0), .int (0), .long (0)])) = w_246 at hP hD ho hn hk
  refine lv_aload_n hx hb d_D_init_9 rfl (lv_at hl 0 rfl) ?_
  refine lv_iload_n hx hb d_D_init_10 rfl (lv_at hl 2 rfl) ?_
  refine va_putF (D := D) (ci := 0) (v := .int (birth)) (ty := .int) (C := R_D) (T := F_D) (N := 15) hx hb hts (in_D _) t_D to_D nn_D hown hK hP hD hS k ho rfl 1 (by decide) (hts (.fieldLink R_D 15 "DebtRows$Debt" "birth" "I") (List.mem_cons_of_mem _ mB_210)) (fun _ h9 => h9) rfl hin rfl (by decide +kernel) rfl rfl (Nat.le_of_ble_eq_true rfl) d_D_init_11 (fun H locs hP hD hS => ?_)
  have ho : (w_246.set k (h0, .inr (0, [.long (cents), .int (birth), .null, .null, .int (0), .int (0), .int (0), .int (0), .long (0), .long (0), .long (0), .long (0), .int (0), .int (0), .long (0)])))[k]? = some (h0, .inr (0, [.long (cents), .int (birth), .null, .null, .int (0), .int (0), .int (0), .int (0), .long (0), .long (0), .long (0), .long (0), .int (0), .int (0), .long (0)])) := ws_s ho
  have hn : (w_246.set k (h0, .inr (0, [.long (cents), .int (birth), .null, .null, .int (0), .int (0), .int (0), .int (0), .long (0), .long (0), .long (0), .long (0), .int (0), .int (0), .long (0)]))).length = k + 1 := by rw [List.length_set]; exact hn
  have hk : ∀ j, j < k → (w_246.set k (h0, .inr (0, [.long (cents), .int (birth), .null, .null, .int (0), .int (0), .int (0), .int (0), .long (0), .long (0), .long (0), .long (0), .int (0), .int (0), .long (0)])))[j]? = w[j]? := fun j hj => (ws_n (by omega)).trans (hk j hj)
  have hP : va_P D vwCl (w_246.set k (h0, .inr (0, [.long (cents), .int (birth), .null, .null, .int (0), .int (0), .int (0), .int (0), .long (0), .long (0), .long (0), .long (0), .int (0), .int (0), .long (0)]))) H := hP
  have hD : va_D A (w_246.set k (h0, .inr (0, [.long (cents), .int (birth), .null, .null, .int (0), .int (0), .int (0), .int (0), .long (0), .long (0), .long (0), .long (0), .int (0), .int (0), .long (0)]))) := hD
  generalize w_246.set k (h0, .inr (0, [.long (cents), .int (birth), .null, .null, .int (0), .int (0), .int (0), .int (0), .long (0), .long (0), .long (0), .long (0), .int (0), .int (0), .long (0)])) = w_247 at hP hD ho hn hk
  refine lv_aload_n hx hb d_D_init_14 rfl (lv_at hl 0 rfl) ?_
  refine lv_iconst (v := 4) hx hb d_D_init_15 (by decide) ?_
  refine va_newa (atype := .int) (ty := .int) (n := 4) (N' := 4) (a0 := (4, .inl (fun _ => 0))) hx hb (hts (.arrayClass .int) (List.mem_cons_of_mem _ mB_51)) rfl hK hP hD hS hA (fun _ => rfl) (by decide) (by decide) (by decide) (Nat.le_of_ble_eq_true rfl) (Nat.le_of_ble_eq_true rfl) d_D_init_16 (fun q_248 cA_249 H hK1 hP hD hS => ?_)
  obtain rfl : cI = cA_249 := kI_eq hK hK1 0 3 rfl rfl
  have ho : ((w_247 ++ [(q_248, aI cI 4 (fun _ => 0))] : va_W))[k]? = some (h0, .inr (0, [.long (cents), .int (birth), .null, .null, .int (0), .int (0), .int (0), .int (0), .long (0), .long (0), .long (0), .long (0), .int (0), .int (0), .long (0)])) := ap_l ho
  have ha_251 : ((w_247 ++ [(q_248, aI cI 4 (fun _ => 0))] : va_W))[k + 1]? = some (q_248, aI cI 4 (fun _ => 0)) := ap_r hn
  have hk : ∀ j, j < k → ((w_247 ++ [(q_248, aI cI 4 (fun _ => 0))] : va_W))[j]? = w[j]? := fun j hj => (ap_k (by omega)).trans (hk j hj)
  have hn : ((w_247 ++ [(q_248, aI cI 4 (fun _ => 0))] : va_W)).length = k + 2 := ap_n hn
  have hP : va_P D vwCl ((w_247 ++ [(q_248, aI cI 4 (fun _ => 0))] : va_W)) H := hP
  have hD : va_D A ((w_247 ++ [(q_248, aI cI 4 (fun _ => 0))] : va_W)) := hD
  generalize (w_247 ++ [(q_248, aI cI 4 (fun _ => 0))] : va_W) = w_250 at hP hD ho hn hk ha_251
  refine va_putF (D := D) (ci := 0) (v := .ref q_248) (ty := (.array .int)) (C := R_D) (T := F_D) (N := 15) hx hb hts (in_D _) t_D to_D nn_D hown hK hP hD hS k ho rfl 2 (by decide) (hts (.fieldLink R_D 19 "DebtRows$Debt" "people" "[I") (List.mem_cons_of_mem _ mB_212)) (fun _ h9 => h9) rfl hin rfl (by decide +kernel) rfl rfl (Nat.le_of_ble_eq_true rfl) d_D_init_18 (fun H locs hP hD hS => ?_)
  have ho : (w_250.set k (h0, .inr (0, [.long (cents), .int (birth), .ref q_248, .null, .int (0), .int (0), .int (0), .int (0), .long (0), .long (0), .long (0), .long (0), .int (0), .int (0), .long (0)])))[k]? = some (h0, .inr (0, [.long (cents), .int (birth), .ref q_248, .null, .int (0), .int (0), .int (0), .int (0), .long (0), .long (0), .long (0), .long (0), .int (0), .int (0), .long (0)])) := ws_s ho
  have ha_251 : (w_250.set k (h0, .inr (0, [.long (cents), .int (birth), .ref q_248, .null, .int (0), .int (0), .int (0), .int (0), .long (0), .long (0), .long (0), .long (0), .int (0), .int (0), .long (0)])))[k + 1]? = some (q_248, aI cI 4 (fun _ => 0)) := by rw [ws_n (by omega)]; exact ha_251
  have hn : (w_250.set k (h0, .inr (0, [.long (cents), .int (birth), .ref q_248, .null, .int (0), .int (0), .int (0), .int (0), .long (0), .long (0), .long (0), .long (0), .int (0), .int (0), .long (0)]))).length = k + 2 := by rw [List.length_set]; exact hn
  have hk : ∀ j, j < k → (w_250.set k (h0, .inr (0, [.long (cents), .int (birth), .ref q_248, .null, .int (0), .int (0), .int (0), .int (0), .long (0), .long (0), .long (0), .long (0), .int (0), .int (0), .long (0)])))[j]? = w[j]? := fun j hj => (ws_n (by omega)).trans (hk j hj)
  have hP : va_P D vwCl (w_250.set k (h0, .inr (0, [.long (cents), .int (birth), .ref q_248, .null, .int (0), .int (0), .int (0), .int (0), .long (0), .long (0), .long (0), .long (0), .int (0), .int (0), .long (0)]))) H := hP
  have hD : va_D A (w_250.set k (h0, .inr (0, [.long (cents), .int (birth), .ref q_248, .null, .int (0), .int (0), .int (0), .int (0), .long (0), .long (0), .long (0), .long (0), .int (0), .int (0), .long (0)]))) := hD
  generalize w_250.set k (h0, .inr (0, [.long (cents), .int (birth), .ref q_248, .null, .int (0), .int (0), .int (0), .int (0), .long (0), .long (0), .long (0), .long (0), .int (0), .int (0), .long (0)])) = w_252 at hP hD ho hn hk ha_251
  refine lv_aload_n hx hb d_D_init_21 rfl (lv_at hl 0 rfl) ?_
  refine lv_iconst (v := 4) hx hb d_D_init_22 (by decide) ?_
  refine va_newa (atype := .long) (ty := .long) (n := 4) (N' := 4) (a0 := (4, .inr (.inl (fun _ => 0)))) hx hb (hts (.arrayClass .long) (List.mem_cons_of_mem _ mB_64)) rfl hK hP hD hS hA (fun _ => rfl) (by decide) (by decide) (by decide) (Nat.le_of_ble_eq_true rfl) (Nat.le_of_ble_eq_true rfl) d_D_init_23 (fun q_253 cA_254 H hK1 hP hD hS => ?_)
  obtain rfl : cL = cA_254 := kL_eq hK hK1 1 3 rfl rfl
  have ho : ((w_252 ++ [(q_253, aL cL 4 (fun _ => 0))] : va_W))[k]? = some (h0, .inr (0, [.long (cents), .int (birth), .ref q_248, .null, .int (0), .int (0), .int (0), .int (0), .long (0), .long (0), .long (0), .long (0), .int (0), .int (0), .long (0)])) := ap_l ho
  have ha_251 : ((w_252 ++ [(q_253, aL cL 4 (fun _ => 0))] : va_W))[k + 1]? = some (q_248, aI cI 4 (fun _ => 0)) := ap_l ha_251
  have ha_256 : ((w_252 ++ [(q_253, aL cL 4 (fun _ => 0))] : va_W))[k + 2]? = some (q_253, aL cL 4 (fun _ => 0)) := ap_r hn
  have hk : ∀ j, j < k → ((w_252 ++ [(q_253, aL cL 4 (fun _ => 0))] : va_W))[j]? = w[j]? := fun j hj => (ap_k (by omega)).trans (hk j hj)
  have hn : ((w_252 ++ [(q_253, aL cL 4 (fun _ => 0))] : va_W)).length = k + 3 := ap_n hn
  have hP : va_P D vwCl ((w_252 ++ [(q_253, aL cL 4 (fun _ => 0))] : va_W)) H := hP
  have hD : va_D A ((w_252 ++ [(q_253, aL cL 4 (fun _ => 0))] : va_W)) := hD
  generalize (w_252 ++ [(q_253, aL cL 4 (fun _ => 0))] : va_W) = w_255 at hP hD ho hn hk ha_251 ha_256
  refine va_putF (D := D) (ci := 0) (v := .ref q_253) (ty := (.array .long)) (C := R_D) (T := F_D) (N := 15) hx hb hts (in_D _) t_D to_D nn_D hown hK hP hD hS k ho rfl 3 (by decide) (hts (.fieldLink R_D 23 "DebtRows$Debt" "paid" "[J") (List.mem_cons_of_mem _ mB_213)) (fun _ h9 => h9) rfl hin rfl (by decide +kernel) rfl rfl (Nat.le_of_ble_eq_true rfl) d_D_init_25 (fun H locs hP hD hS => ?_)
  have ho : (w_255.set k (h0, .inr (0, [.long (cents), .int (birth), .ref q_248, .ref q_253, .int (0), .int (0), .int (0), .int (0), .long (0), .long (0), .long (0), .long (0), .int (0), .int (0), .long (0)])))[k]? = some (h0, .inr (0, [.long (cents), .int (birth), .ref q_248, .ref q_253, .int (0), .int (0), .int (0), .int (0), .long (0), .long (0), .long (0), .long (0), .int (0), .int (0), .long (0)])) := ws_s ho
  have ha_251 : (w_255.set k (h0, .inr (0, [.long (cents), .int (birth), .ref q_248, .ref q_253, .int (0), .int (0), .int (0), .int (0), .long (0), .long (0), .long (0), .long (0), .int (0), .int (0), .long (0)])))[k + 1]? = some (q_248, aI cI 4 (fun _ => 0)) := by rw [ws_n (by omega)]; exact ha_251
  have ha_256 : (w_255.set k (h0, .inr (0, [.long (cents), .int (birth), .ref q_248, .ref q_253, .int (0), .int (0), .int (0), .int (0), .long (0), .long (0), .long (0), .long (0), .int (0), .int (0), .long (0)])))[k + 2]? = some (q_253, aL cL 4 (fun _ => 0)) := by rw [ws_n (by omega)]; exact ha_256
  have hn : (w_255.set k (h0, .inr (0, [.long (cents), .int (birth), .ref q_248, .ref q_253, .int (0), .int (0), .int (0), .int (0), .long (0), .long (0), .long (0), .long (0), .int (0), .int (0), .long (0)]))).length = k + 3 := by rw [List.length_set]; exact hn
  have hk : ∀ j, j < k → (w_255.set k (h0, .inr (0, [.long (cents), .int (birth), .ref q_248, .ref q_253, .int (0), .int (0), .int (0), .int (0), .long (0), .long (0), .long (0), .long (0), .int (0), .int (0), .long (0)])))[j]? = w[j]? := fun j hj => (ws_n (by omega)).trans (hk j hj)
  have hP : va_P D vwCl (w_255.set k (h0, .inr (0, [.long (cents), .int (birth), .ref q_248, .ref q_253, .int (0), .int (0), .int (0), .int (0), .long (0), .long (0), .long (0), .long (0), .int (0), .int (0), .long (0)]))) H := hP
  have hD : va_D A (w_255.set k (h0, .inr (0, [.long (cents), .int (birth), .ref q_248, .ref q_253, .int (0), .int (0), .int (0), .int (0), .long (0), .long (0), .long (0), .long (0), .int (0), .int (0), .long (0)]))) := hD
  generalize w_255.set k (h0, .inr (0, [.long (cents), .int (birth), .ref q_248, .ref q_253, .int (0), .int (0), .int (0), .int (0), .long (0), .long (0), .long (0), .long (0), .int (0), .int (0), .long (0)])) = w_257 at hP hD ho hn hk ha_251 ha_256
  refine lv_aload_n hx hb d_D_init_28 rfl (lv_at hl 0 rfl) ?_
  refine lv_iconst (v := 0) hx hb d_D_init_29 (by decide) ?_
  refine va_put (D := D) (ci := 0) (v := .int (0)) (ty := .int) (C := R_D) (T := F_D) (N := 15) hx hb hts (in_D _) t_D to_D nn_D hown hK hP hD hS k ho rfl 5 (by decide) (hts (.fieldLink R_D 27 "DebtRows$Debt" "state" "I") (List.mem_cons_of_mem _ mB_216)) (fun _ h9 => h9) rfl (by decide +kernel) rfl rfl (Nat.le_of_ble_eq_true rfl) d_D_init_30 (fun H locs hP hD hS => ?_)
  have ho : (w_257.set k (h0, .inr (0, [.long (cents), .int (birth), .ref q_248, .ref q_253, .int (0), .int (0), .int (0), .int (0), .long (0), .long (0), .long (0), .long (0), .int (0), .int (0), .long (0)])))[k]? = some (h0, .inr (0, [.long (cents), .int (birth), .ref q_248, .ref q_253, .int (0), .int (0), .int (0), .int (0), .long (0), .long (0), .long (0), .long (0), .int (0), .int (0), .long (0)])) := ws_s ho
  have ha_251 : (w_257.set k (h0, .inr (0, [.long (cents), .int (birth), .ref q_248, .ref q_253, .int (0), .int (0), .int (0), .int (0), .long (0), .long (0), .long (0), .long (0), .int (0), .int (0), .long (0)])))[k + 1]? = some (q_248, aI cI 4 (fun _ => 0)) := by rw [ws_n (by omega)]; exact ha_251
  have ha_256 : (w_257.set k (h0, .inr (0, [.long (cents), .int (birth), .ref q_248, .ref q_253, .int (0), .int (0), .int (0), .int (0), .long (0), .long (0), .long (0), .long (0), .int (0), .int (0), .long (0)])))[k + 2]? = some (q_253, aL cL 4 (fun _ => 0)) := by rw [ws_n (by omega)]; exact ha_256
  have hn : (w_257.set k (h0, .inr (0, [.long (cents), .int (birth), .ref q_248, .ref q_253, .int (0), .int (0), .int (0), .int (0), .long (0), .long (0), .long (0), .long (0), .int (0), .int (0), .long (0)]))).length = k + 3 := by rw [List.length_set]; exact hn
  have hk : ∀ j, j < k → (w_257.set k (h0, .inr (0, [.long (cents), .int (birth), .ref q_248, .ref q_253, .int (0), .int (0), .int (0), .int (0), .long (0), .long (0), .long (0), .long (0), .int (0), .int (0), .long (0)])))[j]? = w[j]? := fun j hj => (ws_n (by omega)).trans (hk j hj)
  have hP : va_P D vwCl (w_257.set k (h0, .inr (0, [.long (cents), .int (birth), .ref q_248, .ref q_253, .int (0), .int (0), .int (0), .int (0), .long (0), .long (0), .long (0), .long (0), .int (0), .int (0), .long (0)]))) H := hP
  have hD : va_D A (w_257.set k (h0, .inr (0, [.long (cents), .int (birth), .ref q_248, .ref q_253, .int (0), .int (0), .int (0), .int (0), .long (0), .long (0), .long (0), .long (0), .int (0), .int (0), .long (0)]))) := hD
  generalize w_257.set k (h0, .inr (0, [.long (cents), .int (birth), .ref q_248, .ref q_253, .int (0), .int (0), .int (0), .int (0), .long (0), .long (0), .long (0), .long (0), .int (0), .int (0), .long (0)])) = w_258 at hP hD ho hn hk ha_251 ha_256
  refine lv_aload_n hx hb d_D_init_33 rfl (lv_at hl 0 rfl) ?_
  refine lv_iconst (v := -1) hx hb d_D_init_34 (by decide) ?_
  refine va_put (D := D) (ci := 0) (v := .int (-1)) (ty := .int) (C := R_D) (T := F_D) (N := 15) hx hb hts (in_D _) t_D to_D nn_D hown hK hP hD hS k ho rfl 6 (by decide) (hts (.fieldLink R_D 30 "DebtRows$Debt" "dueDay" "I") (List.mem_cons_of_mem _ mB_218)) (fun _ h9 => h9) rfl (by decide +kernel) rfl rfl (Nat.le_of_ble_eq_true rfl) d_D_init_35 (fun H locs hP hD hS => ?_)
  have ho : (w_258.set k (h0, .inr (0, [.long (cents), .int (birth), .ref q_248, .ref q_253, .int (0), .int (0), .int (-1), .int (0), .long (0), .long (0), .long (0), .long (0), .int (0), .int (0), .long (0)])))[k]? = some (h0, .inr (0, [.long (cents), .int (birth), .ref q_248, .ref q_253, .int (0), .int (0), .int (-1), .int (0), .long (0), .long (0), .long (0), .long (0), .int (0), .int (0), .long (0)])) := ws_s ho
  have ha_251 : (w_258.set k (h0, .inr (0, [.long (cents), .int (birth), .ref q_248, .ref q_253, .int (0), .int (0), .int (-1), .int (0), .long (0), .long (0), .long (0), .long (0), .int (0), .int (0), .long (0)])))[k + 1]? = some (q_248, aI cI 4 (fun _ => 0)) := by rw [ws_n (by omega)]; exact ha_251
  have ha_256 : (w_258.set k (h0, .inr (0, [.long (cents), .int (birth), .ref q_248, .ref q_253, .int (0), .int (0), .int (-1), .int (0), .long (0), .long (0), .long (0), .long (0), .int (0), .int (0), .long (0)])))[k + 2]? = some (q_253, aL cL 4 (fun _ => 0)) := by rw [ws_n (by omega)]; exact ha_256
  have hn : (w_258.set k (h0, .inr (0, [.long (cents), .int (birth), .ref q_248, .ref q_253, .int (0), .int (0), .int (-1), .int (0), .long (0), .long (0), .long (0), .long (0), .int (0), .int (0), .long (0)]))).length = k + 3 := by rw [List.length_set]; exact hn
  have hk : ∀ j, j < k → (w_258.set k (h0, .inr (0, [.long (cents), .int (birth), .ref q_248, .ref q_253, .int (0), .int (0), .int (-1), .int (0), .long (0), .long (0), .long (0), .long (0), .int (0), .int (0), .long (0)])))[j]? = w[j]? := fun j hj => (ws_n (by omega)).trans (hk j hj)
  have hP : va_P D vwCl (w_258.set k (h0, .inr (0, [.long (cents), .int (birth), .ref q_248, .ref q_253, .int (0), .int (0), .int (-1), .int (0), .long (0), .long (0), .long (0), .long (0), .int (0), .int (0), .long (0)]))) H := hP
  have hD : va_D A (w_258.set k (h0, .inr (0, [.long (cents), .int (birth), .ref q_248, .ref q_253, .int (0), .int (0), .int (-1), .int (0), .long (0), .long (0), .long (0), .long (0), .int (0), .int (0), .long (0)]))) := hD
  generalize w_258.set k (h0, .inr (0, [.long (cents), .int (birth), .ref q_248, .ref q_253, .int (0), .int (0), .int (-1), .int (0), .long (0), .long (0), .long (0), .long (0), .int (0), .int (0), .long (0)])) = w_259 at hP hD ho hn hk ha_251 ha_256
  refine lv_aload_n hx hb d_D_init_38 rfl (lv_at hl 0 rfl) ?_
  refine lv_lload_n hx hb d_D_init_39 rfl (lv_at hl 1 rfl) ?_
  refine va_put (D := D) (ci := 0) (v := .long (cents)) (ty := .long) (C := R_D) (T := F_D) (N := 15) hx hb hts (in_D _) t_D to_D nn_D hown hK hP hD hS k ho rfl 8 (by decide) (hts (.fieldLink R_D 33 "DebtRows$Debt" "open" "J") (List.mem_cons_of_mem _ mB_221)) (fun _ h9 => h9) rfl (by decide +kernel) rfl rfl (Nat.le_of_ble_eq_true rfl) d_D_init_40 (fun H locs hP hD hS => ?_)
  have ho : (w_259.set k (h0, .inr (0, [.long (cents), .int (birth), .ref q_248, .ref q_253, .int (0), .int (0), .int (-1), .int (0), .long (cents), .long (0), .long (0), .long (0), .int (0), .int (0), .long (0)])))[k]? = some (h0, .inr (0, [.long (cents), .int (birth), .ref q_248, .ref q_253, .int (0), .int (0), .int (-1), .int (0), .long (cents), .long (0), .long (0), .long (0), .int (0), .int (0), .long (0)])) := ws_s ho
  have ha_251 : (w_259.set k (h0, .inr (0, [.long (cents), .int (birth), .ref q_248, .ref q_253, .int (0), .int (0), .int (-1), .int (0), .long (cents), .long (0), .long (0), .long (0), .int (0), .int (0), .long (0)])))[k + 1]? = some (q_248, aI cI 4 (fun _ => 0)) := by rw [ws_n (by omega)]; exact ha_251
  have ha_256 : (w_259.set k (h0, .inr (0, [.long (cents), .int (birth), .ref q_248, .ref q_253, .int (0), .int (0), .int (-1), .int (0), .long (cents), .long (0), .long (0), .long (0), .int (0), .int (0), .long (0)])))[k + 2]? = some (q_253, aL cL 4 (fun _ => 0)) := by rw [ws_n (by omega)]; exact ha_256
  have hn : (w_259.set k (h0, .inr (0, [.long (cents), .int (birth), .ref q_248, .ref q_253, .int (0), .int (0), .int (-1), .int (0), .long (cents), .long (0), .long (0), .long (0), .int (0), .int (0), .long (0)]))).length = k + 3 := by rw [List.length_set]; exact hn
  have hk : ∀ j, j < k → (w_259.set k (h0, .inr (0, [.long (cents), .int (birth), .ref q_248, .ref q_253, .int (0), .int (0), .int (-1), .int (0), .long (cents), .long (0), .long (0), .long (0), .int (0), .int (0), .long (0)])))[j]? = w[j]? := fun j hj => (ws_n (by omega)).trans (hk j hj)
  have hP : va_P D vwCl (w_259.set k (h0, .inr (0, [.long (cents), .int (birth), .ref q_248, .ref q_253, .int (0), .int (0), .int (-1), .int (0), .long (cents), .long (0), .long (0), .long (0), .int (0), .int (0), .long (0)]))) H := hP
  have hD : va_D A (w_259.set k (h0, .inr (0, [.long (cents), .int (birth), .ref q_248, .ref q_253, .int (0), .int (0), .int (-1), .int (0), .long (cents), .long (0), .long (0), .long (0), .int (0), .int (0), .long (0)]))) := hD
  generalize w_259.set k (h0, .inr (0, [.long (cents), .int (birth), .ref q_248, .ref q_253, .int (0), .int (0), .int (-1), .int (0), .long (cents), .long (0), .long (0), .long (0), .int (0), .int (0), .long (0)])) = w_260 at hP hD ho hn hk ha_251 ha_256
  refine W.widen (k := 2) (n := 8) (Nat.le_of_ble_eq_true rfl) (Nat.le_of_ble_eq_true rfl) ?_
  exact W.vret hx hb hr (fun t ht hW => ⟨⟨(), rfl, trivial, w_260, q_248, q_253, by rw [ht]; exact hP, hD, ⟨ho, ha_251, ha_256⟩, hn, hk⟩, hS.F ht⟩) hS.2.2 d_D_init_43
abbrev rNew : RT := (0, fun _ => 0, fun _ => 0, fun _ => 0)
set_option maxHeartbeats 4000000 in
set_option maxRecDepth 100000 in
theorem c_Rinit (l : Launch) (D : va_G) (A : Nat → Prop) (w : va_W) (cI cL cD : ClassId) (k h0 : Nat)  (ho0 : w[k]? = some (h0, .inr (1, [.null, .null, .null, .int (0)]))) (hn0 : w.length = k + 1) : Met l y_S_init w_S_init ({ frames := 1, cells := 3, slots := 60, locals := 12 }) (aPc D w (tyL cI cL cD) A [.ref h0]) (va_Qv (fun _ : Unit => True) (fun (_ : Unit) t => ∃ (w9 : va_W) (fr up dn : Nat), va_P D vwCl w9 t.heap ∧ va_D A w9 ∧ rAt w9 k cI h0 fr up dn rNew ∧ w9.length = k + 4 ∧ ∀ j, j < k → w9[j]? = w[j]?) A) 3 60 A := by
  refine Met.ofW (cc := b_S_init) (maxL := 1) (ret := none) (by decide) rfl ?_
  intro p e s m args below meth c s₁ B hml hv
  obtain ⟨rfl, hP, hK, hD, hA⟩ := hv
  have hx := B.exec
  have hb := B.bytes
  have hr := B.returns
  have hts := atoms_spec (ws := w_S_init) B.pre
  have hown : s.vm.findClass R_S = some m.cls := findClass_of_methodNamed B.named
  have hlocks := B.notSynchronized
  have hin : meth.name = "<init>" := (name_of_methodNamed B.named B.method).1
  have hS : va_S A s.heap s.heap [] := va_S.rf
  have ho := ho0
  have hn := hn0
  have hk : ∀ j, j < k → w[j]? = w[j]? := fun _ _ => rfl
  have hl := lv_entry ([.ref h0]) (n := 1) (Nat.le_of_ble_eq_true rfl)
  rw [lg_entry_eq]
  generalize (lg_sl ([.ref h0]) ++ List.replicate (1 - (lg_sl ([.ref h0])).length) Slot.unset).toArray = ls at hl ⊢
  have hl : lv_has ls 1 [(0, .ref h0)] := hl
  refine lv_aload_n hx hb d_S_init_0 rfl (lv_at hl 0 rfl) ?_
  refine W.objInit hx hb hown (hts (.methodLink R_S 3 objectInit) (List.mem_cons_of_mem _ mB_40)) (hts (.instanceMethod objectInit) (List.mem_cons_of_mem _ mB_33)) (hts _ (List.mem_cons_of_mem _ mC_obj)) rfl (by rw [hml]; exact hl.1) rfl d_S_init_1 (Nat.le_of_ble_eq_true rfl) (Nat.le_of_ble_eq_true rfl) ?_
  refine W.eq (g2 := F0 m 4 ls []) rfl ?_
  refine lv_aload_n hx hb d_S_init_4 rfl (lv_at hl 0 rfl) ?_
  refine lv_bipush (v := 20) hx hb d_S_init_5 (by decide) ?_
  refine va_newa (atype := .int) (ty := .int) (n := 20) (N' := 20) (a0 := (20, .inl (fun _ => 0))) hx hb (hts (.arrayClass .int) (List.mem_cons_of_mem _ mB_51)) rfl hK hP hD hS hA (fun _ => rfl) (by decide) (by decide) (by decide) (Nat.le_of_ble_eq_true rfl) (Nat.le_of_ble_eq_true rfl) d_S_init_7 (fun q_261 cA_262 H hK1 hP hD hS => ?_)
  obtain rfl : cI = cA_262 := kI_eq hK hK1 0 3 rfl rfl
  have ho : ((w ++ [(q_261, aI cI 20 (fun _ => 0))] : va_W))[k]? = some (h0, .inr (1, [.null, .null, .null, .int (0)])) := ap_l ho
  have ha_264 : ((w ++ [(q_261, aI cI 20 (fun _ => 0))] : va_W))[k + 1]? = some (q_261, aI cI 20 (fun _ => 0)) := ap_r hn
  have hk : ∀ j, j < k → ((w ++ [(q_261, aI cI 20 (fun _ => 0))] : va_W))[j]? = w[j]? := fun j hj => (ap_k (by omega)).trans (hk j hj)
  have hn : ((w ++ [(q_261, aI cI 20 (fun _ => 0))] : va_W)).length = k + 2 := ap_n hn
  have hP : va_P D vwCl ((w ++ [(q_261, aI cI 20 (fun _ => 0))] : va_W)) H := hP
  have hD : va_D A ((w ++ [(q_261, aI cI 20 (fun _ => 0))] : va_W)) := hD
  generalize (w ++ [(q_261, aI cI 20 (fun _ => 0))] : va_W) = w_263 at hP hD ho hn hk ha_264
  refine va_putF (D := D) (ci := 1) (v := .ref q_261) (ty := (.array .int)) (C := R_S) (T := F_S) (N := 4) hx hb hts (in_S _) t_S to_S nn_S hown hK hP hD hS k ho rfl 0 (by decide) (hts (.fieldLink R_S 9 "DebtRows$Rates" "from" "[I") (List.mem_cons_of_mem _ mB_41)) (fun _ h9 => h9) rfl hin rfl (by decide +kernel) rfl rfl (Nat.le_of_ble_eq_true rfl) d_S_init_9 (fun H locs hP hD hS => ?_)
  have ho : (w_263.set k (h0, .inr (1, [.ref q_261, .null, .null, .int (0)])))[k]? = some (h0, .inr (1, [.ref q_261, .null, .null, .int (0)])) := ws_s ho
  have ha_264 : (w_263.set k (h0, .inr (1, [.ref q_261, .null, .null, .int (0)])))[k + 1]? = some (q_261, aI cI 20 (fun _ => 0)) := by rw [ws_n (by omega)]; exact ha_264
  have hn : (w_263.set k (h0, .inr (1, [.ref q_261, .null, .null, .int (0)]))).length = k + 2 := by rw [List.length_set]; exact hn
  have hk : ∀ j, j < k → (w_263.set k (h0, .inr (1, [.ref q_261, .null, .null, .int (0)])))[j]? = w[j]? := fun j hj => (ws_n (by omega)).trans (hk j hj)
  have hP : va_P D vwCl (w_263.set k (h0, .inr (1, [.ref q_261, .null, .null, .int (0)]))) H := hP
  have hD : va_D A (w_263.set k (h0, .inr (1, [.ref q_261, .null, .null, .int (0)]))) := hD
  generalize w_263.set k (h0, .inr (1, [.ref q_261, .null, .null, .int (0)])) = w_265 at hP hD ho hn hk ha_264
  refine lv_aload_n hx hb d_S_init_12 rfl (lv_at hl 0 rfl) ?_
  refine lv_bipush (v := 20) hx hb d_S_init_13 (by decide) ?_
  refine va_newa (atype := .int) (ty := .int) (n := 20) (N' := 20) (a0 := (20, .inl (fun _ => 0))) hx hb (hts (.arrayClass .int) (List.mem_cons_of_mem _ mB_51)) rfl hK hP hD hS hA (fun _ => rfl) (by decide) (by decide) (by decide) (Nat.le_of_ble_eq_true rfl) (Nat.le_of_ble_eq_true rfl) d_S_init_15 (fun q_266 cA_267 H hK1 hP hD hS => ?_)
  obtain rfl : cI = cA_267 := kI_eq hK hK1 0 3 rfl rfl
  have ho : ((w_265 ++ [(q_266, aI cI 20 (fun _ => 0))] : va_W))[k]? = some (h0, .inr (1, [.ref q_261, .null, .null, .int (0)])) := ap_l ho
  have ha_264 : ((w_265 ++ [(q_266, aI cI 20 (fun _ => 0))] : va_W))[k + 1]? = some (q_261, aI cI 20 (fun _ => 0)) := ap_l ha_264
  have ha_269 : ((w_265 ++ [(q_266, aI cI 20 (fun _ => 0))] : va_W))[k + 2]? = some (q_266, aI cI 20 (fun _ => 0)) := ap_r hn
  have hk : ∀ j, j < k → ((w_265 ++ [(q_266, aI cI 20 (fun _ => 0))] : va_W))[j]? = w[j]? := fun j hj => (ap_k (by omega)).trans (hk j hj)
  have hn : ((w_265 ++ [(q_266, aI cI 20 (fun _ => 0))] : va_W)).length = k + 3 := ap_n hn
  have hP : va_P D vwCl ((w_265 ++ [(q_266, aI cI 20 (fun _ => 0))] : va_W)) H := hP
  have hD : va_D A ((w_265 ++ [(q_266, aI cI 20 (fun _ => 0))] : va_W)) := hD
  generalize (w_265 ++ [(q_266, aI cI 20 (fun _ => 0))] : va_W) = w_268 at hP hD ho hn hk ha_264 ha_269
  refine va_putF (D := D) (ci := 1) (v := .ref q_266) (ty := (.array .int)) (C := R_S) (T := F_S) (N := 4) hx hb hts (in_S _) t_S to_S nn_S hown hK hP hD hS k ho rfl 1 (by decide) (hts (.fieldLink R_S 15 "DebtRows$Rates" "up" "[I") (List.mem_cons_of_mem _ mB_42)) (fun _ h9 => h9) rfl hin rfl (by decide +kernel) rfl rfl (Nat.le_of_ble_eq_true rfl) d_S_init_17 (fun H locs hP hD hS => ?_)
  have ho : (w_268.set k (h0, .inr (1, [.ref q_261, .ref q_266, .null, .int (0)])))[k]? = some (h0, .inr (1, [.ref q_261, .ref q_266, .null, .int (0)])) := ws_s ho
  have ha_264 : (w_268.set k (h0, .inr (1, [.ref q_261, .ref q_266, .null, .int (0)])))[k + 1]? = some (q_261, aI cI 20 (fun _ => 0)) := by rw [ws_n (by omega)]; exact ha_264
  have ha_269 : (w_268.set k (h0, .inr (1, [.ref q_261, .ref q_266, .null, .int (0)])))[k + 2]? = some (q_266, aI cI 20 (fun _ => 0)) := by rw [ws_n (by omega)]; exact ha_269
  have hn : (w_268.set k (h0, .inr (1, [.ref q_261, .ref q_266, .null, .int (0)]))).length = k + 3 := by rw [List.length_set]; exact hn
  have hk : ∀ j, j < k → (w_268.set k (h0, .inr (1, [.ref q_261, .ref q_266, .null, .int (0)])))[j]? = w[j]? := fun j hj => (ws_n (by omega)).trans (hk j hj)
  have hP : va_P D vwCl (w_268.set k (h0, .inr (1, [.ref q_261, .ref q_266, .null, .int (0)]))) H := hP
  have hD : va_D A (w_268.set k (h0, .inr (1, [.ref q_261, .ref q_266, .null, .int (0)]))) := hD
  generalize w_268.set k (h0, .inr (1, [.ref q_261, .ref q_266, .null, .int (0)])) = w_270 at hP hD ho hn hk ha_264 ha_269
  refine lv_aload_n hx hb d_S_init_20 rfl (lv_at hl 0 rfl) ?_
  refine lv_bipush (v := 20) hx hb d_S_init_21 (by decide) ?_
  refine va_newa (atype := .int) (ty := .int) (n := 20) (N' := 20) (a0 := (20, .inl (fun _ => 0))) hx hb (hts (.arrayClass .int) (List.mem_cons_of_mem _ mB_51)) rfl hK hP hD hS hA (fun _ => rfl) (by decide) (by decide) (by decide) (Nat.le_of_ble_eq_true rfl) (Nat.le_of_ble_eq_true rfl) d_S_init_23 (fun q_271 cA_272 H hK1 hP hD hS => ?_)
  obtain rfl : cI = cA_272 := kI_eq hK hK1 0 3 rfl rfl
  have ho : ((w_270 ++ [(q_271, aI cI 20 (fun _ => 0))] : va_W))[k]? = some (h0, .inr (1, [.ref q_261, .ref q_266, .null, .int (0)])) := ap_l ho
  have ha_264 : ((w_270 ++ [(q_271, aI cI 20 (fun _ => 0))] : va_W))[k + 1]? = some (q_261, aI cI 20 (fun _ => 0)) := ap_l ha_264
  have ha_269 : ((w_270 ++ [(q_271, aI cI 20 (fun _ => 0))] : va_W))[k + 2]? = some (q_266, aI cI 20 (fun _ => 0)) := ap_l ha_269
  have ha_274 : ((w_270 ++ [(q_271, aI cI 20 (fun _ => 0))] : va_W))[k + 3]? = some (q_271, aI cI 20 (fun _ => 0)) := ap_r hn
  have hk : ∀ j, j < k → ((w_270 ++ [(q_271, aI cI 20 (fun _ => 0))] : va_W))[j]? = w[j]? := fun j hj => (ap_k (by omega)).trans (hk j hj)
  have hn : ((w_270 ++ [(q_271, aI cI 20 (fun _ => 0))] : va_W)).length = k + 4 := ap_n hn
  have hP : va_P D vwCl ((w_270 ++ [(q_271, aI cI 20 (fun _ => 0))] : va_W)) H := hP
  have hD : va_D A ((w_270 ++ [(q_271, aI cI 20 (fun _ => 0))] : va_W)) := hD
  generalize (w_270 ++ [(q_271, aI cI 20 (fun _ => 0))] : va_W) = w_273 at hP hD ho hn hk ha_264 ha_269 ha_274
  refine va_putF (D := D) (ci := 1) (v := .ref q_271) (ty := (.array .int)) (C := R_S) (T := F_S) (N := 4) hx hb hts (in_S _) t_S to_S nn_S hown hK hP hD hS k ho rfl 2 (by decide) (hts (.fieldLink R_S 18 "DebtRows$Rates" "down" "[I") (List.mem_cons_of_mem _ mB_43)) (fun _ h9 => h9) rfl hin rfl (by decide +kernel) rfl rfl (Nat.le_of_ble_eq_true rfl) d_S_init_25 (fun H locs hP hD hS => ?_)
  have ho : (w_273.set k (h0, .inr (1, [.ref q_261, .ref q_266, .ref q_271, .int (0)])))[k]? = some (h0, .inr (1, [.ref q_261, .ref q_266, .ref q_271, .int (0)])) := ws_s ho
  have ha_264 : (w_273.set k (h0, .inr (1, [.ref q_261, .ref q_266, .ref q_271, .int (0)])))[k + 1]? = some (q_261, aI cI 20 (fun _ => 0)) := by rw [ws_n (by omega)]; exact ha_264
  have ha_269 : (w_273.set k (h0, .inr (1, [.ref q_261, .ref q_266, .ref q_271, .int (0)])))[k + 2]? = some (q_266, aI cI 20 (fun _ => 0)) := by rw [ws_n (by omega)]; exact ha_269
  have ha_274 : (w_273.set k (h0, .inr (1, [.ref q_261, .ref q_266, .ref q_271, .int (0)])))[k + 3]? = some (q_271, aI cI 20 (fun _ => 0)) := by rw [ws_n (by omega)]; exact ha_274
  have hn : (w_273.set k (h0, .inr (1, [.ref q_261, .ref q_266, .ref q_271, .int (0)]))).length = k + 4 := by rw [List.length_set]; exact hn
  have hk : ∀ j, j < k → (w_273.set k (h0, .inr (1, [.ref q_261, .ref q_266, .ref q_271, .int (0)])))[j]? = w[j]? := fun j hj => (ws_n (by omega)).trans (hk j hj)
  have hP : va_P D vwCl (w_273.set k (h0, .inr (1, [.ref q_261, .ref q_266, .ref q_271, .int (0)]))) H := hP
  have hD : va_D A (w_273.set k (h0, .inr (1, [.ref q_261, .ref q_266, .ref q_271, .int (0)]))) := hD
  generalize w_273.set k (h0, .inr (1, [.ref q_261, .ref q_266, .ref q_271, .int (0)])) = w_275 at hP hD ho hn hk ha_264 ha_269 ha_274
  refine lv_aload_n hx hb d_S_init_28 rfl (lv_at hl 0 rfl) ?_
  refine lv_iconst (v := 0) hx hb d_S_init_29 (by decide) ?_
  refine va_put (D := D) (ci := 1) (v := .int (0)) (ty := .int) (C := R_S) (T := F_S) (N := 4) hx hb hts (in_S _) t_S to_S nn_S hown hK hP hD hS k ho rfl 3 (by decide) (hts (.fieldLink R_S 21 "DebtRows$Rates" "count" "I") (List.mem_cons_of_mem _ mB_44)) (fun _ h9 => h9) rfl (by decide +kernel) rfl rfl (Nat.le_of_ble_eq_true rfl) d_S_init_30 (fun H locs hP hD hS => ?_)
  have ho : (w_275.set k (h0, .inr (1, [.ref q_261, .ref q_266, .ref q_271, .int (0)])))[k]? = some (h0, .inr (1, [.ref q_261, .ref q_266, .ref q_271, .int (0)])) := ws_s ho
  have ha_264 : (w_275.set k (h0, .inr (1, [.ref q_261, .ref q_266, .ref q_271, .int (0)])))[k + 1]? = some (q_261, aI cI 20 (fun _ => 0)) := by rw [ws_n (by omega)]; exact ha_264
  have ha_269 : (w_275.set k (h0, .inr (1, [.ref q_261, .ref q_266, .ref q_271, .int (0)])))[k + 2]? = some (q_266, aI cI 20 (fun _ => 0)) := by rw [ws_n (by omega)]; exact ha_269
  have ha_274 : (w_275.set k (h0, .inr (1, [.ref q_261, .ref q_266, .ref q_271, .int (0)])))[k + 3]? = some (q_271, aI cI 20 (fun _ => 0)) := by rw [ws_n (by omega)]; exact ha_274
  have hn : (w_275.set k (h0, .inr (1, [.ref q_261, .ref q_266, .ref q_271, .int (0)]))).length = k + 4 := by rw [List.length_set]; exact hn
  have hk : ∀ j, j < k → (w_275.set k (h0, .inr (1, [.ref q_261, .ref q_266, .ref q_271, .int (0)])))[j]? = w[j]? := fun j hj => (ws_n (by omega)).trans (hk j hj)
  have hP : va_P D vwCl (w_275.set k (h0, .inr (1, [.ref q_261, .ref q_266, .ref q_271, .int (0)]))) H := hP
  have hD : va_D A (w_275.set k (h0, .inr (1, [.ref q_261, .ref q_266, .ref q_271, .int (0)]))) := hD
  generalize w_275.set k (h0, .inr (1, [.ref q_261, .ref q_266, .ref q_271, .int (0)])) = w_276 at hP hD ho hn hk ha_264 ha_269 ha_274
  refine W.widen (k := 3) (n := 60) (Nat.le_of_ble_eq_true rfl) (Nat.le_of_ble_eq_true rfl) ?_
  exact W.vret hx hb hr (fun t ht hW => ⟨⟨(), rfl, trivial, w_276, q_261, q_266, q_271, by rw [ht]; exact hP, hD, ⟨ho, ha_264, ha_269, ha_274⟩, hn, hk⟩, hS.F ht⟩) hS.2.2 d_S_init_33
abbrev xNew : XT := (0, 0, rNew, fun _ => 0, fun _ => dNew 0 0)
theorem kQ_eq {D : va_G} {cl : List vw_C} {t1 t2 : List (ClassId × FieldType)} {U : State} {c1 c2 : ClassId} {C : String} (h1 : va_K D cl t1 U) (h2 : va_K D cl t2 U) (i j : Nat) (e1 : t1[i]? = some (c1, .object C)) (e2 : t2[j]? = some (c2, .object C)) : c1 = c2 := by
  obtain ⟨-, -, -, -, -, a⟩ := (h1.2 i _ e1).2
  obtain ⟨-, -, -, -, -, b⟩ := (h2.2 j _ e2).2
  exact Option.some.inj (a.symm.trans b)
set_option maxHeartbeats 4000000 in
set_option maxRecDepth 100000 in
theorem c_Xinit (l : Launch) (D : va_G) (A : Nat → Prop) (w : va_W) (cI cL cD : ClassId) (k h0 : Nat)  (ho0 : w[k]? = some (h0, .inr (2, [.null, .null, .null, .int (0), .int (0)]))) (hn0 : w.length = k + 1) : Met l y_X_init w_X_init ({ frames := 2, cells := 6, slots := 120, locals := 32 }) (oPc D w (tyL cI cL cD) A [.ref h0]) (va_Qv (fun _ : Unit => True) (fun (_ : Unit) t => ∃ w9 : va_W, va_P D vwCl w9 t.heap ∧ va_D A w9 ∧ cAt w9 k cI cL cD h0 xNew ∧ ∀ j, j < k → w9[j]? = w[j]?) A) 6 120 A := by
  refine Met.ofW (cc := b_X_init) (maxL := 1) (ret := none) (by decide) rfl ?_
  intro p e s m args below meth c s₁ B hml hv
  obtain ⟨rfl, hP, hK, hD, hA, hAO⟩ := hv
  have hx := B.exec
  have hb := B.bytes
  have hr := B.returns
  have hts := atoms_spec (ws := w_X_init) B.pre
  have hown : s.vm.findClass R_X = some m.cls := findClass_of_methodNamed B.named
  have hlocks := B.notSynchronized
  have hin : meth.name = "<init>" := (name_of_methodNamed B.named B.method).1
  have hS : va_S A s.heap s.heap [] := va_S.rf
  have ho := ho0
  have hn := hn0
  have hk : ∀ j, j < k → w[j]? = w[j]? := fun _ _ => rfl
  have hl := lv_entry ([.ref h0]) (n := 1) (Nat.le_of_ble_eq_true rfl)
  rw [lg_entry_eq]
  generalize (lg_sl ([.ref h0]) ++ List.replicate (1 - (lg_sl ([.ref h0])).length) Slot.unset).toArray = ls at hl ⊢
  have hl : lv_has ls 1 [(0, .ref h0)] := hl
  refine lv_aload_n hx hb d_X_init_0 rfl (lv_at hl 0 rfl) ?_
  refine W.objInit hx hb hown (hts (.methodLink R_X 1 objectInit) (List.mem_cons_of_mem _ mB_32)) (hts (.instanceMethod objectInit) (List.mem_cons_of_mem _ mB_33)) (hts _ (List.mem_cons_of_mem _ mC_obj)) rfl (by rw [hml]; exact hl.1) rfl d_X_init_1 (Nat.le_of_ble_eq_true rfl) (Nat.le_of_ble_eq_true rfl) ?_
  refine W.eq (g2 := F0 m 4 ls []) rfl ?_
  refine lv_aload_n hx hb d_X_init_4 rfl (lv_at hl 0 rfl) ?_
  refine va_new (ci := 1) (fs := [.null, .null, .null, .int 0]) (C := R_S) (T := F_S) (N := 4) hx hb hts (in_S _) t_S to_S hown (hts (.classLink R_X 7 R_S) (List.mem_cons_of_mem _ mB_35)) (hts (.instantiable R_S 4) (List.mem_cons_of_mem _ mB_36)) (hts (.initialized R_S) (List.mem_cons_of_mem _ mB_16)) hK hP hD hS hA rfl (fun j hj => by rcases (show j = 0 ∨ j = 1 ∨ j = 2 ∨ j = 3 by omega) with rfl | rfl | rfl | rfl <;> rfl) (Nat.le_of_ble_eq_true rfl) (Nat.le_of_ble_eq_true rfl) d_X_init_5 (fun q_277 H hP hD hS => ?_)
  have ho : ((w ++ [(q_277, .inr (1, [.null, .null, .null, .int 0]))] : va_W))[k]? = some (h0, .inr (2, [.null, .null, .null, .int (0), .int (0)])) := ap_l ho
  have ha_279 : ((w ++ [(q_277, .inr (1, [.null, .null, .null, .int 0]))] : va_W))[k + 1]? = some (q_277, .inr (1, [.null, .null, .null, .int 0])) := ap_r hn
  have hk : ∀ j, j < k → ((w ++ [(q_277, .inr (1, [.null, .null, .null, .int 0]))] : va_W))[j]? = w[j]? := fun j hj => (ap_k (by omega)).trans (hk j hj)
  have hn : ((w ++ [(q_277, .inr (1, [.null, .null, .null, .int 0]))] : va_W)).length = k + 2 := ap_n hn
  have hP : va_P D vwCl ((w ++ [(q_277, .inr (1, [.null, .null, .null, .int 0]))] : va_W)) H := hP
  have hD : va_D A ((w ++ [(q_277, .inr (1, [.null, .null, .null, .int 0]))] : va_W)) := hD
  generalize (w ++ [(q_277, .inr (1, [.null, .null, .null, .int 0]))] : va_W) = w_278 at hP hD ho hn hk ha_279
  refine lv_dup hx hb d_X_init_8 rfl ?_
  refine va_callv (va_runI (As := []) (rest := [.ref q_277, .ref h0]) ⟨hx, hb, hml, hown, hts⟩ (c_Rinit l D A w_278 cI cL cD (k + 1) q_277 ha_279 hn) (cwI 0 hts (gI _ mB_39) rfl rfl rfl (hts (.initialized R_S) (List.mem_cons_of_mem _ mB_16)) (hts (.methodLink R_X 9 y_S_init) (List.mem_cons_of_mem _ mB_37)) (hts (.instanceMethod y_S_init) (List.mem_cons_of_mem _ mB_38)) rfl (by decide +kernel) ⟨(Nat.le_of_ble_eq_true rfl), (Nat.le_of_ble_eq_true rfl)⟩) ⟨aPc_bl, aPc_pr hP hK hD (fun q h => hA q (Nat.le_trans hS.1 h))⟩ rfl rfl hl.1 rfl (lv_room (Nat.le_of_ble_eq_true rfl)) d_X_init_9 ⟨(Nat.le_of_ble_eq_true rfl), (Nat.le_of_ble_eq_true rfl)⟩) hS (fun _ _ h => h) (fun _ h => h) (fun u9 t H locs ht hvm e9 hB hz1 hk1 hS => ?_)
  obtain ⟨w_280, fr, up, dn, hP, hD, hR, hn, hk9⟩ := hB
  rw [ht] at hP
  have ho : w_280[k]? = some (h0, .inr (2, [.null, .null, .null, .int (0), .int (0)])) := by rw [hk9 k (by omega)]; exact ho
  have hk : ∀ j, j < k → w_280[j]? = w[j]? := fun j hj => (hk9 j (by omega)).trans (hk j hj)
  have hn : w_280.length = k + 5 := hn
  obtain ⟨hr0, hr1, hr2, hr3⟩ := hR
  refine va_putF (D := D) (ci := 2) (v := .ref q_277) (ty := (.object "DebtRows$Rates")) (C := R_X) (T := F_X) (N := 5) hx hb hts (in_X _) t_X to_X nn_X hown hK hP hD hS k ho rfl 0 (by decide) (hts (.fieldLink R_X 10 "DebtRows" "rates" "LDebtRows$Rates;") (List.mem_cons_of_mem _ mB_53)) (fun _ h9 => h9) rfl hin rfl (by decide +kernel) rfl rfl (Nat.le_of_ble_eq_true rfl) d_X_init_12 (fun H locs hP hD hS => ?_)
  have ho : (w_280.set k (h0, .inr (2, [.ref q_277, .null, .null, .int (0), .int (0)])))[k]? = some (h0, .inr (2, [.ref q_277, .null, .null, .int (0), .int (0)])) := ws_s ho
  have hr0 : (w_280.set k (h0, .inr (2, [.ref q_277, .null, .null, .int (0), .int (0)])))[k + 1]? = some (q_277, rE fr up dn rNew) := by rw [ws_n (by omega)]; exact hr0
  have hr1 : (w_280.set k (h0, .inr (2, [.ref q_277, .null, .null, .int (0), .int (0)])))[k + 1 + 1]? = some (fr, aI cI 20 (r_from rNew)) := by rw [ws_n (by omega)]; exact hr1
  have hr2 : (w_280.set k (h0, .inr (2, [.ref q_277, .null, .null, .int (0), .int (0)])))[k + 1 + 2]? = some (up, aI cI 20 (r_up rNew)) := by rw [ws_n (by omega)]; exact hr2
  have hr3 : (w_280.set k (h0, .inr (2, [.ref q_277, .null, .null, .int (0), .int (0)])))[k + 1 + 3]? = some (dn, aI cI 20 (r_down rNew)) := by rw [ws_n (by omega)]; exact hr3
  have hn : (w_280.set k (h0, .inr (2, [.ref q_277, .null, .null, .int (0), .int (0)]))).length = k + 5 := by rw [List.length_set]; exact hn
  have hk : ∀ j, j < k → (w_280.set k (h0, .inr (2, [.ref q_277, .null, .null, .int (0), .int (0)])))[j]? = w[j]? := fun j hj => (ws_n (by omega)).trans (hk j hj)
  have hP : va_P D vwCl (w_280.set k (h0, .inr (2, [.ref q_277, .null, .null, .int (0), .int (0)]))) H := hP
  have hD : va_D A (w_280.set k (h0, .inr (2, [.ref q_277, .null, .null, .int (0), .int (0)]))) := hD
  generalize w_280.set k (h0, .inr (2, [.ref q_277, .null, .null, .int (0), .int (0)])) = w_281 at hP hD ho hn hk hr0 hr1 hr2 hr3
  refine lv_aload_n hx hb d_X_init_15 rfl (lv_at hl 0 rfl) ?_
  refine lv_bipush (v := 40) hx hb d_X_init_16 (by decide) ?_
  refine va_newq (own := R_X) (index := 16) (C := "DebtRows$Debt") (n := 40) (N' := 40) hx hb hown (hts (.classLink R_X 16 R_D) (List.mem_cons_of_mem _ mB_52)) hAO hK hP hD hS hA (by decide) (by decide) (by decide) (Nat.le_of_ble_eq_true rfl) (Nat.le_of_ble_eq_true rfl) d_X_init_18 (fun q_282 cA_283 H hK1 hP hD hS => ?_)
  obtain rfl : cD = cA_283 := kQ_eq hK hK1 2 3 rfl rfl
  have ho : ((w_281 ++ [(q_282, aQ cD 40 (fun _ => none))] : va_W))[k]? = some (h0, .inr (2, [.ref q_277, .null, .null, .int (0), .int (0)])) := ap_l ho
  have hr0 : ((w_281 ++ [(q_282, aQ cD 40 (fun _ => none))] : va_W))[k + 1]? = some (q_277, rE fr up dn rNew) := ap_l hr0
  have hr1 : ((w_281 ++ [(q_282, aQ cD 40 (fun _ => none))] : va_W))[k + 1 + 1]? = some (fr, aI cI 20 (r_from rNew)) := ap_l hr1
  have hr2 : ((w_281 ++ [(q_282, aQ cD 40 (fun _ => none))] : va_W))[k + 1 + 2]? = some (up, aI cI 20 (r_up rNew)) := ap_l hr2
  have hr3 : ((w_281 ++ [(q_282, aQ cD 40 (fun _ => none))] : va_W))[k + 1 + 3]? = some (dn, aI cI 20 (r_down rNew)) := ap_l hr3
  have ha_285 : ((w_281 ++ [(q_282, aQ cD 40 (fun _ => none))] : va_W))[k + 5]? = some (q_282, aQ cD 40 (fun _ => none)) := ap_r hn
  have hk : ∀ j, j < k → ((w_281 ++ [(q_282, aQ cD 40 (fun _ => none))] : va_W))[j]? = w[j]? := fun j hj => (ap_k (by omega)).trans (hk j hj)
  have hn : ((w_281 ++ [(q_282, aQ cD 40 (fun _ => none))] : va_W)).length = k + 6 := ap_n hn
  have hP : va_P D vwCl ((w_281 ++ [(q_282, aQ cD 40 (fun _ => none))] : va_W)) H := hP
  have hD : va_D A ((w_281 ++ [(q_282, aQ cD 40 (fun _ => none))] : va_W)) := hD
  generalize (w_281 ++ [(q_282, aQ cD 40 (fun _ => none))] : va_W) = w_284 at hP hD ho hn hk hr0 hr1 hr2 hr3 ha_285
  refine va_putF (D := D) (ci := 2) (v := .ref q_282) (ty := (.array (.object "DebtRows$Debt"))) (C := R_X) (T := F_X) (N := 5) hx hb hts (in_X _) t_X to_X nn_X hown hK hP hD hS k ho rfl 1 (by decide) (hts (.fieldLink R_X 18 "DebtRows" "debts" "[LDebtRows$Debt;") (List.mem_cons_of_mem _ mB_54)) (fun _ h9 => h9) rfl hin rfl (by decide +kernel) rfl rfl (Nat.le_of_ble_eq_true rfl) d_X_init_21 (fun H locs hP hD hS => ?_)
  have ho : (w_284.set k (h0, .inr (2, [.ref q_277, .ref q_282, .null, .int (0), .int (0)])))[k]? = some (h0, .inr (2, [.ref q_277, .ref q_282, .null, .int (0), .int (0)])) := ws_s ho
  have hr0 : (w_284.set k (h0, .inr (2, [.ref q_277, .ref q_282, .null, .int (0), .int (0)])))[k + 1]? = some (q_277, rE fr up dn rNew) := by rw [ws_n (by omega)]; exact hr0
  have hr1 : (w_284.set k (h0, .inr (2, [.ref q_277, .ref q_282, .null, .int (0), .int (0)])))[k + 1 + 1]? = some (fr, aI cI 20 (r_from rNew)) := by rw [ws_n (by omega)]; exact hr1
  have hr2 : (w_284.set k (h0, .inr (2, [.ref q_277, .ref q_282, .null, .int (0), .int (0)])))[k + 1 + 2]? = some (up, aI cI 20 (r_up rNew)) := by rw [ws_n (by omega)]; exact hr2
  have hr3 : (w_284.set k (h0, .inr (2, [.ref q_277, .ref q_282, .null, .int (0), .int (0)])))[k + 1 + 3]? = some (dn, aI cI 20 (r_down rNew)) := by rw [ws_n (by omega)]; exact hr3
  have ha_285 : (w_284.set k (h0, .inr (2, [.ref q_277, .ref q_282, .null, .int (0), .int (0)])))[k + 5]? = some (q_282, aQ cD 40 (fun _ => none)) := by rw [ws_n (by omega)]; exact ha_285
  have hn : (w_284.set k (h0, .inr (2, [.ref q_277, .ref q_282, .null, .int (0), .int (0)]))).length = k + 6 := by rw [List.length_set]; exact hn
  have hk : ∀ j, j < k → (w_284.set k (h0, .inr (2, [.ref q_277, .ref q_282, .null, .int (0), .int (0)])))[j]? = w[j]? := fun j hj => (ws_n (by omega)).trans (hk j hj)
  have hP : va_P D vwCl (w_284.set k (h0, .inr (2, [.ref q_277, .ref q_282, .null, .int (0), .int (0)]))) H := hP
  have hD : va_D A (w_284.set k (h0, .inr (2, [.ref q_277, .ref q_282, .null, .int (0), .int (0)]))) := hD
  generalize w_284.set k (h0, .inr (2, [.ref q_277, .ref q_282, .null, .int (0), .int (0)])) = w_286 at hP hD ho hn hk hr0 hr1 hr2 hr3 ha_285
  refine lv_aload_n hx hb d_X_init_24 rfl (lv_at hl 0 rfl) ?_
  refine lv_bipush (v := 16) hx hb d_X_init_25 (by decide) ?_
  refine va_newa (atype := .long) (ty := .long) (n := 16) (N' := 16) (a0 := (16, .inr (.inl (fun _ => 0)))) hx hb (hts (.arrayClass .long) (List.mem_cons_of_mem _ mB_64)) rfl hK hP hD hS hA (fun _ => rfl) (by decide) (by decide) (by decide) (Nat.le_of_ble_eq_true rfl) (Nat.le_of_ble_eq_true rfl) d_X_init_27 (fun q_287 cA_288 H hK1 hP hD hS => ?_)
  obtain rfl : cL = cA_288 := kL_eq hK hK1 1 3 rfl rfl
  have ho : ((w_286 ++ [(q_287, aL cL 16 (fun _ => 0))] : va_W))[k]? = some (h0, .inr (2, [.ref q_277, .ref q_282, .null, .int (0), .int (0)])) := ap_l ho
  have hr0 : ((w_286 ++ [(q_287, aL cL 16 (fun _ => 0))] : va_W))[k + 1]? = some (q_277, rE fr up dn rNew) := ap_l hr0
  have hr1 : ((w_286 ++ [(q_287, aL cL 16 (fun _ => 0))] : va_W))[k + 1 + 1]? = some (fr, aI cI 20 (r_from rNew)) := ap_l hr1
  have hr2 : ((w_286 ++ [(q_287, aL cL 16 (fun _ => 0))] : va_W))[k + 1 + 2]? = some (up, aI cI 20 (r_up rNew)) := ap_l hr2
  have hr3 : ((w_286 ++ [(q_287, aL cL 16 (fun _ => 0))] : va_W))[k + 1 + 3]? = some (dn, aI cI 20 (r_down rNew)) := ap_l hr3
  have ha_285 : ((w_286 ++ [(q_287, aL cL 16 (fun _ => 0))] : va_W))[k + 5]? = some (q_282, aQ cD 40 (fun _ => none)) := ap_l ha_285
  have ha_290 : ((w_286 ++ [(q_287, aL cL 16 (fun _ => 0))] : va_W))[k + 6]? = some (q_287, aL cL 16 (fun _ => 0)) := ap_r hn
  have hk : ∀ j, j < k → ((w_286 ++ [(q_287, aL cL 16 (fun _ => 0))] : va_W))[j]? = w[j]? := fun j hj => (ap_k (by omega)).trans (hk j hj)
  have hn : ((w_286 ++ [(q_287, aL cL 16 (fun _ => 0))] : va_W)).length = k + 7 := ap_n hn
  have hP : va_P D vwCl ((w_286 ++ [(q_287, aL cL 16 (fun _ => 0))] : va_W)) H := hP
  have hD : va_D A ((w_286 ++ [(q_287, aL cL 16 (fun _ => 0))] : va_W)) := hD
  generalize (w_286 ++ [(q_287, aL cL 16 (fun _ => 0))] : va_W) = w_289 at hP hD ho hn hk hr0 hr1 hr2 hr3 ha_285 ha_290
  refine va_putF (D := D) (ci := 2) (v := .ref q_287) (ty := (.array .long)) (C := R_X) (T := F_X) (N := 5) hx hb hts (in_X _) t_X to_X nn_X hown hK hP hD hS k ho rfl 2 (by decide) (hts (.fieldLink R_X 22 "DebtRows" "credit" "[J") (List.mem_cons_of_mem _ mB_55)) (fun _ h9 => h9) rfl hin rfl (by decide +kernel) rfl rfl (Nat.le_of_ble_eq_true rfl) d_X_init_29 (fun H locs hP hD hS => ?_)
  have ho : (w_289.set k (h0, .inr (2, [.ref q_277, .ref q_282, .ref q_287, .int (0), .int (0)])))[k]? = some (h0, .inr (2, [.ref q_277, .ref q_282, .ref q_287, .int (0), .int (0)])) := ws_s ho
  have hr0 : (w_289.set k (h0, .inr (2, [.ref q_277, .ref q_282, .ref q_287, .int (0), .int (0)])))[k + 1]? = some (q_277, rE fr up dn rNew) := by rw [ws_n (by omega)]; exact hr0
  have hr1 : (w_289.set k (h0, .inr (2, [.ref q_277, .ref q_282, .ref q_287, .int (0), .int (0)])))[k + 1 + 1]? = some (fr, aI cI 20 (r_from rNew)) := by rw [ws_n (by omega)]; exact hr1
  have hr2 : (w_289.set k (h0, .inr (2, [.ref q_277, .ref q_282, .ref q_287, .int (0), .int (0)])))[k + 1 + 2]? = some (up, aI cI 20 (r_up rNew)) := by rw [ws_n (by omega)]; exact hr2
  have hr3 : (w_289.set k (h0, .inr (2, [.ref q_277, .ref q_282, .ref q_287, .int (0), .int (0)])))[k + 1 + 3]? = some (dn, aI cI 20 (r_down rNew)) := by rw [ws_n (by omega)]; exact hr3
  have ha_285 : (w_289.set k (h0, .inr (2, [.ref q_277, .ref q_282, .ref q_287, .int (0), .int (0)])))[k + 5]? = some (q_282, aQ cD 40 (fun _ => none)) := by rw [ws_n (by omega)]; exact ha_285
  have ha_290 : (w_289.set k (h0, .inr (2, [.ref q_277, .ref q_282, .ref q_287, .int (0), .int (0)])))[k + 6]? = some (q_287, aL cL 16 (fun _ => 0)) := by rw [ws_n (by omega)]; exact ha_290
  have hn : (w_289.set k (h0, .inr (2, [.ref q_277, .ref q_282, .ref q_287, .int (0), .int (0)]))).length = k + 7 := by rw [List.length_set]; exact hn
  have hk : ∀ j, j < k → (w_289.set k (h0, .inr (2, [.ref q_277, .ref q_282, .ref q_287, .int (0), .int (0)])))[j]? = w[j]? := fun j hj => (ws_n (by omega)).trans (hk j hj)
  have hP : va_P D vwCl (w_289.set k (h0, .inr (2, [.ref q_277, .ref q_282, .ref q_287, .int (0), .int (0)]))) H := hP
  have hD : va_D A (w_289.set k (h0, .inr (2, [.ref q_277, .ref q_282, .ref q_287, .int (0), .int (0)]))) := hD
  generalize w_289.set k (h0, .inr (2, [.ref q_277, .ref q_282, .ref q_287, .int (0), .int (0)])) = w_291 at hP hD ho hn hk hr0 hr1 hr2 hr3 ha_285 ha_290
  refine lv_aload_n hx hb d_X_init_32 rfl (lv_at hl 0 rfl) ?_
  refine lv_iconst (v := 0) hx hb d_X_init_33 (by decide) ?_
  refine va_put (D := D) (ci := 2) (v := .int (0)) (ty := .int) (C := R_X) (T := F_X) (N := 5) hx hb hts (in_X _) t_X to_X nn_X hown hK hP hD hS k ho rfl 3 (by decide) (hts (.fieldLink R_X 26 "DebtRows" "debtCount" "I") (List.mem_cons_of_mem _ mB_56)) (fun _ h9 => h9) rfl (by decide +kernel) rfl rfl (Nat.le_of_ble_eq_true rfl) d_X_init_34 (fun H locs hP hD hS => ?_)
  have ho : (w_291.set k (h0, .inr (2, [.ref q_277, .ref q_282, .ref q_287, .int (0), .int (0)])))[k]? = some (h0, .inr (2, [.ref q_277, .ref q_282, .ref q_287, .int (0), .int (0)])) := ws_s ho
  have hr0 : (w_291.set k (h0, .inr (2, [.ref q_277, .ref q_282, .ref q_287, .int (0), .int (0)])))[k + 1]? = some (q_277, rE fr up dn rNew) := by rw [ws_n (by omega)]; exact hr0
  have hr1 : (w_291.set k (h0, .inr (2, [.ref q_277, .ref q_282, .ref q_287, .int (0), .int (0)])))[k + 1 + 1]? = some (fr, aI cI 20 (r_from rNew)) := by rw [ws_n (by omega)]; exact hr1
  have hr2 : (w_291.set k (h0, .inr (2, [.ref q_277, .ref q_282, .ref q_287, .int (0), .int (0)])))[k + 1 + 2]? = some (up, aI cI 20 (r_up rNew)) := by rw [ws_n (by omega)]; exact hr2
  have hr3 : (w_291.set k (h0, .inr (2, [.ref q_277, .ref q_282, .ref q_287, .int (0), .int (0)])))[k + 1 + 3]? = some (dn, aI cI 20 (r_down rNew)) := by rw [ws_n (by omega)]; exact hr3
  have ha_285 : (w_291.set k (h0, .inr (2, [.ref q_277, .ref q_282, .ref q_287, .int (0), .int (0)])))[k + 5]? = some (q_282, aQ cD 40 (fun _ => none)) := by rw [ws_n (by omega)]; exact ha_285
  have ha_290 : (w_291.set k (h0, .inr (2, [.ref q_277, .ref q_282, .ref q_287, .int (0), .int (0)])))[k + 6]? = some (q_287, aL cL 16 (fun _ => 0)) := by rw [ws_n (by omega)]; exact ha_290
  have hn : (w_291.set k (h0, .inr (2, [.ref q_277, .ref q_282, .ref q_287, .int (0), .int (0)]))).length = k + 7 := by rw [List.length_set]; exact hn
  have hk : ∀ j, j < k → (w_291.set k (h0, .inr (2, [.ref q_277, .ref q_282, .ref q_287, .int (0), .int (0)])))[j]? = w[j]? := fun j hj => (ws_n (by omega)).trans (hk j hj)
  have hP : va_P D vwCl (w_291.set k (h0, .inr (2, [.ref q_277, .ref q_282, .ref q_287, .int (0), .int (0)]))) H := hP
  have hD : va_D A (w_291.set k (h0, .inr (2, [.ref q_277, .ref q_282, .ref q_287, .int (0), .int (0)]))) := hD
  generalize w_291.set k (h0, .inr (2, [.ref q_277, .ref q_282, .ref q_287, .int (0), .int (0)])) = w_292 at hP hD ho hn hk hr0 hr1 hr2 hr3 ha_285 ha_290
  refine lv_aload_n hx hb d_X_init_37 rfl (lv_at hl 0 rfl) ?_
  refine lv_iconst (v := 0) hx hb d_X_init_38 (by decide) ?_
  refine va_put (D := D) (ci := 2) (v := .int (0)) (ty := .int) (C := R_X) (T := F_X) (N := 5) hx hb hts (in_X _) t_X to_X nn_X hown hK hP hD hS k ho rfl 4 (by decide) (hts (.fieldLink R_X 30 "DebtRows" "today" "I") (List.mem_cons_of_mem _ mB_57)) (fun _ h9 => h9) rfl (by decide +kernel) rfl rfl (Nat.le_of_ble_eq_true rfl) d_X_init_39 (fun H locs hP hD hS => ?_)
  have ho : (w_292.set k (h0, .inr (2, [.ref q_277, .ref q_282, .ref q_287, .int (0), .int (0)])))[k]? = some (h0, .inr (2, [.ref q_277, .ref q_282, .ref q_287, .int (0), .int (0)])) := ws_s ho
  have hr0 : (w_292.set k (h0, .inr (2, [.ref q_277, .ref q_282, .ref q_287, .int (0), .int (0)])))[k + 1]? = some (q_277, rE fr up dn rNew) := by rw [ws_n (by omega)]; exact hr0
  have hr1 : (w_292.set k (h0, .inr (2, [.ref q_277, .ref q_282, .ref q_287, .int (0), .int (0)])))[k + 1 + 1]? = some (fr, aI cI 20 (r_from rNew)) := by rw [ws_n (by omega)]; exact hr1
  have hr2 : (w_292.set k (h0, .inr (2, [.ref q_277, .ref q_282, .ref q_287, .int (0), .int (0)])))[k + 1 + 2]? = some (up, aI cI 20 (r_up rNew)) := by rw [ws_n (by omega)]; exact hr2
  have hr3 : (w_292.set k (h0, .inr (2, [.ref q_277, .ref q_282, .ref q_287, .int (0), .int (0)])))[k + 1 + 3]? = some (dn, aI cI 20 (r_down rNew)) := by rw [ws_n (by omega)]; exact hr3
  have ha_285 : (w_292.set k (h0, .inr (2, [.ref q_277, .ref q_282, .ref q_287, .int (0), .int (0)])))[k + 5]? = some (q_282, aQ cD 40 (fun _ => none)) := by rw [ws_n (by omega)]; exact ha_285
  have ha_290 : (w_292.set k (h0, .inr (2, [.ref q_277, .ref q_282, .ref q_287, .int (0), .int (0)])))[k + 6]? = some (q_287, aL cL 16 (fun _ => 0)) := by rw [ws_n (by omega)]; exact ha_290
  have hn : (w_292.set k (h0, .inr (2, [.ref q_277, .ref q_282, .ref q_287, .int (0), .int (0)]))).length = k + 7 := by rw [List.length_set]; exact hn
  have hk : ∀ j, j < k → (w_292.set k (h0, .inr (2, [.ref q_277, .ref q_282, .ref q_287, .int (0), .int (0)])))[j]? = w[j]? := fun j hj => (ws_n (by omega)).trans (hk j hj)
  have hP : va_P D vwCl (w_292.set k (h0, .inr (2, [.ref q_277, .ref q_282, .ref q_287, .int (0), .int (0)]))) H := hP
  have hD : va_D A (w_292.set k (h0, .inr (2, [.ref q_277, .ref q_282, .ref q_287, .int (0), .int (0)]))) := hD
  generalize w_292.set k (h0, .inr (2, [.ref q_277, .ref q_282, .ref q_287, .int (0), .int (0)])) = w_293 at hP hD ho hn hk hr0 hr1 hr2 hr3 ha_285 ha_290
  refine W.widen (k := 6) (n := 120) (Nat.le_of_ble_eq_true rfl) (Nat.le_of_ble_eq_true rfl) ?_
  exact W.vret hx hb hr (fun t ht hW => ⟨⟨(), rfl, trivial, w_293, by rw [ht]; exact hP, hD, ⟨(h0, q_277, fr, up, dn, q_282, q_287, 0, fun _ => 0, fun _ => 0, fun _ => 0, fun _ => none), rfl, ⟨ho, ⟨hr0, hr1, hr2, hr3⟩, ha_285, ha_290⟩, ⟨Nat.zero_le _, rfl, hn, ⟨0, Nat.zero_le _, rfl⟩⟩, fun i hi => absurd hi (Nat.not_lt_zero i)⟩, hk⟩, hS.F ht⟩) hS.2.2 d_X_init_42
end
section
theorem cA.add {w w1 : va_W} {b : Nat} {cI cL cD : ClassId} {a : AD} {z : XT} {q hp hq : Nat} {d : DT} (h : cA w b cI cL cD a z) (hn : a_n a < 40) (hl : w1.length = b + 7 + 3 * a_n a + 3) (hk : ∀ j, j < b + 7 + 3 * a_n a → w1[j]? = w[j]?) (hd : dAt w1 (b + 7 + 3 * a_n a) cI cL q hp hq d) (hw : wfD d) :
    ∃ a2 : AD, a_x a2 = a_x a ∧ cA ((w1.set (b + 5) (a_ds a, aQ cD 40 (va_up (a_g a) (a_n a) (some q)))).set b (a_x a, xE (a_r0 a) (a_ds a) (a_cr a) (y_cnt z (x_cnt z + 1)))) b cI cL cD a2 (y_cnt (y_debt z (a_n a) d) (x_cnt z + 1)) := by
  obtain ⟨⟨h1, h2, h3, h4⟩, ⟨h5, h6, h7, h8⟩, h9⟩ := h
  refine ⟨(a_x a, a_r0 a, a_fr a, a_up a, a_dn a, a_ds a, a_cr a, a_n a + 1, va_up (a_da a) (a_n a) q, va_up (a_pa a) (a_n a) hp, va_up (a_qa a) (a_n a) hq, va_up (a_g a) (a_n a) (some q)), rfl, ⟨?_, ?_, ?_, ?_⟩, ⟨?_, ?_, ?_, h8⟩, ?_⟩
  · exact ws_s (x := (a_x a, xE (a_r0 a) (a_ds a) (a_cr a) z)) (by rw [ws_n (by omega), hk _ (by omega)]; exact h1)
  · exact h2.kx (fun j _ _ => by rw [ws_n (by omega), ws_n (by omega), hk _ (by omega)])
  · rw [ws_n (by omega)]
    exact ws_s (x := (a_ds a, aQ cD 40 (a_g a))) (by rw [hk _ (by omega)]; exact h3)
  · rw [ws_n (by omega), ws_n (by omega), hk _ (by omega)]; exact h4
  · show a_n a + 1 ≤ 40
    omega
  · show x_cnt z + 1 = nI (a_n a + 1)
    rw [h6, nI_1]
  · rw [List.length_set, List.length_set, hl]
    show _ = b + 7 + 3 * (a_n a + 1)
    omega
  · intro i hi
    have hi : i < a_n a + 1 := hi
    by_cases e : i = a_n a
    · subst e
      refine ⟨?_, ?_, ?_⟩
      · show va_up (a_g a) (a_n a) (some q) (a_n a) = some (va_up (a_da a) (a_n a) q (a_n a))
        rw [va_up_self, va_up_self]
      · show dAt _ (b + 7 + 3 * a_n a) cI cL (va_up (a_da a) (a_n a) q (a_n a)) (va_up (a_pa a) (a_n a) hp (a_n a)) (va_up (a_qa a) (a_n a) hq (a_n a)) (va_up (x_debts z) (a_n a) d (a_n a))
        rw [va_up_self, va_up_self, va_up_self, va_up_self]
        exact hd.kx (fun j _ _ => by rw [ws_n (by omega), ws_n (by omega)])
      · show wfD (va_up (x_debts z) (a_n a) d (a_n a))
        rw [va_up_self]; exact hw
    · have hi2 : i < a_n a := by omega
      obtain ⟨g1, g2, g3⟩ := h9 i hi2
      refine ⟨?_, ?_, ?_⟩
      · show va_up (a_g a) (a_n a) (some q) i = some (va_up (a_da a) (a_n a) q i)
        rw [va_up_ne _ _ e, va_up_ne _ _ e]; exact g1
      · show dAt _ (b + 7 + 3 * i) cI cL (va_up (a_da a) (a_n a) q i) (va_up (a_pa a) (a_n a) hp i) (va_up (a_qa a) (a_n a) hq i) (va_up (x_debts z) (a_n a) d i)
        rw [va_up_ne _ _ e, va_up_ne _ _ e, va_up_ne _ _ e, va_up_ne _ _ e]
        exact g2.kx (fun j _ _ => by rw [ws_n (by omega), ws_n (by omega), hk _ (by omega)])
      · show wfD (va_up (x_debts z) (a_n a) d i)
        rw [va_up_ne _ _ e]; exact g3
theorem cnt_lt {x : Int32} {n : Nat} (h : x < 40) (e : x = nI n) (hn : n ≤ 40) : n < 40 := by
  rcases Nat.lt_or_ge n 40 with q | q
  · exact q
  · exact absurd h (by rw [e]; exact nI_nlt q (by omega))

def f_debt (z : XT) (cents : Int64) (who : Int32) : Int32 × Int32 × XT :=
  if (f_isSum (cents)) = 0 then (1, 0, z)
  else if (f_isPerson (who)) = 0 then (1, 0, z)
    else if x_cnt z < 40 then (0, (x_cnt z + 1), y_cnt (y_debt z (x_cnt z).toNatClampNeg (f_join (dNew cents (x_today z)) (who)).2) (x_cnt z + 1))
      else (2, 0, z)
set_option maxHeartbeats 4000000 in
set_option maxRecDepth 100000 in
theorem c_debt (l : Launch) (hl9 : l.stackTraces = false) (D : va_G) (A : Nat → Prop) (w : va_W) (cI cL cD : ClassId) (b : Nat) (a : AD) (z : XT) (cents : Int64) (who : Int32) (hC0 : cA w b cI cL cD a z) : vx_Met l y_X_debt w_X_debt ({ frames := 6, cells := 3, slots := 23, locals := 90 }) (fPc D w (tyL cI cL cD) A [.ref (a_x a), .long (cents), .int (who)]) (va_Qi (fun z9 (_ : Unit) => (f_debt z cents who).1 = 0 ∧ z9 = (f_debt z cents who).2.1) (fun (_ : Unit) t => ∃ w9 : va_W, va_P D vwCl w9 t.heap ∧ va_D A w9 ∧ cAt w9 b cI cL cD (a_x a) ((f_debt z cents who).2.2) ∧ ∀ j, j < b → w9[j]? = w[j]?) A) (vx_X (fun _ : Unit => True) (fun E9 _ t => exN ["java/lang/IllegalArgumentException", "java/lang/IllegalStateException"] (f_debt z cents who).1 E9 ∧ va_P D vwCl w t.heap) A) 3 23 A := by
  refine vx_ofW (cc := b_X_debt) (maxL := 5) (ret := (some .int)) (by decide) rfl ?_
  intro p e s m args below meth c s₁ B hml hEx hv
  obtain ⟨rfl, hP, hK, hD, hE, hA⟩ := hv
  have hx := B.exec
  have hb := B.bytes
  have hr := B.returns
  have hts := atoms_spec (ws := w_X_debt) B.pre
  have hown : s.vm.findClass R_X = some m.cls := findClass_of_methodNamed B.named
  have hlocks := B.notSynchronized
  have hS : va_S A s.heap s.heap [] := va_S.rf
  have hC : cUpd w w b cI cL cD a z := cUpd.rf hC0
  have hl := lv_entry ([.ref (a_x a), .long (cents), .int (who)]) (n := 5) (Nat.le_of_ble_eq_true rfl)
  rw [lg_entry_eq]
  generalize (lg_sl ([.ref (a_x a), .long (cents), .int (who)]) ++ List.replicate (5 - (lg_sl ([.ref (a_x a), .long (cents), .int (who)])).length) Slot.unset).toArray = ls at hl ⊢
  have hl : lv_has ls 5 [(0, .ref (a_x a)), (1, .long (cents)), (3, .int (who))] := hl
  refine lv_lload_n hx hb d_X_debt_0 rfl (lv_at hl 1 rfl) ?_
  refine vp_callSi (W.runS (As := [.long (cents)]) (rest := []) ⟨hx, hb, hml, hown, hts⟩ (c_isSum l (cents)) (cwS 1 hts (gS _ mB_199 mB_200 mB_15 mB_201) rfl rfl rfl (by decide +kernel) ⟨(Nat.le_of_ble_eq_true rfl), (Nat.le_of_ble_eq_true rfl)⟩) ⟨fun _ _ _ _ q => q, fun U _ _ => ⟨rfl, trivial⟩⟩ rfl rfl hl.1 rfl (lv_room (Nat.le_of_ble_eq_true rfl)) d_X_debt_1 ⟨(Nat.le_of_ble_eq_true rfl), (Nat.le_of_ble_eq_true rfl)⟩) (fun v_294 ev_294 => ?_)
  subst ev_294
  refine lv_if_ne (tgt := 17) hx hb d_X_debt_4 (by decide) (fun c_295 => ?_) (fun c_295 => ?_)
  · refine lv_iload_n hx hb d_X_debt_17 rfl (lv_at hl 2 rfl) ?_
    refine vp_callSi (W.runS (As := [.int (who)]) (rest := []) ⟨hx, hb, hml, hown, hts⟩ (c_isPerson l (who)) (cwS 1 hts (gS _ mB_72 mB_73 mB_15 mB_74) rfl rfl rfl (by decide +kernel) ⟨(Nat.le_of_ble_eq_true rfl), (Nat.le_of_ble_eq_true rfl)⟩) ⟨fun _ _ _ _ q => q, fun U _ _ => ⟨rfl, trivial⟩⟩ rfl rfl hl.1 rfl (lv_room (Nat.le_of_ble_eq_true rfl)) d_X_debt_18 ⟨(Nat.le_of_ble_eq_true rfl), (Nat.le_of_ble_eq_true rfl)⟩) (fun v_296 ev_296 => ?_)
    subst ev_296
    refine lv_if_ne (tgt := 34) hx hb d_X_debt_21 (by decide) (fun c_297 => ?_) (fun c_297 => ?_)
    · refine lv_aload_n hx hb d_X_debt_34 rfl (lv_at hl 0 rfl) ?_
      refine va_get (D := D) (ci := 2) (v := .int (x_cnt z)) (C := R_X) (T := F_X) (N := 5) hx hb hts (in_X _) hown hK hP b hC.1.x rfl 3 (by decide) (hts (.fieldLink R_X 26 "DebtRows" "debtCount" "I") (List.mem_cons_of_mem _ mB_56)) (fun _ h9 => h9) rfl d_X_debt_35 ?_
      refine lv_bipush (v := 40) hx hb d_X_debt_38 (by decide) ?_
      refine lv_icmp_lt (tgt := 53) hx hb d_X_debt_40 (by decide) (fun c_298 => ?_) (fun c_298 => ?_)
      · refine va_new (ci := 0) (fs := [.long 0, .int 0, .null, .null, .int 0, .int 0, .int 0, .int 0, .long 0, .long 0, .long 0, .long 0, .int 0, .int 0, .long 0]) (C := R_D) (T := F_D) (N := 15) hx hb hts (in_D _) t_D to_D hown (hts (.classLink R_X 16 R_D) (List.mem_cons_of_mem _ mB_52)) (hts (.instantiable R_D 15) (List.mem_cons_of_mem _ mB_203)) (hts (.initialized R_D) (List.mem_cons_of_mem _ mB_24)) hK hP hD hS hA rfl (fun j hj => by rcases (show j = 0 ∨ j = 1 ∨ j = 2 ∨ j = 3 ∨ j = 4 ∨ j = 5 ∨ j = 6 ∨ j = 7 ∨ j = 8 ∨ j = 9 ∨ j = 10 ∨ j = 11 ∨ j = 12 ∨ j = 13 ∨ j = 14 by omega) with rfl | rfl | rfl | rfl | rfl | rfl | rfl | rfl | rfl | rfl | rfl | rfl | rfl | rfl | rfl <;> rfl) (Nat.le_of_ble_eq_true rfl) (Nat.le_of_ble_eq_true rfl) d_X_debt_53 (fun q_299 H hP hD hS => ?_)
        have hlt : a_n a < 40 := cnt_lt c_298 hC.1.en hC.1.n
        have hw0 : w.length = (b + 7 + 3 * a_n a) := hC.1.2.1.2.2.1
        have hq0 : ((w ++ [(q_299, .inr (0, [.long 0, .int 0, .null, .null, .int 0, .int 0, .int 0, .int 0, .long 0, .long 0, .long 0, .long 0, .int 0, .int 0, .long 0]))] : va_W))[(b + 7 + 3 * a_n a)]? = some (q_299, .inr (0, [.long 0, .int 0, .null, .null, .int 0, .int 0, .int 0, .int 0, .long 0, .long 0, .long 0, .long 0, .int 0, .int 0, .long 0])) := ap_r hw0
        have hold : ∀ j, j < (b + 7 + 3 * a_n a) → ((w ++ [(q_299, .inr (0, [.long 0, .int 0, .null, .null, .int 0, .int 0, .int 0, .int 0, .long 0, .long 0, .long 0, .long 0, .int 0, .int 0, .long 0]))] : va_W))[j]? = w[j]? := fun j hj => ap_k (by omega)
        have hlen : ((w ++ [(q_299, .inr (0, [.long 0, .int 0, .null, .null, .int 0, .int 0, .int 0, .int 0, .long 0, .long 0, .long 0, .long 0, .int 0, .int 0, .long 0]))] : va_W)).length = (b + 7 + 3 * a_n a) + 1 := ap_n hw0
        have hP : va_P D vwCl ((w ++ [(q_299, .inr (0, [.long 0, .int 0, .null, .null, .int 0, .int 0, .int 0, .int 0, .long 0, .long 0, .long 0, .long 0, .int 0, .int 0, .long 0]))] : va_W)) H := hP
        have hD : va_D A ((w ++ [(q_299, .inr (0, [.long 0, .int 0, .null, .null, .int 0, .int 0, .int 0, .int 0, .long 0, .long 0, .long 0, .long 0, .int 0, .int 0, .long 0]))] : va_W)) := hD
        generalize (w ++ [(q_299, .inr (0, [.long 0, .int 0, .null, .null, .int 0, .int 0, .int 0, .int 0, .long 0, .long 0, .long 0, .long 0, .int 0, .int 0, .long 0]))] : va_W) = w_300 at hP hD hq0 hold hlen
        refine lv_dup hx hb d_X_debt_56 rfl ?_
        refine lv_lload_n hx hb d_X_debt_57 rfl (lv_at hl 1 rfl) ?_
        refine lv_aload_n hx hb d_X_debt_58 rfl (lv_at hl 0 rfl) ?_
        refine va_get (D := D) (ci := 2) (v := .int (x_today z)) (C := R_X) (T := F_X) (N := 5) hx hb hts (in_X _) hown hK hP b (by rw [hold _ (by omega)]; exact hC.1.x) rfl 4 (by decide) (hts (.fieldLink R_X 30 "DebtRows" "today" "I") (List.mem_cons_of_mem _ mB_57)) (fun _ h9 => h9) rfl d_X_debt_59 ?_
        refine va_callv (va_runI (As := [.long (cents), .int (x_today z)]) (rest := [.ref q_299]) ⟨hx, hb, hml, hown, hts⟩ (c_Dinit l D A w_300 cI cL cD (b + 7 + 3 * a_n a) q_299 (cents) (x_today z) hq0 hlen) (cwI 2 hts (gI _ mB_206) rfl rfl rfl (hts (.initialized R_D) (List.mem_cons_of_mem _ mB_24)) (hts (.methodLink R_X 78 y_D_init) (List.mem_cons_of_mem _ mB_204)) (hts (.instanceMethod y_D_init) (List.mem_cons_of_mem _ mB_205)) rfl (by decide +kernel) ⟨(Nat.le_of_ble_eq_true rfl), (Nat.le_of_ble_eq_true rfl)⟩) ⟨aPc_bl, aPc_pr hP hK hD (fun q h => hA q (Nat.le_trans hS.1 h))⟩ rfl rfl hl.1 rfl (lv_room (Nat.le_of_ble_eq_true rfl)) d_X_debt_62 ⟨(Nat.le_of_ble_eq_true rfl), (Nat.le_of_ble_eq_true rfl)⟩) hS (fun _ _ h => h) (fun _ h => h) (fun u9 t H locs ht hvm e9 hB hz1 hk1 hS => ?_)
        obtain ⟨w_301, hp, hq, hP, hD, hdA, hlen, hk9⟩ := hB
        rw [ht] at hP
        have hold : ∀ j, j < (b + 7 + 3 * a_n a) → w_301[j]? = w[j]? := fun j hj => (hk9 j hj).trans (hold j hj)
        have hU : dUpd w_301 w_301 (b + 7 + 3 * a_n a) cI cL q_299 hp hq (dNew cents (x_today z)) := dUpd.rf hdA
        have hw : wfD (dNew cents (x_today z)) := ⟨⟨0, by omega, rfl⟩, ⟨0, by omega, rfl⟩⟩
        refine lv_astore (lv' := [(4, .ref q_299), (0, .ref (a_x a)), (1, .long (cents)), (3, .int (who))]) hx hb d_X_debt_65 hl (by decide) rfl (fun ls hl => ?_)
        refine lv_aload hx hb d_X_debt_67 (lv_at hl 0 rfl) ?_
        refine lv_iload_n hx hb d_X_debt_69 rfl (lv_at hl 3 rfl) ?_
        refine va_calli (va_runV (As := [.int (who)]) (rest := []) ⟨hx, hb, hml, hown, hts⟩ (c_join l D A w_301 cI cL cD (b + 7 + 3 * a_n a) q_299 hp hq (dNew cents (x_today z)) (who) hU.1 hw) (cwV 1 hts (gV _ mB_75 mB_76 mB_77 mB_24 mB_78) rfl rfl rfl (by decide +kernel) ⟨(Nat.le_of_ble_eq_true rfl), (Nat.le_of_ble_eq_true rfl)⟩) ⟨mPc_bl, va_recv hK hP (ci := 0) (q0 := (b + 7 + 3 * a_n a)) rfl hU.o, mPc_pr hP hK hD⟩ rfl rfl hl.1 rfl (lv_room (Nat.le_of_ble_eq_true rfl)) d_X_debt_70 ⟨(Nat.le_of_ble_eq_true rfl), (Nat.le_of_ble_eq_true rfl)⟩) hS (fun _ _ h => h) (fun _ h => h) (fun v_303 u9 t H locs ht hvm ev_303 hB hz1 hk1 hS => ?_)
        obtain ⟨w_302, hP, hD, hU1⟩ := hB
        rw [ht] at hP
        have hU := hU.tr hU1
        have hw : wfD (f_join (dNew cents (x_today z)) (who)).2 := wf_join hw
        refine lv_pop hx hb d_X_debt_73 rfl ?_
        refine lv_aload_n hx hb d_X_debt_74 rfl (lv_at hl 1 rfl) ?_
        refine va_get (D := D) (ci := 2) (v := .ref (a_ds a)) (C := R_X) (T := F_X) (N := 5) hx hb hts (in_X _) hown hK hP b (hU.out (by rw [hold _ (by omega)]; exact hC.1.x) (by omega)) rfl 1 (by decide) (hts (.fieldLink R_X 18 "DebtRows" "debts" "[LDebtRows$Debt;") (List.mem_cons_of_mem _ mB_54)) (fun _ h9 => h9) rfl d_X_debt_75 ?_
        refine lv_aload_n hx hb d_X_debt_78 rfl (lv_at hl 1 rfl) ?_
        refine va_get (D := D) (ci := 2) (v := .int (x_cnt z)) (C := R_X) (T := F_X) (N := 5) hx hb hts (in_X _) hown hK hP b (hU.out (by rw [hold _ (by omega)]; exact hC.1.x) (by omega)) rfl 3 (by decide) (hts (.fieldLink R_X 26 "DebtRows" "debtCount" "I") (List.mem_cons_of_mem _ mB_56)) (fun _ h9 => h9) rfl d_X_debt_79 ?_
        refine lv_aload hx hb d_X_debt_82 (lv_at hl 0 rfl) ?_
        refine va_astq hx hb hK hP hD hS (b + 5) 2 (b + 7 + 3 * a_n a) 0 (hU.out (by rw [hold _ (by omega)]; exact hC.1.ds) (by omega)) rfl hU.o rfl (show vp_in (x_cnt z) 40 from by rw [hC.1.en]; exact vp_in_nI hlt (by decide)) d_X_debt_84 (fun H locs hP hD hS => ?_)
        rw [hC.1.en, nI_clamp (by omega)] at hP hD
        have hP : va_P D vwCl (w_302.set (b + 5) (a_ds a, aQ cD 40 (va_up (a_g a) (a_n a) (some q_299)))) H := hP
        have hD : va_D A (w_302.set (b + 5) (a_ds a, aQ cD 40 (va_up (a_g a) (a_n a) (some q_299)))) := hD
        refine lv_aload_n hx hb d_X_debt_85 rfl (lv_at hl 1 rfl) ?_
        refine lv_dup hx hb d_X_debt_86 rfl ?_
        refine va_get (D := D) (ci := 2) (v := .int (x_cnt z)) (C := R_X) (T := F_X) (N := 5) hx hb hts (in_X _) hown hK hP b (by rw [ws_n (by omega)]; exact hU.out (by rw [hold _ (by omega)]; exact hC.1.x) (by omega)) rfl 3 (by decide) (hts (.fieldLink R_X 26 "DebtRows" "debtCount" "I") (List.mem_cons_of_mem _ mB_56)) (fun _ h9 => h9) rfl d_X_debt_87 ?_
        refine lv_iconst (v := 1) hx hb d_X_debt_90 (by decide) ?_
        refine lv_iadd hx hb d_X_debt_91 ?_
        refine va_put (D := D) (ci := 2) (v := .int ((x_cnt z + 1))) (ty := .int) (C := R_X) (T := F_X) (N := 5) hx hb hts (in_X _) t_X to_X nn_X hown hK hP hD hS b (by rw [ws_n (by omega)]; exact hU.out (by rw [hold _ (by omega)]; exact hC.1.x) (by omega)) rfl 3 (by decide) (hts (.fieldLink R_X 26 "DebtRows" "debtCount" "I") (List.mem_cons_of_mem _ mB_56)) (fun _ h9 => h9) rfl (by decide +kernel) rfl rfl (Nat.le_of_ble_eq_true rfl) d_X_debt_92 (fun H locs hP hD hS => ?_)
        have hP : va_P D vwCl ((w_302.set (b + 5) (a_ds a, aQ cD 40 (va_up (a_g a) (a_n a) (some q_299)))).set b (a_x a, xE (a_r0 a) (a_ds a) (a_cr a) (y_cnt z (x_cnt z + 1)))) H := hP
        have hD : va_D A ((w_302.set (b + 5) (a_ds a, aQ cD 40 (va_up (a_g a) (a_n a) (some q_299)))).set b (a_x a, xE (a_r0 a) (a_ds a) (a_cr a) (y_cnt z (x_cnt z + 1)))) := hD
        obtain ⟨a2, ea2, hC2⟩ := hC.1.add hlt (hU.2.1.trans hlen) (fun j hj => (hU.2.2 j (by omega)).trans (hold j hj)) hU.1 hw
        have hxx : ((w_302.set (b + 5) (a_ds a, aQ cD 40 (va_up (a_g a) (a_n a) (some q_299)))).set b (a_x a, xE (a_r0 a) (a_ds a) (a_cr a) (y_cnt z (x_cnt z + 1))))[b]? = some (a_x a, xE (a_r0 a) (a_ds a) (a_cr a) (y_cnt z (x_cnt z + 1))) := ws_s (x := (a_x a, xE (a_r0 a) (a_ds a) (a_cr a) z)) (by rw [ws_n (by omega)]; exact hU.out (by rw [hold _ (by omega)]; exact hC.1.x) (by omega))
        have hb9 : ∀ j, j < b → ((w_302.set (b + 5) (a_ds a, aQ cD 40 (va_up (a_g a) (a_n a) (some q_299)))).set b (a_x a, xE (a_r0 a) (a_ds a) (a_cr a) (y_cnt z (x_cnt z + 1))))[j]? = w[j]? := fun j hj => by rw [ws_n (by omega), ws_n (by omega), hU.2.2 j (by omega), hold j (by omega)]
        generalize (w_302.set (b + 5) (a_ds a, aQ cD 40 (va_up (a_g a) (a_n a) (some q_299)))).set b (a_x a, xE (a_r0 a) (a_ds a) (a_cr a) (y_cnt z (x_cnt z + 1))) = w_304 at hP hD hC2 hxx hb9
        refine lv_aload_n hx hb d_X_debt_95 rfl (lv_at hl 1 rfl) ?_
        refine va_get (D := D) (ci := 2) (v := .int ((x_cnt z + 1))) (C := R_X) (T := F_X) (N := 5) hx hb hts (in_X _) hown hK hP b hxx rfl 3 (by decide) (hts (.fieldLink R_X 26 "DebtRows" "debtCount" "I") (List.mem_cons_of_mem _ mB_56)) (fun _ h9 => h9) rfl d_X_debt_96 ?_
        refine vx_ret (W.widen (k := 3) (n := 23) (Nat.le_of_ble_eq_true rfl) (Nat.le_of_ble_eq_true rfl) ?_)
        exact W.iret (v := (x_cnt z + 1)) hx hb hr (fun t ht hW => ⟨⟨_, (), rfl, ⟨by rw [f_debt, if_neg c_295, if_neg c_297, if_pos c_298], by rw [f_debt, if_neg c_295, if_neg c_297, if_pos c_298]⟩, w_304, by rw [ht]; exact hP, hD, by rw [f_debt, if_neg c_295, if_neg c_297, if_pos c_298, show (x_cnt z).toNatClampNeg = a_n a from by rw [hC.1.en, nI_clamp (by omega)]]; exact ⟨a2, ea2, hC2⟩, hb9⟩, hS.F ht⟩) hS.2.2 d_X_debt_99
      · obtain ⟨sa9, hz9⟩ := hE.2.2.2 (76, "no more debts") (by decide)
        exact vx_throwS (own := R_X) (cls := "java/lang/IllegalStateException") (names := ["java/lang/RuntimeException", "java/lang/Exception"]) hx hb hl9 hown (by decide +kernel) (by decide +kernel) (hts (.classLink R_X 55 "java/lang/IllegalStateException") (List.mem_cons_of_mem _ mB_175)) (hts (.initialized "java/lang/IllegalStateException") (List.mem_cons_of_mem _ mB_23)) hz9 (vx_hat (B := badL) (fun w hw => hts w ((by decide +kernel : ∀ w ∈ (vx_atS R_X 59 "java/lang/IllegalStateException" ["java/lang/RuntimeException", "java/lang/Exception"]).filter goodWord, w ∈ w_X_debt) w hw)) (by decide +kernel) (fun w hw => bad_use hw (hE.2.2.1 w hw))) (by decide +kernel) hE.1 hE.2.1 hS (hl.1.trans hml.symm) d_X_debt_43 d_X_debt_46 d_X_debt_47 d_X_debt_49 d_X_debt_52 (fun x hx => (hEx x hx).elim) (Nat.le_of_ble_eq_true rfl) (Nat.le_of_ble_eq_true rfl) (Nat.le_of_ble_eq_true rfl) (Nat.le_of_ble_eq_true rfl) hlocks (fun t ha hsz hk => ⟨(), trivial, ⟨⟨1, rfl, by rw [f_debt, if_neg c_295, if_neg c_297, if_neg c_298]; rfl⟩, hP.kept (fun k q hq => hk q.1 (hP k q hq).lt)⟩, Nat.le_trans hS.1 hsz, fun q h1 h2 => (hk q (Nat.lt_of_lt_of_le h1 hS.1)).trans (hS.2.1 q h1 h2)⟩) hS.2.2 (Nat.le_of_ble_eq_true rfl) (Nat.le_of_ble_eq_true rfl)
    · obtain ⟨sa9, hz9⟩ := hE.2.2.2 (74, "no such person") (by decide)
      exact vx_throwS (own := R_X) (cls := "java/lang/IllegalArgumentException") (names := ["java/lang/RuntimeException", "java/lang/Exception"]) hx hb hl9 hown (by decide +kernel) (by decide +kernel) (hts (.classLink R_X 45 "java/lang/IllegalArgumentException") (List.mem_cons_of_mem _ mB_161)) (hts (.initialized "java/lang/IllegalArgumentException") (List.mem_cons_of_mem _ mB_22)) hz9 (vx_hat (B := badL) (fun w hw => hts w ((by decide +kernel : ∀ w ∈ (vx_atS R_X 49 "java/lang/IllegalArgumentException" ["java/lang/RuntimeException", "java/lang/Exception"]).filter goodWord, w ∈ w_X_debt) w hw)) (by decide +kernel) (fun w hw => bad_use hw (hE.2.2.1 w hw))) (by decide +kernel) hE.1 hE.2.1 hS (hl.1.trans hml.symm) d_X_debt_24 d_X_debt_27 d_X_debt_28 d_X_debt_30 d_X_debt_33 (fun x hx => (hEx x hx).elim) (Nat.le_of_ble_eq_true rfl) (Nat.le_of_ble_eq_true rfl) (Nat.le_of_ble_eq_true rfl) (Nat.le_of_ble_eq_true rfl) hlocks (fun t ha hsz hk => ⟨(), trivial, ⟨⟨0, rfl, by rw [f_debt, if_neg c_295, if_pos c_297]; rfl⟩, hP.kept (fun k q hq => hk q.1 (hP k q hq).lt)⟩, Nat.le_trans hS.1 hsz, fun q h1 h2 => (hk q (Nat.lt_of_lt_of_le h1 hS.1)).trans (hS.2.1 q h1 h2)⟩) hS.2.2 (Nat.le_of_ble_eq_true rfl) (Nat.le_of_ble_eq_true rfl)
  · obtain ⟨sa9, hz9⟩ := hE.2.2.2 (68, "no such sum") (by decide)
    exact vx_throwS (own := R_X) (cls := "java/lang/IllegalArgumentException") (names := ["java/lang/RuntimeException", "java/lang/Exception"]) hx hb hl9 hown (by decide +kernel) (by decide +kernel) (hts (.classLink R_X 45 "java/lang/IllegalArgumentException") (List.mem_cons_of_mem _ mB_161)) (hts (.initialized "java/lang/IllegalArgumentException") (List.mem_cons_of_mem _ mB_22)) hz9 (vx_hat (B := badL) (fun w hw => hts w ((by decide +kernel : ∀ w ∈ (vx_atS R_X 49 "java/lang/IllegalArgumentException" ["java/lang/RuntimeException", "java/lang/Exception"]).filter goodWord, w ∈ w_X_debt) w hw)) (by decide +kernel) (fun w hw => bad_use hw (hE.2.2.1 w hw))) (by decide +kernel) hE.1 hE.2.1 hS (hl.1.trans hml.symm) d_X_debt_7 d_X_debt_10 d_X_debt_11 d_X_debt_13 d_X_debt_16 (fun x hx => (hEx x hx).elim) (Nat.le_of_ble_eq_true rfl) (Nat.le_of_ble_eq_true rfl) (Nat.le_of_ble_eq_true rfl) (Nat.le_of_ble_eq_true rfl) hlocks (fun t ha hsz hk => ⟨(), trivial, ⟨⟨0, rfl, by rw [f_debt, if_pos c_295]; rfl⟩, hP.kept (fun k q hq => hk q.1 (hP k q hq).lt)⟩, Nat.le_trans hS.1 hsz, fun q h1 h2 => (hk q (Nat.lt_of_lt_of_le h1 hS.1)).trans (hS.2.1 q h1 h2)⟩) hS.2.2 (Nat.le_of_ble_eq_true rfl) (Nat.le_of_ble_eq_true rfl)
end
