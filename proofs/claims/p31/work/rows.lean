section
-- ===== PART A: goes FIRST, ahead of the names: the tables' words, and 'selects' of the private methods out of them =====
/-- a private method of a class that the tables say can be made, by its rows of tables_1 -/
def lw_okq (q : MethodName × Nat) : Prop := (q.1.cls ≠ "java/lang/invoke/MethodHandle" ∧ q.1.cls ≠ "java/lang/invoke/VarHandle") ∧ Cond.instantiable q.1.cls q.2 ∈ tables_1 ∧ Cond.privateMethod q.1 ∈ tables_1 ∧ Cond.instanceMethod q.1 ∈ tables_1
theorem lw_p0 : lw_okq (⟨"java/lang/Throwable", "fillInStackTrace", "(I)Ljava/lang/Throwable;"⟩, 6) := ⟨⟨by decide +kernel, by decide +kernel⟩, List.mem_of_getElem? (i := 332) (by decide +kernel), List.mem_of_getElem? (i := 330) (by decide +kernel), List.mem_of_getElem? (i := 331) (by decide +kernel)⟩
theorem lw_p1 : lw_okq (⟨"Phaselock", "passTick", "()V"⟩, 10) := ⟨⟨by decide +kernel, by decide +kernel⟩, List.mem_of_getElem? (i := 21) (by decide +kernel), List.mem_of_getElem? (i := 378) (by decide +kernel), List.mem_of_getElem? (i := 379) (by decide +kernel)⟩
theorem lw_p2 : lw_okq (⟨"Phaselock$Transmitter", "drawDeviation", "()I"⟩, 7) := ⟨⟨by decide +kernel, by decide +kernel⟩, List.mem_of_getElem? (i := 29) (by decide +kernel), List.mem_of_getElem? (i := 386) (by decide +kernel), List.mem_of_getElem? (i := 387) (by decide +kernel)⟩
theorem lw_p3 : lw_okq (⟨"Phaselock$Transmitter", "sendNextBit", "()V"⟩, 7) := ⟨⟨by decide +kernel, by decide +kernel⟩, List.mem_of_getElem? (i := 29) (by decide +kernel), List.mem_of_getElem? (i := 395) (by decide +kernel), List.mem_of_getElem? (i := 396) (by decide +kernel)⟩
theorem lw_p4 : lw_okq (⟨"Phaselock$Transmitter", "shiftRegister", "()I"⟩, 7) := ⟨⟨by decide +kernel, by decide +kernel⟩, List.mem_of_getElem? (i := 29) (by decide +kernel), List.mem_of_getElem? (i := 399) (by decide +kernel), List.mem_of_getElem? (i := 400) (by decide +kernel)⟩
theorem lw_p5 : lw_okq (⟨"Phaselock$Oscillator", "hasPassed", "(II)Z"⟩, 1) := ⟨⟨by decide +kernel, by decide +kernel⟩, List.mem_of_getElem? (i := 89) (by decide +kernel), List.mem_of_getElem? (i := 429) (by decide +kernel), List.mem_of_getElem? (i := 430) (by decide +kernel)⟩
theorem lw_p6 : lw_okq (⟨"Phaselock", "actOnStrobe", "(I)V"⟩, 10) := ⟨⟨by decide +kernel, by decide +kernel⟩, List.mem_of_getElem? (i := 21) (by decide +kernel), List.mem_of_getElem? (i := 434) (by decide +kernel), List.mem_of_getElem? (i := 435) (by decide +kernel)⟩
theorem lw_p7 : lw_okq (⟨"Phaselock", "actOnDataStrobe", "()V"⟩, 10) := ⟨⟨by decide +kernel, by decide +kernel⟩, List.mem_of_getElem? (i := 21) (by decide +kernel), List.mem_of_getElem? (i := 480) (by decide +kernel), List.mem_of_getElem? (i := 481) (by decide +kernel)⟩
theorem lw_p8 : lw_okq (⟨"Phaselock$PhaseDetector", "measureBangBang", "(ILPhaselock$BitLog;)I"⟩, 7) := ⟨⟨by decide +kernel, by decide +kernel⟩, List.mem_of_getElem? (i := 100) (by decide +kernel), List.mem_of_getElem? (i := 488) (by decide +kernel), List.mem_of_getElem? (i := 489) (by decide +kernel)⟩
theorem lw_p9 : lw_okq (⟨"Phaselock$Aligner", "verify", "(Z)V"⟩, 6) := ⟨⟨by decide +kernel, by decide +kernel⟩, List.mem_of_getElem? (i := 214) (by decide +kernel), List.mem_of_getElem? (i := 522) (by decide +kernel), List.mem_of_getElem? (i := 523) (by decide +kernel)⟩
theorem lw_p10 : lw_okq (⟨"Phaselock$Aligner", "watchSync", "(Z)V"⟩, 6) := ⟨⟨by decide +kernel, by decide +kernel⟩, List.mem_of_getElem? (i := 214) (by decide +kernel), List.mem_of_getElem? (i := 526) (by decide +kernel), List.mem_of_getElem? (i := 527) (by decide +kernel)⟩
def lw_privs_1 : List (MethodName × Nat) := [(⟨"java/lang/Throwable", "fillInStackTrace", "(I)Ljava/lang/Throwable;"⟩, 6), (⟨"Phaselock", "passTick", "()V"⟩, 10), (⟨"Phaselock$Transmitter", "drawDeviation", "()I"⟩, 7), (⟨"Phaselock$Transmitter", "sendNextBit", "()V"⟩, 7), (⟨"Phaselock$Transmitter", "shiftRegister", "()I"⟩, 7), (⟨"Phaselock$Oscillator", "hasPassed", "(II)Z"⟩, 1), (⟨"Phaselock", "actOnStrobe", "(I)V"⟩, 10), (⟨"Phaselock", "actOnDataStrobe", "()V"⟩, 10), (⟨"Phaselock$PhaseDetector", "measureBangBang", "(ILPhaselock$BitLog;)I"⟩, 7), (⟨"Phaselock$Aligner", "verify", "(Z)V"⟩, 6), (⟨"Phaselock$Aligner", "watchSync", "(Z)V"⟩, 6)]
theorem lw_r1 : ∀ q ∈ lw_privs_1, lw_okq q := List.forall_mem_cons.mpr ⟨lw_p0, List.forall_mem_cons.mpr ⟨lw_p1, List.forall_mem_cons.mpr ⟨lw_p2, List.forall_mem_cons.mpr ⟨lw_p3, List.forall_mem_cons.mpr ⟨lw_p4, List.forall_mem_cons.mpr ⟨lw_p5, List.forall_mem_cons.mpr ⟨lw_p6, List.forall_mem_cons.mpr ⟨lw_p7, List.forall_mem_cons.mpr ⟨lw_p8, List.forall_mem_cons.mpr ⟨lw_p9, List.forall_mem_cons.mpr ⟨lw_p10, fun _ h => absurd h List.not_mem_nil⟩⟩⟩⟩⟩⟩⟩⟩⟩⟩⟩
def lw_privs : List (MethodName × Nat) := lw_privs_1
def lw_tbl : List Cond := k2_sels lw_privs ++ tables_1
theorem lw_privs_ok : ∀ q ∈ lw_privs, lw_okq q := lw_r1
-- ===== end of PART A; then your names; then what follows =====
end
section
/-! ===== BEGIN words of one list among another's, by their places ===== -/
theorem goodIn_r {big : List Cond} (ws : List Cond) (ps : List Nat) (hp : ws = ps.filterMap (fun i => big[i]?)) (h : ws.all goodWord = true) : GoodIn big ws := by
  intro w hw
  have h1 := List.all_eq_true.mp h w hw
  rw [hp] at hw
  obtain ⟨i, -, hi⟩ := List.mem_filterMap.mp hw
  have hm : w ∈ big := by first | exact List.mem_of_getElem? hi | exact List.getElem?_mem hi
  exact ⟨hm, good_of_word h1⟩
theorem goodIn_app {big a b : List Cond} (ha : GoodIn big a) (hb : GoodIn big b) : GoodIn big (a ++ b) := fun w h => (List.mem_append.mp h).elim (ha w) (hb w)
theorem goodIn_ca {big a b : List Cond} {c : Cond} (ha : GoodIn big (c :: a)) (hb : GoodIn big b) : GoodIn big (c :: (a ++ b)) := fun w h => (List.mem_cons.mp h).elim (fun e => ha w (List.mem_cons.mpr (Or.inl e))) (fun h => (List.mem_append.mp h).elim (fun h => ha w (List.mem_cons.mpr (Or.inr h))) (hb w))
theorem goodIn_sub {big ws : List Cond} (hm : ∀ w ∈ ws, w ∈ big) (h : ws.all goodWord = true) : GoodIn big ws := fun w hw => ⟨hm w hw, good_of_word (List.all_eq_true.mp h w hw)⟩
/-! ===== END ===== -/

/-! ===== BEGIN exceptions that leave a method, and their catching by the caller (launches without stack traces) ===== -/
section VXA
/-! The laws vx_back, vx_callV, vx_callS, vx_callSW, vx_throw0, vx_throwS follow proofs of the library, with one case more: JvmDerived/Free/Laws.lean (Back.of_free), Shelf42/LK1.lean (callV, callS), Shelf/KitTraced.lean (throwNew0V, throwNewS). -/
/-- where a method has thrown q: the class by its name, the cell, what was written, the world -/
def vx_T (XC : String → State → State → Prop) (st : State) (q : Addr) (t : State) (mc ms : Nat) (free : Addr → Prop) : Prop :=
  ∃ (E : String) (ce : Cell) (L : List Loc), XC E st t ∧ t.heap[q]? = some ce ∧ ce.vm = .none ∧ st.vm.findClass E = some ce.cls ∧ st.WarmedH t.vm ∧ st.sameButNew ({ t with vm := st.vm } : State) L mc ms ∧ ∀ z ∈ L, free z.base
def vx_Q (Qc : Array Value → State → Outcome → State → Prop) (XC : String → State → State → Prop) (mc ms : Nat) (free : Addr → Prop) : Array Value → State → Outcome → State → Prop := fun a st o t =>
  (Qc a st o t ∧ ∃ L, FrameEnd st o t L mc ms ∧ ∀ q ∈ L, free q.base) ∨ ∃ q, o = .threw q ∧ vx_T XC st q t mc ms free
/-- a callee that returns or throws -/
def vx_Met (l : Launch) (y : MethodName) (ws : List Cond) (rm : Room) (Pc : Array Value → State → Prop) (Qc : Array Value → State → Outcome → State → Prop) (XC : String → State → State → Prop) (mc ms : Nat) (free : Addr → Prop) : Prop :=
  MetFree l y (headSpec ws rm) Pc (fun _ _ _ _ _ => True) (vx_Q Qc XC mc ms free)
def vx_Post (XC : String → State → State → Prop) (mc ms : Nat) (free : Addr → Prop) : Pt → Array Value → Addr → Pt → Prop := fun A a q B =>
  ∃ (g : JFrame) (mk : MethodId) (t : State) (L : List Loc) (E : String) (ce : Cell), B.U.heap = t.heap ∧ B.U.vm = t.vm ∧ XC E (A.U.calling g mk a) t ∧ t.heap[q]? = some ce ∧ ce.vm = .none ∧ A.U.vm.findClass E = some ce.cls ∧ B.locs = A.locs ++ L ∧ (∀ z ∈ L, free z.base) ∧ B.cells = A.cells + mc ∧ B.slots = A.slots + ms
def vx_Back (l : Launch) (R : Room) (p : Program) (e : Env) (below : List Frame) (s : State) (sargs : Array Value) (y : MethodName) (len W9 : Nat)
    (Pre : Pt → Array Value → Prop) (Post : Pt → Array Value → Option Value → Pt → Prop) (PostX : Pt → Array Value → Addr → Pt → Prop) : Prop :=
  ∀ (m : MethodId) (meth : Method) (c : Code) (A : Pt) (g : JFrame) (ig : Instr) (mk : MethodId) (a : Array Value),
    Stand p l e R s m sargs below meth c A.U A.locs A.cells A.slots → g.method = m → g.locals.size = c.maxLocals → decode c.code g.pc = .ok (ig, len) →
    2 * g.monitorRoom + (g.stack.map fun v => v.category).sum ≤ W9 → A.U.methodNamed? y = some mk → Pre A a →
    (∃ (v : Option Value) (B : Pt), Stand p l e R s m sargs below meth c B.U B.locs B.cells B.slots ∧ Post A a v B ∧
      Steps p.tables e below (doInvoke e (A.U.setTop g) [] mk a).1 (B.U.setTop { g with pc := g.pc + len, stack := v.toList ++ g.stack })) ∨
    (∃ (q : Addr) (B : Pt), Stand p l e R s m sargs below meth c B.U B.locs B.cells B.slots ∧ PostX A a q B ∧
      Steps p.tables e below (doInvoke e (A.U.setTop g) [] mk a).1 ((B.U.setTop g).pushFrame (.throwing q)))
section Payer
variable {l : Launch} {R : Room} {p : Program} {e : Env} {below : List Frame} {s : State} {sargs : Array Value} {y : MethodName} {len W9 : Nat}
theorem vx_back {ws : List Cond} {rm : Room} {Pc : Array Value → State → Prop} {Qc : Array Value → State → Outcome → State → Prop} {XC : String → State → State → Prop} {mc ms : Nat} {free : Addr → Prop} {bytes : ByteArray} {maxL : Nat} {ret : Option FieldType}
    (hM : vx_Met l y ws rm Pc Qc XC mc ms free) (hblind : FrameBlind Pc) (hrc : rm.cells = mc) (hrs : rm.slots = ms)
    (hframes : rm.frames + 1 ≤ R.frames) (hlocals : W9 + (maxL + 11) + rm.locals ≤ R.locals)
    (hws : ∀ w ∈ ws, ∀ a' U, s.WarmedH U.vm → w.before a' U = true) (hcode : Cond.code y bytes maxL ret ∈ ws) (hinit : ∀ a' U, s.WarmedH U.vm → (Cond.initialized y.cls).before a' U = true) :
    vx_Back l R p e below s sargs y len W9 (PreOf R mc ms Pc) (PostOf Qc mc ms free) (vx_Post XC mc ms free) := by
  intro m meth c A g ig mk a X hg hsize hdg hW hn hp
  have h1 : (headSpec ws rm).pre.before a A.U = true := atoms_intro fun w hw => hws w hw _ _ X.warmed
  have h2 : (Cond.code y bytes maxL ret).before a A.U = true := hws _ hcode _ _ X.warmed
  have h3 : (Cond.initialized y.cls).before a A.U = true := hinit _ _ X.warmed
  have h4 : A.cells + (headSpec ws rm).room.cells ≤ R.cells := by rw [show (headSpec ws rm).room.cells = mc from hrc]; exact hp.1
  have h5 : A.slots + (headSpec ws rm).room.slots ≤ R.slots := by rw [show (headSpec ws rm).room.slots = ms from hrs]; exact hp.2.1
  have hPc : Pc a (A.U.calling g mk a) := hblind _ _ _ _ hp.2.2
  obtain ⟨U, Ls, c0, s0⟩ := A
  dsimp only [Pt.U, Pt.locs, Pt.cells, Pt.slots] at h1 h2 h3 h4 h5 X hn hPc ⊢
  obtain ⟨methY, cY, hmY, hcY, -, hlY, -, -, -, -⟩ := Cond.code_spec hn h2
  obtain ⟨kY, hkY, -⟩ := className_of_methodNamed hn
  have hinitY : kY.init = .initialized := Cond.initialized_spec (findClass_of_methodNamed hn) hkY h3
  have h : At U g.method c below := by rw [hg]; exact X.here
  have hlocals9 : W9 + (maxL + 11) + (headSpec ws rm).room.locals ≤ R.locals := hlocals
  have happ : (headSpec ws rm).appliesLoose y e.platform (U.calling g mk a) = true :=
    Spec.appliesLoose_calling (g := g) h hdg hn hkY hinitY
      (X.room_calling (g := g) (R' := (headSpec ws rm).room) hsize hmY hcY hframes (by rw [hlY]; omega) h4 h5) h1
  obtain ⟨mid, hmid⟩ := h.above
  have hfr : (U.setTop g).frames = (.java g :: mid) ++ below := by rw [State.frames_setTop' g h.top, hmid]; rfl
  obtain ⟨o, s₂, hsteps, -, hend, hq⟩ := Steps.callFree hM p X.admits X.cas X.clock (acts := []) hfr happ hPc trivial
  have hq' : vx_Q Qc XC mc ms free a (U.calling g mk a) o s₂ := hq
  rw [State.frames_setTop' g h.top] at hend
  obtain ⟨g₀, hg0⟩ := Option.isSome_iff_exists.mp h.top
  obtain ⟨r, hr⟩ := State.topJava?_eq_some.mp hg0
  have hr' : (({ U with heap := s₂.heap, slotsUsed := s₂.slotsUsed } : State).setVm s₂.vm).frames = .java g₀ :: r := hr
  rcases hq' with ⟨hqc, L, hfe, hL⟩ | ⟨q, rfl, E, ce, L, hx, hce, hcv, hcl, hW₂, hsm, hL⟩
  · obtain ⟨⟨v, rfl⟩, hW₂, e2, q2, q3, q4, q5, q6⟩ := id hfe
    have e3 : s₂ = ({ (U.calling g mk a).setFrames s₂.frames with heap := s₂.heap, slotsUsed := s₂.slotsUsed } : State).setVm s₂.vm := by
      have : s₂ = ({ s₂ with vm := (U.calling g mk a).vm } : State).setVm s₂.vm := rfl
      rw [e2] at this
      exact this
    obtain ⟨c₂, i₂, len₂, hc₂, hd₂, hf₂⟩ := hend
    have hW' : U.WarmedH s₂.vm := hW₂
    have hcc : c₂ = c := by
      have h1 : s₂.code? g.method = U.code? g.method := by
        rw [State.code?_eq, State.code?_eq, hW'.alike.method?]
      exact Option.some.inj (hc₂.symm.trans (h1.trans h.code))
    subst hcc
    have hlen : len₂ = len := by rw [hdg] at hd₂; cases hd₂; rfl
    subst hlen
    have hs₂ : s₂ = (({ U with heap := s₂.heap, slotsUsed := s₂.slotsUsed } : State).setVm s₂.vm).setTop { g with pc := g.pc + len₂, stack := v.toList ++ g.stack } := by
      refine e3.trans ?_
      rw [hf₂, State.calling_eq h.top, State.setFrames_setFrames, State.setTop_of_frames _ hr', hr]
      rfl
    have hsame : U.sameButNew ({ U with heap := s₂.heap, slotsUsed := s₂.slotsUsed } : State) L mc ms := by
      refine ⟨?_, q2, q3, q4, q5, q6⟩
      obtain ⟨t, ht, -⟩ := State.frames_cons hr
      show ({ U with heap := s₂.heap, slotsUsed := s₂.slotsUsed } : State) = { U.setFrames U.frames with heap := s₂.heap, slotsUsed := s₂.slotsUsed }
      rw [State.setFrames_self ht]
    subst hg
    refine Or.inl ⟨v, ⟨(({ U with heap := s₂.heap, slotsUsed := s₂.slotsUsed } : State).setVm s₂.vm), Ls ++ L, c0 + mc, s0 + ms⟩,
      ⟨X.admits, X.cas, X.clock, X.frames, X.room, X.hears, X.method, X.code, (X.here.setHeapUsed s₂.heap s₂.slotsUsed).setVm hW'.alike, X.tail, State.WarmedH.trans X.warmed hW', X.limits, X.bytes, X.same.trans (hsame.setVm s.vm)⟩,
      ⟨g, mk, s₂, L, rfl, rfl, hqc, rfl, hL, rfl, rfl⟩, ?_⟩
    show Steps p.tables e below _ ((({ U with heap := s₂.heap, slotsUsed := s₂.slotsUsed } : State).setVm s₂.vm).setTop { g with pc := g.pc + len₂, stack := v.toList ++ g.stack })
    rw [← hs₂]
    exact hsteps
  · obtain ⟨e2, q2, q3, q4, q5, q6⟩ := id hsm
    have e3 : s₂ = ({ (U.calling g mk a).setFrames s₂.frames with heap := s₂.heap, slotsUsed := s₂.slotsUsed } : State).setVm s₂.vm := by
      have : s₂ = ({ s₂ with vm := (U.calling g mk a).vm } : State).setVm s₂.vm := rfl
      rw [e2] at this
      exact this
    have hf₂ : s₂.frames = .throwing q :: .java g :: U.frames.tail := hend
    have hW' : U.WarmedH s₂.vm := hW₂
    have hs₂ : s₂ = ((({ U with heap := s₂.heap, slotsUsed := s₂.slotsUsed } : State).setVm s₂.vm).setTop g).pushFrame (.throwing q) := by
      refine e3.trans ?_
      rw [hf₂, State.calling_eq h.top, State.setFrames_setFrames, State.pushFrame, State.frames_setTop _ hr', State.setTop_of_frames _ hr', State.setFrames_setFrames, hr]
      rfl
    have hsame : U.sameButNew ({ U with heap := s₂.heap, slotsUsed := s₂.slotsUsed } : State) L mc ms := by
      refine ⟨?_, q2, q3, q4, q5, q6⟩
      obtain ⟨t, ht, -⟩ := State.frames_cons hr
      show ({ U with heap := s₂.heap, slotsUsed := s₂.slotsUsed } : State) = { U.setFrames U.frames with heap := s₂.heap, slotsUsed := s₂.slotsUsed }
      rw [State.setFrames_self ht]
    subst hg
    refine Or.inr ⟨q, ⟨(({ U with heap := s₂.heap, slotsUsed := s₂.slotsUsed } : State).setVm s₂.vm), Ls ++ L, c0 + mc, s0 + ms⟩,
      ⟨X.admits, X.cas, X.clock, X.frames, X.room, X.hears, X.method, X.code, (X.here.setHeapUsed s₂.heap s₂.slotsUsed).setVm hW'.alike, X.tail, State.WarmedH.trans X.warmed hW', X.limits, X.bytes, X.same.trans (hsame.setVm s.vm)⟩,
      ⟨g, mk, s₂, L, E, ce, rfl, rfl, hx, hce, hcv, hcl, rfl, hL, rfl, rfl⟩, ?_⟩
    show Steps p.tables e below _ (((({ U with heap := s₂.heap, slotsUsed := s₂.slotsUsed } : State).setVm s₂.vm).setTop g).pushFrame (.throwing q))
    rw [← hs₂]
    exact hsteps
end Payer
section Calls
variable {p : Program} {l : Launch} {e : Env} {R : Room} {s : State} {m : MethodId} {args : Array Value} {below : List Frame} {meth : Method} {c : Code} {T : State} {locs : List Loc} {cells slots : Nat}
theorem vx_callV (X : Stand p l e R s m args below meth c T locs cells slots) (hexec : p.tables.exec = Jvm.exec) {own C : String} {index : Nat} {y : MethodName} {bytes : ByteArray} {maxL : Nat} {ret : Option FieldType}
    (hown : s.vm.findClass own = some m.cls) (hlink : (Cond.methodLink own index y).before args s = true) (hinst : (Cond.instanceMethod y).before args s = true) (hsel : (Cond.selects C y y).before args s = true)
    (hcode : (Cond.code y bytes maxL ret).before args s = true) (hy : y.cls ≠ "java/lang/invoke/MethodHandle" ∧ y.cls ≠ "java/lang/invoke/VarHandle")
    {W9 : Nat} {Pre : Pt → Array Value → Prop} {Post : Pt → Array Value → Option Value → Pt → Prop} {PostX : Pt → Array Value → Addr → Pt → Prop} (hK : vx_Back l R p e below s args y 3 W9 Pre Post PostX)
    {b : Addr} {cellB : Cell} (hcell : T.heap[b]? = some cellB) (hobj : cellB.vm.isStatics = false) (hcls : s.vm.findClass C = some cellB.cls)
    {g : JFrame} (hg : g.method = m) (hsize : g.locals.size = c.maxLocals) {argsL rest : List Value} (hlen : ∀ sig, parseMethodDescriptor y.desc = some sig → argsL.length = sig.parameters.length)
    (hstack : g.stack = argsL.reverse ++ .ref b :: rest) (hW : 2 * g.monitorRoom + (rest.map fun v => v.category).sum ≤ W9) (hdg : decode c.code g.pc = .ok (.invokevirtual index, 3))
    (hpre : ∀ vm₁, s.WarmedH vm₁ → Pre ⟨T.setVm vm₁, locs, cells, slots⟩ (Value.ref b :: argsL).toArray) :
    (∃ (v : Option Value) (vm₁ : Vm) (B : Pt), s.WarmedH vm₁ ∧ Stand p l e R s m args below meth c B.U B.locs B.cells B.slots ∧ Post ⟨T.setVm vm₁, locs, cells, slots⟩ (Value.ref b :: argsL).toArray v B ∧
      ∀ target, Steps p.tables e below (B.U.setTop { g with pc := g.pc + 3, stack := v.toList ++ rest }) target → Steps p.tables e below (T.setTop g) target) ∨
    (∃ (q : Addr) (vm₁ : Vm) (B : Pt), s.WarmedH vm₁ ∧ Stand p l e R s m args below meth c B.U B.locs B.cells B.slots ∧ PostX ⟨T.setVm vm₁, locs, cells, slots⟩ (Value.ref b :: argsL).toArray q B ∧
      Steps p.tables e below (T.setTop g) ((B.U.setTop { g with stack := rest }).pushFrame (.throwing q))) := by
  obtain ⟨mk, methM, hnamed, hmethM, hstM, habM⟩ := Cond.instanceMethod_spec hinst
  obtain ⟨methM', cM, hmethM', -, -, -, -, -, -, hsigM⟩ := Cond.code_spec hnamed hcode
  cases hmethM.symm.trans hmethM'
  obtain ⟨c2, r2, m2, q1, q2, q3, q4, kP, hkP, hkPi⟩ := Cond.selects_spec hsel
  cases hcls.symm.trans q1
  cases (State.methodFound?_of_named hnamed hy).symm.trans q2
  cases hnamed.symm.trans q3
  have hselP : selectMethod e.platform s.vm cellB.cls mk = .method mk := by rw [Launch.admits_selectMethod X.admits]; exact q4
  obtain ⟨vm₁, X₁, hstep₁⟩ := X.invokevirtual hexec hown hlink hnamed hmethM hstM hkP hkPi hy (a := b) (cell := cellB) hcell
    (fun z h => by rw [h] at hobj; cases hobj) hselP hmethM habM hkP hkPi (g := g) hg (argsL := argsL) (rest := rest) (hlen _ hsigM) hstack hdg
  rcases hK m meth c ⟨T.setVm vm₁, locs, cells, slots⟩ { g with stack := rest } (.invokevirtual index) mk (Value.ref b :: argsL).toArray X₁ hg hsize hdg hW (X₁.named hnamed) (hpre vm₁ X₁.warmed) with ⟨v, B, X', hpost, hsteps⟩ | ⟨q, B, X', hpost, hsteps⟩
  · exact Or.inl ⟨v, vm₁, B, X₁.warmed, X', hpost, fun target h => hstep₁ _ fun acts => by rw [doInvoke_state]; exact hsteps.trans h⟩
  · exact Or.inr ⟨q, vm₁, B, X₁.warmed, X', hpost, hstep₁ _ fun acts => by rw [doInvoke_state]; exact hsteps⟩
theorem vx_callS (X : Stand p l e R s m args below meth c T locs cells slots) (hexec : p.tables.exec = Jvm.exec) {own : String} {index : Nat} {y : MethodName} {bytes : ByteArray} {maxL : Nat} {ret : Option FieldType}
    (hown : s.vm.findClass own = some m.cls) (hlink : (Cond.methodLink own index y).before args s = true) (hstat : (Cond.static y).before args s = true) (hinit : (Cond.initialized y.cls).before args s = true)
    (hcode : (Cond.code y bytes maxL ret).before args s = true) (hy : y.cls ≠ "java/lang/invoke/MethodHandle" ∧ y.cls ≠ "java/lang/invoke/VarHandle")
    {W9 : Nat} {Pre : Pt → Array Value → Prop} {Post : Pt → Array Value → Option Value → Pt → Prop} {PostX : Pt → Array Value → Addr → Pt → Prop} (hK : vx_Back l R p e below s args y 3 W9 Pre Post PostX)
    {g : JFrame} (hg : g.method = m) (hsize : g.locals.size = c.maxLocals) {argsL rest : List Value} (hlen : ∀ sig, parseMethodDescriptor y.desc = some sig → argsL.length = sig.parameters.length)
    (hstack : g.stack = argsL.reverse ++ rest) (hW : 2 * g.monitorRoom + (rest.map fun v => v.category).sum ≤ W9) (hdg : decode c.code g.pc = .ok (.invokestatic index, 3))
    (hpre : ∀ vm₁, s.WarmedH vm₁ → Pre ⟨T.setVm vm₁, locs, cells, slots⟩ argsL.toArray) :
    (∃ (v : Option Value) (vm₁ : Vm) (B : Pt), s.WarmedH vm₁ ∧ Stand p l e R s m args below meth c B.U B.locs B.cells B.slots ∧ Post ⟨T.setVm vm₁, locs, cells, slots⟩ argsL.toArray v B ∧
      ∀ target, Steps p.tables e below (B.U.setTop { g with pc := g.pc + 3, stack := v.toList ++ rest }) target → Steps p.tables e below (T.setTop g) target) ∨
    (∃ (q : Addr) (vm₁ : Vm) (B : Pt), s.WarmedH vm₁ ∧ Stand p l e R s m args below meth c B.U B.locs B.cells B.slots ∧ PostX ⟨T.setVm vm₁, locs, cells, slots⟩ argsL.toArray q B ∧
      Steps p.tables e below (T.setTop g) ((B.U.setTop { g with stack := rest }).pushFrame (.throwing q))) := by
  obtain ⟨mk, hnamed⟩ := Cond.code_named hcode
  obtain ⟨methM, cM, hmethM, -, -, -, -, -, -, hsigM⟩ := Cond.code_spec hnamed hcode
  have hstatic : methM.isStatic = true := Cond.static_spec hnamed hmethM hstat
  obtain ⟨kP, hkP, -⟩ := className_of_methodNamed hnamed
  have hinitP : kP.init = .initialized := Cond.initialized_spec (findClass_of_methodNamed hnamed) hkP hinit
  obtain ⟨vm₁, X₁, hstep₁⟩ := X.invokestatic hexec hown hlink hnamed hmethM hstatic hkP hinitP hy (g := g) hg (argsL := argsL) (rest := rest) (hlen _ hsigM) hstack hdg
  rcases hK m meth c ⟨T.setVm vm₁, locs, cells, slots⟩ { g with stack := rest } (.invokestatic index) mk argsL.toArray X₁ hg hsize hdg hW (X₁.named hnamed) (hpre vm₁ X₁.warmed) with ⟨v, B, X', hpost, hsteps⟩ | ⟨q, B, X', hpost, hsteps⟩
  · exact Or.inl ⟨v, vm₁, B, X₁.warmed, X', hpost, fun target h => hstep₁ _ fun acts => by rw [doInvoke_state]; exact hsteps.trans h⟩
  · exact Or.inr ⟨q, vm₁, B, X₁.warmed, X', hpost, hstep₁ _ fun acts => by rw [doInvoke_state]; exact hsteps⟩
end Calls
theorem vx_cls {s : State} {T : State} {vm₁ : Vm} {E : String} {k : ClassId} (hW : s.WarmedH vm₁) (h : (T.setVm vm₁).vm.findClass E = some k) : s.vm.findClass E = some k := by
  have h1 : vm₁.findClass E = some k := h
  rw [hW.alike.findClass] at h1
  exact h1
/-- the method's frame g, with q thrown over it -/
def vx_W (p : Program) (l : Launch) (e : Env) (R : Room) (s : State) (m : MethodId) (args : Array Value) (below : List Frame) (meth : Method) (c : Code) (H : Heap) (locs : List Loc) (cells slots : Nat) (Q : State → Prop) (g : JFrame) (q : Addr) : Prop :=
  ∀ T : State, T.heap = H → Stand p l e R s m args below meth c T locs cells slots → ∃ t, Steps p.tables e below ((T.setTop g).pushFrame (.throwing q)) t ∧ Q t
def vx_Run (p : Program) (l : Launch) (e : Env) (R : Room) (s : State) (m : MethodId) (args : Array Value) (below : List Frame) (meth : Method) (c : Code) (H : Heap) (locs : List Loc) (cells slots mc ms : Nat) (g : JFrame) (rest : List Value) (Qa : State → Outcome → State → Prop) (XC : String → State → State → Prop) (free : Addr → Prop) : Prop :=
  ∀ T : State, T.heap = H → Stand p l e R s m args below meth c T locs cells slots →
    (∃ (v : Option Value) (st₀ t T' : State) (L : List Loc), st₀.heap = H ∧ Stand p l e R s m args below meth c T' (locs ++ L) (cells + mc) (slots + ms) ∧ (∀ q ∈ L, free q.base) ∧ T'.heap = t.heap ∧ T'.vm = t.vm ∧ Qa st₀ (.returned v) t ∧
      Goes p e below T g T' { g with pc := g.pc + 3, stack := v.toList ++ rest }) ∨
    (∃ (q : Addr) (st₀ t T' : State) (L : List Loc) (E : String) (ce : Cell), st₀.heap = H ∧ Stand p l e R s m args below meth c T' (locs ++ L) (cells + mc) (slots + ms) ∧ (∀ z ∈ L, free z.base) ∧ T'.heap = t.heap ∧ T'.vm = t.vm ∧ XC E st₀ t ∧ t.heap[q]? = some ce ∧ ce.vm = .none ∧ s.vm.findClass E = some ce.cls ∧
      Steps p.tables e below (T.setTop g) ((T'.setTop { g with stack := rest }).pushFrame (.throwing q)))
def vx_X {S : Type} (px : S → Prop) (B : String → S → State → Prop) (A : Nat → Prop) : String → State → State → Prop := fun E st t => ∃ u : S, px u ∧ B E u t ∧ va_F A st t
section Runs
variable {p : Program} {l : Launch} {e : Env} {R : Room} {s : State} {m : MethodId} {args : Array Value} {below : List Frame} {meth : Method} {c : Code} {H : Heap} {locs : List Loc} {cells slots : Nat}
variable {y : MethodName} {bytes cc : ByteArray} {maxL nL mc ms n index : Nat} {ret : Option FieldType} {ws : List Cond} {rm : Room} {Pc : Array Value → State → Prop} {Qc : Array Value → State → Outcome → State → Prop} {XC : String → State → State → Prop} {free : Addr → Prop} {Ts : List Cond} {own C : String} {b : Addr} {As rest : List Value} {g : JFrame}
theorem vx_callBack (cb : CallB R s args own index y bytes maxL ret ws rm mc ms n) (hM : vx_Met l y ws rm Pc Qc XC mc ms free) (hbl : FrameBlind Pc) : vx_Back l R p e below s args y 3 8 (PreOf R mc ms Pc) (PostOf Qc mc ms free) (vx_Post XC mc ms free) := by
  obtain ⟨hrc, hrs, hfr, hlo, hws, hcw, -, hini, -⟩ := cb
  exact vx_back (bytes := bytes) (maxL := maxL) (ret := ret) hM hbl hrc hrs hfr hlo hws hcw (fun a' U hW => word_at hW (Or.inl (by first | rfl | simp [Cond.onTables, Cond.keeps, Cond.steady])) hini)
theorem vx_runV (S : CallFix p m c cc nL s args Ts own) (hM : vx_Met l y ws rm Pc Qc XC mc ms free) (cw : CallW R s args own C index y bytes maxL ret ws rm mc ms n) (hp : PreV s H C b Pc As)
    (hg : g.method = m) (hn : As.length = n) (hsize : g.locals.size = nL) (hstack : g.stack = As.reverse ++ .ref b :: rest) (hW : 2 * g.monitorRoom + (rest.map fun v => v.category).sum ≤ 8) (hdg : decode cc g.pc = .ok (.invokevirtual index, 3)) (hf : cells + mc ≤ R.cells ∧ slots + ms ≤ R.slots) :
    vx_Run p l e R s m args below meth c H locs cells slots mc ms g rest (Qc (Value.ref b :: As).toArray) XC free := by
  have hK : vx_Back l R p e below s args y 3 8 (PreOf R mc ms Pc) (PostOf Qc mc ms free) (vx_Post XC mc ms free) := vx_callBack cw.1 hM hp.1
  obtain ⟨⟨-, -, -, -, -, -, hcode, -, hy, hlen, hl⟩, hin, hse⟩ := cw
  obtain ⟨hx, hb, hml, ho, -⟩ := S
  obtain ⟨-, ⟨cellB, hcB, hoB, hclB⟩, hPc⟩ := hp
  intro T hT X
  rcases vx_callV X hx (C := C) (bytes := bytes) (maxL := maxL) (ret := ret) ho hl hin hse hcode hy hK (by rw [hT]; exact hcB) hoB hclB hg (hsize.trans hml.symm) (argsL := As) (rest := rest) (fun sig h => hn.trans (hlen sig h)) hstack hW (by rw [hb]; exact hdg)
    (fun vm₁ hW₁ => ⟨hf.1, hf.2, hPc (T.setVm vm₁) hT hW₁⟩) with ⟨v, vm₁, ⟨U', l2, c2, s2⟩, hW₁, X', ⟨g', mk, t, L, e1, e2, hq, h1, hL, h2, h3⟩, st⟩ | ⟨q, vm₁, ⟨U', l2, c2, s2⟩, hW₁, X', ⟨g', mk, t, L, E, ce, e1, e2, hq, hce, hcv, hcl, h1, hL, h2, h3⟩, st⟩
  · dsimp only [Pt.U, Pt.locs, Pt.cells, Pt.slots] at X' e1 e2 h1 h2 h3 st
    subst h1; subst h2; subst h3
    exact Or.inl ⟨v, (T.setVm vm₁).calling g' mk (Value.ref b :: As).toArray, t, U', L, hT, X', hL, e1, e2, hq, st⟩
  · dsimp only [Pt.U, Pt.locs, Pt.cells, Pt.slots] at X' e1 e2 h1 h2 h3 st hcl
    subst h1; subst h2; subst h3
    exact Or.inr ⟨q, (T.setVm vm₁).calling g' mk (Value.ref b :: As).toArray, t, U', L, E, ce, hT, X', hL, e1, e2, hq, hce, hcv, vx_cls hW₁ hcl, st⟩
theorem vx_runS (S : CallFix p m c cc nL s args Ts own) (hM : vx_Met l y ws rm Pc Qc XC mc ms free) (cw : CallB R s args own index y bytes maxL ret ws rm mc ms n ∧ (Cond.static y).before args s = true) (hp : PreS s H Pc As)
    (hg : g.method = m) (hn : As.length = n) (hsize : g.locals.size = nL) (hstack : g.stack = As.reverse ++ rest) (hW : 2 * g.monitorRoom + (rest.map fun v => v.category).sum ≤ 8) (hdg : decode cc g.pc = .ok (.invokestatic index, 3)) (hf : cells + mc ≤ R.cells ∧ slots + ms ≤ R.slots) :
    vx_Run p l e R s m args below meth c H locs cells slots mc ms g rest (Qc As.toArray) XC free := by
  have hK : vx_Back l R p e below s args y 3 8 (PreOf R mc ms Pc) (PostOf Qc mc ms free) (vx_Post XC mc ms free) := vx_callBack cw.1 hM hp.1
  obtain ⟨⟨-, -, -, -, -, -, hcode, hini, hy, hlen, hl⟩, hstt⟩ := cw
  obtain ⟨hx, hb, hml, ho, -⟩ := S
  intro T hT X
  rcases vx_callS X hx (bytes := bytes) (maxL := maxL) (ret := ret) ho hl hstt hini hcode hy hK hg (hsize.trans hml.symm) (argsL := As) (rest := rest) (fun sig h => hn.trans (hlen sig h)) hstack hW (by rw [hb]; exact hdg)
    (fun vm₁ hW₁ => ⟨hf.1, hf.2, hp.2 (T.setVm vm₁) hT hW₁⟩) with ⟨v, vm₁, ⟨U', l2, c2, s2⟩, hW₁, X', ⟨g', mk, t, L, e1, e2, hq, h1, hL, h2, h3⟩, st⟩ | ⟨q, vm₁, ⟨U', l2, c2, s2⟩, hW₁, X', ⟨g', mk, t, L, E, ce, e1, e2, hq, hce, hcv, hcl, h1, hL, h2, h3⟩, st⟩
  · dsimp only [Pt.U, Pt.locs, Pt.cells, Pt.slots] at X' e1 e2 h1 h2 h3 st
    subst h1; subst h2; subst h3
    exact Or.inl ⟨v, (T.setVm vm₁).calling g' mk As.toArray, t, U', L, hT, X', hL, e1, e2, hq, st⟩
  · dsimp only [Pt.U, Pt.locs, Pt.cells, Pt.slots] at X' e1 e2 h1 h2 h3 st hcl
    subst h1; subst h2; subst h3
    exact Or.inr ⟨q, (T.setVm vm₁).calling g' mk As.toArray, t, U', L, E, ce, hT, X', hL, e1, e2, hq, hce, hcv, vx_cls hW₁ hcl, st⟩
end Runs
section Rows
variable {p : Program} {l : Launch} {e : Env} {R : Room} {s : State} {m : MethodId} {args : Array Value} {below : List Frame} {meth : Method} {c : Code} {H : Heap} {locs : List Loc} {cells slots : Nat} {Q : State → Prop}
variable {mc ms : Nat} {free : Addr → Prop} {A0 A1 : Nat → Prop} {H0 : Heap} {a : Array Value} {pc : Nat} {ls : Array Slot} {st0 rest : List Value}
theorem vx_keep {st₀ t T' : State} {L : List Loc} (h0 : st₀.heap = H) (e1 : T'.heap = t.heap) (hS : va_S A0 H0 H locs) (hA : ∀ q, q < H.size → A1 q → A0 q) (hf : ∀ q, free q → A0 q) (hL : ∀ q ∈ L, free q.base) (hF : va_F A1 st₀ t) :
    H.size ≤ T'.heap.size ∧ (∀ q : Nat, q < H.size → ¬ A1 q → T'.heap[q]? = H[q]?) ∧ va_S A0 H0 T'.heap (locs ++ L) := by
  obtain ⟨hz, hk⟩ := hF
  rw [h0] at hz hk
  exact ⟨by rw [e1]; exact hz, fun q h1 h2 => by rw [e1]; exact hk q h1 h2,
    ⟨Nat.le_trans hS.1 (by rw [e1]; exact hz), fun q h1 h2 => by rw [e1, hk q (Nat.lt_of_lt_of_le h1 hS.1) (fun z => h2 (hA q (Nat.lt_of_lt_of_le h1 hS.1) z))]; exact hS.2.1 q h1 h2, fun q hq => by
      rcases List.mem_append.mp hq with h | h
      · exact hS.2.2 q h
      · exact hf _ (hL q h)⟩⟩
theorem vx_calli {S SX : Type} {post : Int32 → S → Prop} {px : SX → Prop} {B : S → State → Prop} {BX : String → SX → State → Prop} {AX : Nat → Prop} (hr : vx_Run p l e R s m args below meth c H locs cells slots mc ms (F0 m pc ls st0) rest (va_Qi post B A1 a) (vx_X px BX AX) free) (hS : va_S A0 H0 H locs) (hA : ∀ q, q < H.size → A1 q → A0 q) (hf : ∀ q, free q → A0 q) (hAX : ∀ q, q < H.size → AX q → A0 q)
    (kx : ∀ (E : String) (ce : Cell) (q9 : Addr) (u : SX) (t : State) (H1 : Heap) (locs1 : List Loc), t.heap = H1 → s.vm.Alike t.vm → px u → BX E u t → H.size ≤ H1.size → (∀ q : Nat, q < H.size → ¬ AX q → H1[q]? = H[q]?) → va_S A0 H0 H1 locs1 → H1[q9]? = some ce → ce.vm = .none → s.vm.findClass E = some ce.cls → vx_W p l e R s m args below meth c H1 locs1 (cells + mc) (slots + ms) Q (F0 m pc ls rest) q9)
    (kk : ∀ (r : Int32) (u : S) (t : State) (H1 : Heap) (locs1 : List Loc), t.heap = H1 → s.vm.Alike t.vm → post r u → B u t → H.size ≤ H1.size → (∀ q : Nat, q < H.size → ¬ A1 q → H1[q]? = H[q]?) → va_S A0 H0 H1 locs1 → W p l e R s m args below meth c H1 locs1 (cells + mc) (slots + ms) Q (F0 m (pc + 3) ls (.int r :: rest))) : W p l e R s m args below meth c H locs cells slots Q (F0 m pc ls st0) := by
  intro T hT X
  rcases hr T hT X with ⟨v, st₀, t, T', L, h0, X', hL, e1, e2, ⟨⟨r, u, hv, hp, hb⟩, hF⟩, st⟩ | ⟨q, st₀, t, T', L, E, ce, h0, X', hL, e1, e2, ⟨u, hp, hb, hF⟩, hce, hcv, hcl, st⟩
  · cases hv
    obtain ⟨k1, k2, k3⟩ := vx_keep h0 e1 hS hA hf hL hF
    obtain ⟨t2, a1, b1⟩ := kk r u t T'.heap (locs ++ L) e1.symm (by rw [← e2]; exact X'.warmed.alike) hp hb k1 k2 k3 T' rfl X'
    exact ⟨t2, st t2 a1, b1⟩
  · obtain ⟨k1, k2, k3⟩ := vx_keep h0 e1 hS hAX hf hL hF
    obtain ⟨t2, a1, b1⟩ := kx E ce q u t T'.heap (locs ++ L) e1.symm (by rw [← e2]; exact X'.warmed.alike) hp hb k1 k2 k3 (by rw [e1]; exact hce) hcv hcl T' rfl X'
    exact ⟨t2, st.trans a1, b1⟩
theorem vx_calll {S SX : Type} {post : Int64 → S → Prop} {px : SX → Prop} {B : S → State → Prop} {BX : String → SX → State → Prop} {AX : Nat → Prop} (hr : vx_Run p l e R s m args below meth c H locs cells slots mc ms (F0 m pc ls st0) rest (va_Ql post B A1 a) (vx_X px BX AX) free) (hS : va_S A0 H0 H locs) (hA : ∀ q, q < H.size → A1 q → A0 q) (hf : ∀ q, free q → A0 q) (hAX : ∀ q, q < H.size → AX q → A0 q)
    (kx : ∀ (E : String) (ce : Cell) (q9 : Addr) (u : SX) (t : State) (H1 : Heap) (locs1 : List Loc), t.heap = H1 → s.vm.Alike t.vm → px u → BX E u t → H.size ≤ H1.size → (∀ q : Nat, q < H.size → ¬ AX q → H1[q]? = H[q]?) → va_S A0 H0 H1 locs1 → H1[q9]? = some ce → ce.vm = .none → s.vm.findClass E = some ce.cls → vx_W p l e R s m args below meth c H1 locs1 (cells + mc) (slots + ms) Q (F0 m pc ls rest) q9)
    (kk : ∀ (r : Int64) (u : S) (t : State) (H1 : Heap) (locs1 : List Loc), t.heap = H1 → s.vm.Alike t.vm → post r u → B u t → H.size ≤ H1.size → (∀ q : Nat, q < H.size → ¬ A1 q → H1[q]? = H[q]?) → va_S A0 H0 H1 locs1 → W p l e R s m args below meth c H1 locs1 (cells + mc) (slots + ms) Q (F0 m (pc + 3) ls (.long r :: rest))) : W p l e R s m args below meth c H locs cells slots Q (F0 m pc ls st0) := by
  intro T hT X
  rcases hr T hT X with ⟨v, st₀, t, T', L, h0, X', hL, e1, e2, ⟨⟨r, u, hv, hp, hb⟩, hF⟩, st⟩ | ⟨q, st₀, t, T', L, E, ce, h0, X', hL, e1, e2, ⟨u, hp, hb, hF⟩, hce, hcv, hcl, st⟩
  · cases hv
    obtain ⟨k1, k2, k3⟩ := vx_keep h0 e1 hS hA hf hL hF
    obtain ⟨t2, a1, b1⟩ := kk r u t T'.heap (locs ++ L) e1.symm (by rw [← e2]; exact X'.warmed.alike) hp hb k1 k2 k3 T' rfl X'
    exact ⟨t2, st t2 a1, b1⟩
  · obtain ⟨k1, k2, k3⟩ := vx_keep h0 e1 hS hAX hf hL hF
    obtain ⟨t2, a1, b1⟩ := kx E ce q u t T'.heap (locs ++ L) e1.symm (by rw [← e2]; exact X'.warmed.alike) hp hb k1 k2 k3 (by rw [e1]; exact hce) hcv hcl T' rfl X'
    exact ⟨t2, st.trans a1, b1⟩
theorem vx_callf {S SX : Type} {post : UInt32 → S → Prop} {px : SX → Prop} {B : S → State → Prop} {BX : String → SX → State → Prop} {AX : Nat → Prop} (hr : vx_Run p l e R s m args below meth c H locs cells slots mc ms (F0 m pc ls st0) rest (va_Qf post B A1 a) (vx_X px BX AX) free) (hS : va_S A0 H0 H locs) (hA : ∀ q, q < H.size → A1 q → A0 q) (hf : ∀ q, free q → A0 q) (hAX : ∀ q, q < H.size → AX q → A0 q)
    (kx : ∀ (E : String) (ce : Cell) (q9 : Addr) (u : SX) (t : State) (H1 : Heap) (locs1 : List Loc), t.heap = H1 → s.vm.Alike t.vm → px u → BX E u t → H.size ≤ H1.size → (∀ q : Nat, q < H.size → ¬ AX q → H1[q]? = H[q]?) → va_S A0 H0 H1 locs1 → H1[q9]? = some ce → ce.vm = .none → s.vm.findClass E = some ce.cls → vx_W p l e R s m args below meth c H1 locs1 (cells + mc) (slots + ms) Q (F0 m pc ls rest) q9)
    (kk : ∀ (r : UInt32) (u : S) (t : State) (H1 : Heap) (locs1 : List Loc), t.heap = H1 → s.vm.Alike t.vm → post r u → B u t → H.size ≤ H1.size → (∀ q : Nat, q < H.size → ¬ A1 q → H1[q]? = H[q]?) → va_S A0 H0 H1 locs1 → W p l e R s m args below meth c H1 locs1 (cells + mc) (slots + ms) Q (F0 m (pc + 3) ls (.float r :: rest))) : W p l e R s m args below meth c H locs cells slots Q (F0 m pc ls st0) := by
  intro T hT X
  rcases hr T hT X with ⟨v, st₀, t, T', L, h0, X', hL, e1, e2, ⟨⟨r, u, hv, hp, hb⟩, hF⟩, st⟩ | ⟨q, st₀, t, T', L, E, ce, h0, X', hL, e1, e2, ⟨u, hp, hb, hF⟩, hce, hcv, hcl, st⟩
  · cases hv
    obtain ⟨k1, k2, k3⟩ := vx_keep h0 e1 hS hA hf hL hF
    obtain ⟨t2, a1, b1⟩ := kk r u t T'.heap (locs ++ L) e1.symm (by rw [← e2]; exact X'.warmed.alike) hp hb k1 k2 k3 T' rfl X'
    exact ⟨t2, st t2 a1, b1⟩
  · obtain ⟨k1, k2, k3⟩ := vx_keep h0 e1 hS hAX hf hL hF
    obtain ⟨t2, a1, b1⟩ := kx E ce q u t T'.heap (locs ++ L) e1.symm (by rw [← e2]; exact X'.warmed.alike) hp hb k1 k2 k3 (by rw [e1]; exact hce) hcv hcl T' rfl X'
    exact ⟨t2, st.trans a1, b1⟩
theorem vx_calld {S SX : Type} {post : UInt64 → S → Prop} {px : SX → Prop} {B : S → State → Prop} {BX : String → SX → State → Prop} {AX : Nat → Prop} (hr : vx_Run p l e R s m args below meth c H locs cells slots mc ms (F0 m pc ls st0) rest (va_Qd post B A1 a) (vx_X px BX AX) free) (hS : va_S A0 H0 H locs) (hA : ∀ q, q < H.size → A1 q → A0 q) (hf : ∀ q, free q → A0 q) (hAX : ∀ q, q < H.size → AX q → A0 q)
    (kx : ∀ (E : String) (ce : Cell) (q9 : Addr) (u : SX) (t : State) (H1 : Heap) (locs1 : List Loc), t.heap = H1 → s.vm.Alike t.vm → px u → BX E u t → H.size ≤ H1.size → (∀ q : Nat, q < H.size → ¬ AX q → H1[q]? = H[q]?) → va_S A0 H0 H1 locs1 → H1[q9]? = some ce → ce.vm = .none → s.vm.findClass E = some ce.cls → vx_W p l e R s m args below meth c H1 locs1 (cells + mc) (slots + ms) Q (F0 m pc ls rest) q9)
    (kk : ∀ (r : UInt64) (u : S) (t : State) (H1 : Heap) (locs1 : List Loc), t.heap = H1 → s.vm.Alike t.vm → post r u → B u t → H.size ≤ H1.size → (∀ q : Nat, q < H.size → ¬ A1 q → H1[q]? = H[q]?) → va_S A0 H0 H1 locs1 → W p l e R s m args below meth c H1 locs1 (cells + mc) (slots + ms) Q (F0 m (pc + 3) ls (.double r :: rest))) : W p l e R s m args below meth c H locs cells slots Q (F0 m pc ls st0) := by
  intro T hT X
  rcases hr T hT X with ⟨v, st₀, t, T', L, h0, X', hL, e1, e2, ⟨⟨r, u, hv, hp, hb⟩, hF⟩, st⟩ | ⟨q, st₀, t, T', L, E, ce, h0, X', hL, e1, e2, ⟨u, hp, hb, hF⟩, hce, hcv, hcl, st⟩
  · cases hv
    obtain ⟨k1, k2, k3⟩ := vx_keep h0 e1 hS hA hf hL hF
    obtain ⟨t2, a1, b1⟩ := kk r u t T'.heap (locs ++ L) e1.symm (by rw [← e2]; exact X'.warmed.alike) hp hb k1 k2 k3 T' rfl X'
    exact ⟨t2, st t2 a1, b1⟩
  · obtain ⟨k1, k2, k3⟩ := vx_keep h0 e1 hS hAX hf hL hF
    obtain ⟨t2, a1, b1⟩ := kx E ce q u t T'.heap (locs ++ L) e1.symm (by rw [← e2]; exact X'.warmed.alike) hp hb k1 k2 k3 (by rw [e1]; exact hce) hcv hcl T' rfl X'
    exact ⟨t2, st.trans a1, b1⟩
theorem vx_callv {S SX : Type} {post : S → Prop} {px : SX → Prop} {B : S → State → Prop} {BX : String → SX → State → Prop} {AX : Nat → Prop} (hr : vx_Run p l e R s m args below meth c H locs cells slots mc ms (F0 m pc ls st0) rest (va_Qv post B A1 a) (vx_X px BX AX) free) (hS : va_S A0 H0 H locs) (hA : ∀ q, q < H.size → A1 q → A0 q) (hf : ∀ q, free q → A0 q) (hAX : ∀ q, q < H.size → AX q → A0 q)
    (kx : ∀ (E : String) (ce : Cell) (q9 : Addr) (u : SX) (t : State) (H1 : Heap) (locs1 : List Loc), t.heap = H1 → s.vm.Alike t.vm → px u → BX E u t → H.size ≤ H1.size → (∀ q : Nat, q < H.size → ¬ AX q → H1[q]? = H[q]?) → va_S A0 H0 H1 locs1 → H1[q9]? = some ce → ce.vm = .none → s.vm.findClass E = some ce.cls → vx_W p l e R s m args below meth c H1 locs1 (cells + mc) (slots + ms) Q (F0 m pc ls rest) q9)
    (kk : ∀ (u : S) (t : State) (H1 : Heap) (locs1 : List Loc), t.heap = H1 → s.vm.Alike t.vm → post u → B u t → H.size ≤ H1.size → (∀ q : Nat, q < H.size → ¬ A1 q → H1[q]? = H[q]?) → va_S A0 H0 H1 locs1 → W p l e R s m args below meth c H1 locs1 (cells + mc) (slots + ms) Q (F0 m (pc + 3) ls (rest))) : W p l e R s m args below meth c H locs cells slots Q (F0 m pc ls st0) := by
  intro T hT X
  rcases hr T hT X with ⟨v, st₀, t, T', L, h0, X', hL, e1, e2, ⟨⟨u, hv, hp, hb⟩, hF⟩, st⟩ | ⟨q, st₀, t, T', L, E, ce, h0, X', hL, e1, e2, ⟨u, hp, hb, hF⟩, hce, hcv, hcl, st⟩
  · cases hv
    obtain ⟨k1, k2, k3⟩ := vx_keep h0 e1 hS hA hf hL hF
    obtain ⟨t2, a1, b1⟩ := kk u t T'.heap (locs ++ L) e1.symm (by rw [← e2]; exact X'.warmed.alike) hp hb k1 k2 k3 T' rfl X'
    exact ⟨t2, st t2 a1, b1⟩
  · obtain ⟨k1, k2, k3⟩ := vx_keep h0 e1 hS hAX hf hL hF
    obtain ⟨t2, a1, b1⟩ := kx E ce q u t T'.heap (locs ++ L) e1.symm (by rw [← e2]; exact X'.warmed.alike) hp hb k1 k2 k3 (by rw [e1]; exact hce) hcv hcl T' rfl X'
    exact ⟨t2, st.trans a1, b1⟩
/-- caught by the row x of this method's table; the rows ahead don't take it -/
theorem vx_catch {own name : String} {E : String} {ce : Cell} {q : Addr} (hown : s.vm.findClass own = some m.cls) (pre : List ExceptionTableEntry) (x : ExceptionTableEntry) (suf : List ExceptionTableEntry) (hsplit : c.exceptionTable.toList = pre ++ x :: suf)
    (hpass : ∀ z ∈ pre, covers z pc = false ∨ (z.catchType ≠ 0 ∧ ∃ nm : String, (Cond.classLink own z.catchType nm).before args s = true ∧ va_Nc E nm s)) (hx : covers x pc = true) (h0 : x.catchType ≠ 0)
    (hlink : (Cond.classLink own x.catchType name).before args s = true) (hcast : (Cond.castable E name).before args s = true) (hcell : H[q]? = some ce) (hv : ce.vm = .none) (hcl : s.vm.findClass E = some ce.cls)
    (kk : W p l e R s m args below meth c H locs cells slots Q (F0 m x.handlerPc ls [.ref q])) : vx_W p l e R s m args below meth c H locs cells slots Q (F0 m pc ls rest) q := by
  intro T hT X
  have hpl : e.platform.magicAccessors = ({} : Platform).magicAccessors := by rw [X.admits.platform]
  obtain ⟨c3, c4, hc3, hc4, hasg⟩ := Cond.castable_spec hcast
  cases Option.some.inj (hc3.symm.trans hcl)
  obtain ⟨c5, hc5, hcl5⟩ := Cond.classLink_spec hown hlink e.platform hpl
  cases Option.some.inj (hc4.symm.trans hc5)
  obtain ⟨vm', X', st⟩ := X.thenCaughtThrough q (g := F0 m pc ls rest) rfl (Steps.refl _) (by rw [hT]; exact hcell) (by rw [hv]; rfl) (by obtain ⟨k9, h9, -⟩ := Vm.findClass_spec hcl; exact ⟨k9, h9⟩) pre x suf hsplit
    (fun z hz => by
      rcases hpass z hz with h | ⟨hz0, nm, hl1, hn1⟩
      · exact Or.inl h
      · obtain ⟨c6, hc6, hcl6⟩ := Cond.classLink_spec hown hl1 e.platform hpl
        obtain ⟨a8, b8, h1, h2, h3⟩ := hn1
        cases Option.some.inj (h1.symm.trans hcl)
        cases Option.some.inj (h2.symm.trans hc6)
        exact Or.inr ⟨hz0, _, hcl6, h3⟩) hx (Or.inr ⟨h0, c4, hcl5, hasg⟩)
  obtain ⟨t, a1, b1⟩ := kk (T.setVm vm') hT X'
  exact ⟨t, st.trans a1, b1⟩
end Rows
section Ends
variable {p : Program} {l : Launch} {e : Env} {R : Room} {s : State} {m : MethodId} {args : Array Value} {below : List Frame} {meth : Method} {c : Code} {H : Heap} {locs : List Loc} {cells slots : Nat} {Q : State → Prop}
variable {mc ms : Nat} {free : Addr → Prop} {A0 A1 : Nat → Prop} {H0 : Heap} {a : Array Value} {ls : Array Slot} {st0 rest : List Value}
variable {Qc : Array Value → State → Outcome → State → Prop} {XC : String → State → State → Prop}
/-- what a body that may throw owes at its end -/
def vx_MQ (below : List Frame) (Qc : Array Value → State → Outcome → State → Prop) (XC : String → State → State → Prop) (a : Array Value) (s : State) (mc ms : Nat) (free : Addr → Prop) : State → Prop := fun t =>
  ∃ o, t.status = .running ∧ Ended t below o ∧ vx_Q Qc XC mc ms free a s o t
theorem vx_ret {g : JFrame} {mc ms : Nat} (k : W p l e R s m args below meth c H locs cells slots (MQ below Qc args s mc ms free) g) : W p l e R s m args below meth c H locs cells slots (vx_MQ below Qc XC args s mc ms free) g := by
  intro T hT X
  obtain ⟨t, a1, o, b1, b2, b3, b4⟩ := k T hT X
  exact ⟨t, a1, o, b1, b2, Or.inl ⟨b3, b4⟩⟩
/-- not caught here: it goes on to the caller -/
theorem vx_widen {g : JFrame} {q : Addr} {k n : Nat} (h1 : cells ≤ k) (h2 : slots ≤ n) (kk : vx_W p l e R s m args below meth c H locs k n Q g q) : vx_W p l e R s m args below meth c H locs cells slots Q g q := fun T hT X => kk T hT (stand_widen X h1 h2)
theorem vx_out {pc : Nat} {E : String} {ce : Cell} {q : Addr} {mc ms : Nat} (hout : ∀ x ∈ c.exceptionTable.toList, covers x pc = false) (hlocks : meth.locks = false) (hcell : H[q]? = some ce) (hv : ce.vm = .none) (hcl : s.vm.findClass E = some ce.cls)
    (hx : ∀ t : State, t.heap = H → s.vm.Alike t.vm → XC E s t) (hf : ∀ z ∈ locs, free z.base) (hc : cells ≤ mc) (hs : slots ≤ ms) :
    vx_W p l e R s m args below meth c H locs cells slots (vx_MQ below Qc XC args s mc ms free) (F0 m pc ls rest) q := by
  intro T hT X
  obtain ⟨st1, hrun, hend, hW, hsm⟩ := X.leaveThrown q (g := F0 m pc ls rest) rfl rfl rfl hout hlocks
  have hcell9 : (T.setFrames (.throwing q :: below)).heap[q]? = some ce := by
    show T.heap[q]? = some ce
    rw [hT]; exact hcell
  exact ⟨_, st1, .threw q, hrun, hend, Or.inr ⟨q, rfl, E, ce, locs, hx _ hT hW.alike, hcell9, hv, hcl, hW, hsm.mono hc hs, hf⟩⟩
theorem vx_frame {U : State} {k n : Nat} (h : s.sameButNew ({ U with vm := s.vm } : State) locs k n) : s.heap.size ≤ U.heap.size ∧ ∀ q : Nat, q < s.heap.size → (∀ z ∈ locs, z.base ≠ q) → U.heap[q]? = s.heap[q]? := by
  obtain ⟨-, h2, -, -, -, h6⟩ := h
  refine ⟨h2, fun q hq hz => ?_⟩
  obtain ⟨c9, e1, e2, e3, e4⟩ := h6 q _ (Array.getElem?_eq_getElem hq)
  have hs : c9.slots = (s.heap[q]).slots := Array.ext_getElem? fun i => e4 i fun hm => hz _ hm rfl
  have h9 : c9 = s.heap[q] := by
    rw [hs] at e2
    exact e2
  have e5 : U.heap[q]? = some c9 := e1
  rw [e5, h9, Array.getElem?_eq_getElem hq]
/-- the words of a throw but the four that speak of the heap -/
def vx_no (w : Cond) : Bool := decide (w ≠ .isRef (.static Bundle.tN "UNASSIGNED_STACK" Bundle.steD)) && decide (w ≠ .isRef (.static Bundle.tN "SUPPRESSED_SENTINEL" Bundle.listD)) && decide (w ≠ .laysStatic Bundle.tN "UNASSIGNED_STACK" Bundle.steD) && decide (w ≠ .laysStatic Bundle.tN "SUPPRESSED_SENTINEL" Bundle.listD)
def vx_at0 (own : String) (ic : Nat) (X : String) (names : List String) : List Cond := (Bundle.ownAtoms0 own ic X names).filter vx_no
def vx_atS (own : String) (ic : Nat) (X : String) (names : List String) : List Cond := (Bundle.ownAtoms own ic X names).filter vx_no
/-- a word that the tables alone decide, or a good one -/
def vx_ot (w : Cond) : Bool := w.onTables || goodWord w
theorem vx_ot_at {args a' : Array Value} {s U : State} {w : Cond} (hW : s.WarmedH U.vm) (hvm : s.vm = U.vm) (hg : vx_ot w = true) (h : w.before args s = true) : w.before a' U = true := by
  simp only [vx_ot, Bool.or_eq_true] at hg
  rcases hg with hg | hg
  · exact va_tabs hg hvm h
  · exact word_at hW (good_of_word hg) h
/-- a list's words: the good ones out of the method's own list, the others by premises of their own -/
theorem vx_hat {args : Array Value} {s : State} {L B : List Cond} (h1 : ∀ w ∈ L.filter goodWord, w.before args s = true) (h2 : ∀ w ∈ L.filter (fun w => !goodWord w), w ∈ B) (h3 : ∀ w ∈ B, w.before args s = true) : ∀ w ∈ L, w.before args s = true := by
  intro w hw
  by_cases g : goodWord w = true
  · exact h1 w (List.mem_filter.mpr ⟨hw, g⟩)
  · refine h3 w (h2 w (List.mem_filter.mpr ⟨hw, ?_⟩))
    show (!goodWord w) = true
    cases hgw : goodWord w
    · rfl
    · exact absurd hgw g
theorem vx_c {args : Array Value} {s : State} {w : Cond} {B : List Cond} (h : w.before args s = true) (t : ∀ w ∈ B, w.before args s = true) : ∀ w' ∈ w :: B, w'.before args s = true := fun w' h' => (List.mem_cons.mp h').elim (fun e => by rw [e]; exact h) (t w')
theorem vx_n {args : Array Value} {s : State} : ∀ w ∈ ([] : List Cond), w.before args s = true := fun _ h => nomatch h
theorem vx_own {args : Array Value} {s : State} {L : List Cond} (h1 : ∀ w ∈ L.filter vx_no, w.before args s = true)
    (hU : (Cond.isRef (.static Bundle.tN "UNASSIGNED_STACK" Bundle.steD)).before args s = true) (hN : (Cond.isRef (.static Bundle.tN "SUPPRESSED_SENTINEL" Bundle.listD)).before args s = true)
    (lU : (Cond.laysStatic Bundle.tN "UNASSIGNED_STACK" Bundle.steD).before args s = true) (lN : (Cond.laysStatic Bundle.tN "SUPPRESSED_SENTINEL" Bundle.listD).before args s = true) : ∀ w ∈ L, w.before args s = true := by
  intro w hw
  by_cases e1 : w = .isRef (.static Bundle.tN "UNASSIGNED_STACK" Bundle.steD)
  · rw [e1]; exact hU
  · by_cases e2 : w = .isRef (.static Bundle.tN "SUPPRESSED_SENTINEL" Bundle.listD)
    · rw [e2]; exact hN
    · by_cases e3 : w = .laysStatic Bundle.tN "UNASSIGNED_STACK" Bundle.steD
      · rw [e3]; exact lU
      · by_cases e4 : w = .laysStatic Bundle.tN "SUPPRESSED_SENTINEL" Bundle.listD
        · rw [e4]; exact lN
        · exact h1 w (List.mem_filter.mpr ⟨hw, by unfold vx_no; rw [decide_eq_true e1, decide_eq_true e2, decide_eq_true e3, decide_eq_true e4]; rfl⟩)
/-- where a static field lies, its class's statics cell in H -/
def vx_L (C n d : String) (A : Nat → Prop) (U : State) (H : Heap) : Prop := ∃ (c : ClassId) (k : Class) (i : Nat) (f : Field) (a : Nat) (cell : Cell), U.vm.findClass C = some c ∧ U.fieldFound? C n d = some (c, k, i, f) ∧ f.isStatic = true ∧ k.statics = some a ∧ H[a]? = some cell ∧ cell.vm.isStatics = true ∧ cell.cls = c ∧ f.slot < cell.slots.size ∧ k.staticTypes[f.slot]? = some f.type ∧ ¬ A a
theorem vx_L.moved {C n d : String} {A : Nat → Prop} {u U : State} {H : Heap} (hvm : u.vm.Alike U.vm) (h : vx_L C n d A u H) : vx_L C n d A U H := by
  obtain ⟨c, k, i, f, a, cell, h1, h2, h3, h4, h5, h6, h7, h8, h9, h10⟩ := h
  obtain ⟨k', hi', he⟩ := State.fieldFound?_setVm hvm h2
  exact ⟨c, k', i, f, a, cell, by rw [hvm.findClass]; exact h1, hi', h3, by rw [he]; exact h4, h5, h6, h7, h8, by rw [he]; exact h9, h10⟩
theorem vx_L.kept {C n d : String} {A : Nat → Prop} {U : State} {H H1 : Heap} (h : vx_L C n d A U H) (hq : ∀ a : Nat, a < H.size → ¬ A a → H1[a]? = H[a]?) : vx_L C n d A U H1 := by
  obtain ⟨c, k, i, f, a, cell, h1, h2, h3, h4, h5, h6, h7, h8, h9, h10⟩ := h
  exact ⟨c, k, i, f, a, cell, h1, h2, h3, h4, by rw [hq a (Array.getElem?_eq_some_iff.mp h5).1 h10]; exact h5, h6, h7, h8, h9, h10⟩
theorem vx_L.narrow {C n d : String} {A B : Nat → Prop} {U : State} {H : Heap} (h : vx_L C n d A U H) (hAB : ∀ q, B q → A q) : vx_L C n d B U H := by
  obtain ⟨c, k, i, f, a, cell, h1, h2, h3, h4, h5, h6, h7, h8, h9, h10⟩ := h
  exact ⟨c, k, i, f, a, cell, h1, h2, h3, h4, h5, h6, h7, h8, h9, fun z => h10 (hAB _ z)⟩
theorem vx_L.word {C n d : String} {A : Nat → Prop} {s : State} {args : Array Value} (h : vx_L C n d A s s.heap) : (Cond.laysStatic C n d).before args s = true := by
  obtain ⟨c, k, i, f, a, cell, h1, h2, h3, h4, h5, h6, h7, h8, h9, -⟩ := h
  show (Cond.laysStatic C n d).holds args s none s [] = true
  exact Cond.laysStatic_of h1 h2 h3 h4 h5 h6 h7 h8 h9
/-- .. and what it holds: null or some reference -/
def vx_Zq (C n d : String) (A : Nat → Prop) (U : State) (H : Heap) : Prop := va_Zq C n d A U H ∧ vx_L C n d A U H
theorem vx_Zq.moved {C n d : String} {A : Nat → Prop} {u U : State} {H : Heap} (hvm : u.vm.Alike U.vm) (h : vx_Zq C n d A u H) : vx_Zq C n d A U H := ⟨va_Zq.moved hvm h.1, vx_L.moved hvm h.2⟩
theorem vx_Zq.kept {C n d : String} {A : Nat → Prop} {U : State} {H H1 : Heap} (h : vx_Zq C n d A U H) (hq : ∀ a : Nat, a < H.size → ¬ A a → H1[a]? = H[a]?) : vx_Zq C n d A U H1 := ⟨va_Zq.kept h.1 hq, vx_L.kept h.2 hq⟩
theorem vx_Zq.narrow {C n d : String} {A B : Nat → Prop} {U : State} {H : Heap} (h : vx_Zq C n d A U H) (hAB : ∀ q, B q → A q) : vx_Zq C n d B U H := ⟨va_Zq.narrow h.1 hAB, vx_L.narrow h.2 hAB⟩
theorem vx_Zqof {args : Array Value} {s : State} {C n d : String} {A : Nat → Prop} (hl : (Cond.laysStatic C n d).before args s = true) (hini : (Cond.initialized C).before args s = true) (h : (Cond.isRef (.static C n d)).before args s = true) (hA : ∀ a : Nat, a < s.heap.size → ¬ A a) : vx_Zq C n d A s s.heap := by
  refine ⟨va_Zqof hl hini h hA, ?_⟩
  obtain ⟨c, k, i, f, a, cell, h1, h2, h3, h4, h5, h6, h7, h8, h9⟩ := Cond.laysStatic_spec hl
  exact ⟨c, k, i, f, a, cell, h1, h2, h3, h4, h5, h6, h7, h8, h9, hA a (Array.getElem?_eq_some_iff.mp h5).1⟩
theorem vx_isRef {C n d : String} {v : Value} {A : Nat → Prop} {s : State} {args : Array Value} (h : va_Z C n d v A s s.heap) (hv : v.isRef = true) : (Cond.isRef (.static C n d)).before args s = true := by
  obtain ⟨cf, kf, fi, f, a, cell, h1, h2, h3, h4, h5, h6, h7, -⟩ := h
  have he : (Term.static C n d).eval args s none [] s = some v := by
    simp [Term.eval, State.fieldNamed?, h1, h2, h4, h5, h6, h7]
  simp only [Cond.before, Cond.holds, Cond.value, he]
  cases v <;> simp_all [Value.isRef]
theorem vx_isRefq {C n d : String} {A : Nat → Prop} {s : State} {args : Array Value} (h : va_Zq C n d A s s.heap) : (Cond.isRef (.static C n d)).before args s = true := by
  rcases h with h | ⟨t, h⟩
  · exact vx_isRef h rfl
  · exact vx_isRef h rfl
/-- the same frame, seen from here: as if the method were called anew in this heap -/
theorem vx_rebase {T : State} (X : Stand p l e R s m args below meth c T locs cells slots) {R' : Room} (hf : R'.frames ≤ R.frames) (hl : R'.locals ≤ R.locals) (hc : cells + R'.cells ≤ R.cells) (hs : slots + R'.slots ≤ R.slots) :
    Stand p l e R' ((T.setVm s.vm).setFrames (.invoking m args :: below)) m args below meth c T [] 0 0 := by
  have htop : (T.setVm s.vm).topJava?.isSome := X.here.top
  have hF : ((T.setVm s.vm).setFrames (.invoking m args :: below)).frames = .invoking m args :: below := State.frames_setFrames _ (State.cur_lt_of_top htop)
  obtain ⟨g₀, hg0⟩ := Option.isSome_iff_exists.mp htop
  obtain ⟨r, hr⟩ := State.topJava?_eq_some.mp hg0
  have hl9 : e.platform.stackLimits (T.setVm s.vm).me = e.platform.stackLimits s.me := X.limits
  have hb9 : (T.setVm s.vm).me.stackBytes = s.me.stackBytes := X.bytes
  refine ⟨X.admits, X.cas, X.clock, hF, ?_, X.hears, X.method, X.code, X.here, X.tail, X.warmed, ?_, ?_, ?_⟩
  · have h := X.room
    have hU : ((T.setVm s.vm).setFrames (.invoking m args :: below)).localsInUse = s.localsInUse := by
      rw [State.localsInUse_invoking hF (meth := meth) (c := c) X.method X.code, State.localsInUse_invoking X.frames X.method X.code]
    simp only [State.hasRoom, Bool.and_eq_true, decide_eq_true_eq] at h ⊢
    obtain ⟨⟨⟨⟨h1, h2, h3, h4, h5, h6⟩, h7⟩, h8⟩, h9⟩ := h
    rw [X.frames, List.length_cons] at h2 h3
    have q1 := X.heapSize
    have q2 := X.used
    simp only [hF, hU, List.length_cons, State.stackLimits_setFrames, State.stackBytes_setFrames, hl9, hb9]
    refine ⟨⟨⟨⟨by omega, by omega, by omega, by omega, by omega, h6⟩, ?_⟩, ?_⟩, X.book⟩
    · show T.heap.size + R'.cells ≤ e.platform.maxCells
      omega
    · show T.slotsUsed + R'.slots ≤ e.platform.maxSlots
      omega
  · rw [State.stackLimits_setFrames]; rfl
  · rw [State.stackBytes_setFrames]; rfl
  · refine ⟨?_, Nat.le_refl _, Nat.le_refl _, ?_, ?_, fun a c9 h9 => ⟨c9, h9, rfl, rfl, fun _ _ => rfl⟩⟩
    · obtain ⟨t, ht, -⟩ := State.frames_cons hr
      show T.setVm s.vm = { ((T.setVm s.vm).setFrames (.invoking m args :: below)).setFrames (T.setVm s.vm).frames with heap := T.heap, slotsUsed := T.slotsUsed }
      rw [State.setFrames_setFrames, State.setFrames_self ht]
      rfl
    · show T.slotsUsed = T.slotsUsed + ((T.heap.toList.drop T.heap.size).map (·.slots.size)).sum
      rw [List.drop_eq_nil_of_le (Nat.le_of_eq Array.length_toList)]
      rfl
    · show ((T.heap.toList.drop T.heap.size).map (·.slots.size)).sum ≤ 0
      rw [List.drop_eq_nil_of_le (Nat.le_of_eq Array.length_toList)]
      exact Nat.le_refl _
/-- 'throw new E()': new; dup; invokespecial; athrow -/
theorem vx_throw0 {cc : ByteArray} {pc : Nat} (hexec : p.tables.exec = Jvm.exec) (hb : c.code = cc) (hl : l.stackTraces = false) {own cls : String} {names : List String} {ik ic mc ms : Nat} {A : Nat → Prop}
    (hown : s.vm.findClass own = some m.cls) (hcls : Bundle.fit cls = true) (hnames : ∀ n ∈ names, Bundle.fit n = true)
    (hk : (Cond.classLink own ik cls).before args s = true) (hini : (Cond.initialized cls).before args s = true) (hat : ∀ w ∈ vx_at0 own ic cls names, w.before args s = true)
    (hgood : ∀ w ∈ Cond.classLink own ik cls :: Cond.initialized cls :: vx_at0 own ic cls names, vx_ot w = true)
    (hU : vx_Zq Bundle.tN "UNASSIGNED_STACK" Bundle.steD A s s.heap) (hN : vx_Zq Bundle.tN "SUPPRESSED_SENTINEL" Bundle.listD A s s.heap) (hS : va_S A s.heap H locs) (hsize : ls.size = c.maxLocals)
    (d0 : decode cc pc = .ok (.new ik, 3)) (d3 : decode cc (pc + 3) = .ok (.dup, 1)) (d4 : decode cc (pc + 4) = .ok (.invokespecial ic, 3)) (d7 : decode cc (pc + 7) = .ok (.athrow, 1))
    (hout : ∀ x ∈ c.exceptionTable.toList, covers x (pc + 7) = false)
    (hRframes : names.length + 3 < R.frames) (hRlocals : (rest.map fun v => v.category).sum + (13 * (names.length + 1) + 42) ≤ R.locals) (hRcells : cells + 1 ≤ R.cells) (hRslots : slots + 6 ≤ R.slots) (hlocks : meth.locks = false)
    (hx : ∀ t : State, s.vm.Alike t.vm → H.size ≤ t.heap.size → (∀ q : Nat, q < H.size → t.heap[q]? = H[q]?) → XC cls s t)
    (hf : ∀ z ∈ locs, free z.base) (hc : cells + 1 ≤ mc) (hs : slots + 6 ≤ ms) :
    W p l e R s m args below meth c H locs cells slots (vx_MQ below Qc XC args s mc ms free) (F0 m pc ls rest) := by
  intro T hT X
  have htr : e.platform.stackTraces = false := (show e.platform.stackTraces = l.stackTraces by rw [X.admits.platform]).trans hl
  have Y := vx_rebase X (R' := { frames := R.frames, locals := R.locals, cells := 1, slots := 6 }) (Nat.le_refl _) (Nat.le_refl _) hRcells hRslots
  obtain ⟨s', hA⟩ : ∃ z, z = (T.setVm s.vm).setFrames (.invoking m args :: below) := ⟨_, rfl⟩
  rw [← hA] at Y
  have hvm : s'.vm = s.vm := by rw [hA]; rfl
  have hhp : s'.heap = H := by rw [hA]; exact hT
  have hW0 : s.WarmedH s'.vm := by rw [hvm]; exact State.WarmedH.refl s
  have hat' : ∀ w ∈ vx_at0 own ic cls names, w.before args s' = true := fun w hw => vx_ot_at hW0 hvm.symm (hgood w (List.mem_cons_of_mem _ (List.mem_cons_of_mem _ hw))) (hat w hw)
  have hk' : (Cond.classLink own ik cls).before args s' = true := vx_ot_at hW0 hvm.symm (hgood _ List.mem_cons_self) hk
  have hini' : (Cond.initialized cls).before args s' = true := vx_ot_at hW0 hvm.symm (hgood _ (List.mem_cons_of_mem _ List.mem_cons_self)) hini
  have hU' : vx_Zq Bundle.tN "UNASSIGNED_STACK" Bundle.steD A s' s'.heap := by rw [hhp]; exact vx_Zq.moved hW0.alike (hU.kept hS.2.1)
  have hN' : vx_Zq Bundle.tN "SUPPRESSED_SENTINEL" Bundle.listD A s' s'.heap := by rw [hhp]; exact vx_Zq.moved hW0.alike (hN.kept hS.2.1)
  have h : ∀ w ∈ Bundle.ownAtoms0 own ic cls names, w.before args s' = true := vx_own hat' (vx_isRefq hU'.1) (vx_isRefq hN'.1) hU'.2.word hN'.2.word
  have hown' : s'.vm.findClass own = some m.cls := by rw [hvm]; exact hown
  have hins : (Cond.instantiable cls 6).before args s' = true := h _ (by simp [Bundle.ownAtoms0])
  obtain ⟨vm₁, cX, kX, hfX, hkX, -, -, X₁, st1⟩ := Y.newCold hexec (own := own) (C := cls) (index := ik) (n := 6) hown' hk' hins hini'
    (g := F0 m pc ls rest) rfl (by rw [hb]; exact d0) (Nat.le_refl _) (Nat.le_refl _)
  generalize hT1 : (T.setVm vm₁).pushCell { cls := cX, slots := kX.instanceTypes.map defaultValue, vm := .none } = T1 at X₁ st1
  have hcat : (Value.ref T.heap.size).category = 1 := rfl
  have hcellA : T1.heap[T.heap.size]? = some (freshCell cX kX) := by rw [← hT1]; exact State.heap_pushCell_size _ _
  have d3' : decode c.code (pc + 3) = .ok (.dup, 1) := by rw [hb]; exact d3
  obtain ⟨U, hsteps, hrun, hend, hW, hsame, ce, hce, hO⟩ := X₁.ctorThrow0 hexec htr (own := own) (cls := cls) (names := names) (ic := ic) hown' hcls hnames h (fun x hx => nomatch hx) hfX hkX hcellA (by rw [hhp, hT]; exact Nat.le_refl _)
    (g := { method := m, pc := pc + 4, locals := ls, stack := .ref T.heap.size :: .ref T.heap.size :: rest, locked := none }) rfl hsize rfl rfl (rest := rest) rfl
    (by rw [hb]; exact d4) (by rw [hb]; exact d7) hout hRframes (by simp only [List.map_cons, List.sum_cons, hcat]; omega) hlocks
  obtain ⟨f1, f2⟩ := vx_frame hsame
  rw [hhp] at f1 f2
  have hWs : s.WarmedH U.vm := State.WarmedH.trans hW0 hW
  have hcl : s.vm.findClass cls = some ce.cls := by
    have h9 := hO.cls
    rw [hvm] at h9
    exact h9
  have hall : s.sameButNew ({ U with vm := s.vm } : State) locs mc ms := by
    subst hA
    obtain ⟨e1, e2⟩ := hsame
    rw [State.setFrames_setFrames] at e1
    have h2 : (T.setVm s.vm).sameButNew ({ U with vm := s.vm } : State) [] (0 + 1) (0 + 6) := ⟨e1, e2⟩
    have h3 := X.same.trans h2
    rw [List.append_nil] at h3
    exact h3.mono hc hs
  refine ⟨U, ?_, .threw T.heap.size, hrun, hend, Or.inr ⟨T.heap.size, rfl, cls, ce, locs, hx U hWs.alike f1 (fun q hq => f2 q hq (fun z hz => nomatch hz)), hce, hO.vm, hcl, hWs, hall, hf⟩⟩
  refine st1 _ ?_
  show Steps p.tables e below (T1.setTop { method := m, pc := pc + 3, locals := ls, stack := .ref T.heap.size :: rest, locked := none }) _
  jvm_step X₁.here [X₁.here.top, hexec, d3', Value.category]
  exact hsteps
/-- 'throw new E("text")': new; dup; ldc; invokespecial; athrow -/
theorem vx_throwS {cc : ByteArray} {pc : Nat} (hexec : p.tables.exec = Jvm.exec) (hb : c.code = cc) (hl : l.stackTraces = false) {own cls text : String} {names : List String} {ik is ic mc ms sa : Nat} {A : Nat → Prop}
    (hown : s.vm.findClass own = some m.cls) (hcls : Bundle.fit cls = true) (hnames : ∀ n ∈ names, Bundle.fit n = true)
    (hk : (Cond.classLink own ik cls).before args s = true) (hini : (Cond.initialized cls).before args s = true) (hstr : vk_R own is text sa s) (hat : ∀ w ∈ vx_atS own ic cls names, w.before args s = true)
    (hgood : ∀ w ∈ Cond.classLink own ik cls :: Cond.initialized cls :: vx_atS own ic cls names, vx_ot w = true)
    (hU : vx_Zq Bundle.tN "UNASSIGNED_STACK" Bundle.steD A s s.heap) (hN : vx_Zq Bundle.tN "SUPPRESSED_SENTINEL" Bundle.listD A s s.heap) (hS : va_S A s.heap H locs) (hsize : ls.size = c.maxLocals)
    (d0 : decode cc pc = .ok (.new ik, 3)) (d3 : decode cc (pc + 3) = .ok (.dup, 1)) (d4 : decode cc (pc + 4) = .ok (.ldc is, 2)) (d6 : decode cc (pc + 6) = .ok (.invokespecial ic, 3)) (d9 : decode cc (pc + 9) = .ok (.athrow, 1))
    (hout : ∀ x ∈ c.exceptionTable.toList, covers x (pc + 9) = false)
    (hRframes : names.length + 3 < R.frames) (hRlocals : (rest.map fun v => v.category).sum + (13 * (names.length + 1) + 43) ≤ R.locals) (hRcells : cells + 1 ≤ R.cells) (hRslots : slots + 6 ≤ R.slots) (hlocks : meth.locks = false)
    (hx : ∀ t : State, s.vm.Alike t.vm → H.size < t.heap.size → (∀ q : Nat, q < H.size → t.heap[q]? = H[q]?) → XC cls s t)
    (hf : ∀ z ∈ locs, free z.base) (hc : cells + 1 ≤ mc) (hs : slots + 6 ≤ ms) :
    W p l e R s m args below meth c H locs cells slots (vx_MQ below Qc XC args s mc ms free) (F0 m pc ls rest) := by
  intro T hT X
  have htr : e.platform.stackTraces = false := (show e.platform.stackTraces = l.stackTraces by rw [X.admits.platform]).trans hl
  have Y := vx_rebase X (R' := { frames := R.frames, locals := R.locals, cells := 1, slots := 6 }) (Nat.le_refl _) (Nat.le_refl _) hRcells hRslots
  obtain ⟨s', hA⟩ : ∃ z, z = (T.setVm s.vm).setFrames (.invoking m args :: below) := ⟨_, rfl⟩
  rw [← hA] at Y
  have hvm : s'.vm = s.vm := by rw [hA]; rfl
  have hhp : s'.heap = H := by rw [hA]; exact hT
  have hW0 : s.WarmedH s'.vm := by rw [hvm]; exact State.WarmedH.refl s
  have hat' : ∀ w ∈ vx_atS own ic cls names, w.before args s' = true := fun w hw => vx_ot_at hW0 hvm.symm (hgood w (List.mem_cons_of_mem _ (List.mem_cons_of_mem _ hw))) (hat w hw)
  have hk' : (Cond.classLink own ik cls).before args s' = true := vx_ot_at hW0 hvm.symm (hgood _ List.mem_cons_self) hk
  have hini' : (Cond.initialized cls).before args s' = true := vx_ot_at hW0 hvm.symm (hgood _ (List.mem_cons_of_mem _ List.mem_cons_self)) hini
  have hU' : vx_Zq Bundle.tN "UNASSIGNED_STACK" Bundle.steD A s' s'.heap := by rw [hhp]; exact vx_Zq.moved hW0.alike (hU.kept hS.2.1)
  have hN' : vx_Zq Bundle.tN "SUPPRESSED_SENTINEL" Bundle.listD A s' s'.heap := by rw [hhp]; exact vx_Zq.moved hW0.alike (hN.kept hS.2.1)
  have h : ∀ w ∈ Bundle.ownAtoms own ic cls names, w.before args s' = true := vx_own hat' (vx_isRefq hU'.1) (vx_isRefq hN'.1) hU'.2.word hN'.2.word
  have hown' : s'.vm.findClass own = some m.cls := by rw [hvm]; exact hown
  have hins : (Cond.instantiable cls 6).before args s' = true := h _ (by simp [Bundle.ownAtoms])
  obtain ⟨vm₁, cX, kX, hfX, hkX, -, -, X₁, st1⟩ := Y.newCold hexec (own := own) (C := cls) (index := ik) (n := 6) hown' hk' hins hini'
    (g := F0 m pc ls rest) rfl (by rw [hb]; exact d0) (Nat.le_refl _) (Nat.le_refl _)
  generalize hT1 : (T.setVm vm₁).pushCell { cls := cX, slots := kX.instanceTypes.map defaultValue, vm := .none } = T1 at X₁ st1
  have hcat : (Value.ref T.heap.size).category = 1 := rfl
  have hcellA : T1.heap[T.heap.size]? = some (freshCell cX kX) := by rw [← hT1]; exact State.heap_pushCell_size _ _
  have d3' : decode c.code (pc + 3) = .ok (.dup, 1) := by rw [hb]; exact d3
  have d4' : decode c.code (pc + 4) = .ok (.ldc is, 2) := by rw [hb]; exact d4
  have hstr' : vk_R own is text sa s' := vk_R.warm hW0 hstr
  obtain ⟨U, hsteps, hrun, hend, hW, hsame, ce, hce, hO⟩ := X₁.ctorThrowS hexec htr (own := own) (cls := cls) (names := names) (ic := ic) hown' hcls hnames h (fun x hx => nomatch hx) hfX hkX hcellA (by rw [hhp, hT]; exact Nat.le_refl _) (msg := .ref sa) rfl
    (g := { method := m, pc := pc + 6, locals := ls, stack := .ref sa :: .ref T.heap.size :: .ref T.heap.size :: rest, locked := none }) rfl hsize rfl rfl (rest := rest) rfl
    (by rw [hb]; exact d6) (by rw [hb]; exact d9) hout hRframes (by simp only [List.map_cons, List.sum_cons, hcat]; omega) hlocks
  obtain ⟨f1, f2⟩ := vx_frame hsame
  rw [hhp] at f1 f2
  have hWs : s.WarmedH U.vm := State.WarmedH.trans hW0 hW
  have hcl : s.vm.findClass cls = some ce.cls := by
    have h9 := hO.cls
    rw [hvm] at h9
    exact h9
  have hall : s.sameButNew ({ U with vm := s.vm } : State) locs mc ms := by
    subst hA
    obtain ⟨e1, e2⟩ := hsame
    rw [State.setFrames_setFrames] at e1
    have h2 : (T.setVm s.vm).sameButNew ({ U with vm := s.vm } : State) [] (0 + 1) (0 + 6) := ⟨e1, e2⟩
    have h3 := X.same.trans h2
    rw [List.append_nil] at h3
    exact h3.mono hc hs
  refine ⟨U, ?_, .threw T.heap.size, hrun, hend, Or.inr ⟨T.heap.size, rfl, cls, ce, locs, hx U hWs.alike (by have q9 := (Array.getElem?_eq_some_iff.mp hce).1; rw [hT] at q9; exact q9) (fun q hq => f2 q hq (fun z hz => nomatch hz)), hce, hO.vm, hcl, hWs, hall, hf⟩⟩
  refine st1 _ ?_
  show Steps p.tables e below (T1.setTop { method := m, pc := pc + 3, locals := ls, stack := .ref T.heap.size :: rest, locked := none }) _
  jvm_step X₁.here [X₁.here.top, hexec, d3', Value.category]
  exact X₁.ldcString hexec (own := own) (text := text) (index := is) (a := sa) hown' hstr'.1 hstr'.2
    (g := { method := m, pc := pc + 4, locals := ls, stack := .ref T.heap.size :: .ref T.heap.size :: rest, locked := none }) rfl d4' _ hsteps
/-- 'throw new E("text")', the text by a wide index -/
theorem vx_throwSW {cc : ByteArray} {pc : Nat} (hexec : p.tables.exec = Jvm.exec) (hb : c.code = cc) (hl : l.stackTraces = false) {own cls text : String} {names : List String} {ik is ic mc ms sa : Nat} {A : Nat → Prop}
    (hown : s.vm.findClass own = some m.cls) (hcls : Bundle.fit cls = true) (hnames : ∀ n ∈ names, Bundle.fit n = true)
    (hk : (Cond.classLink own ik cls).before args s = true) (hini : (Cond.initialized cls).before args s = true) (hstr : vk_R own is text sa s) (hat : ∀ w ∈ vx_atS own ic cls names, w.before args s = true)
    (hgood : ∀ w ∈ Cond.classLink own ik cls :: Cond.initialized cls :: vx_atS own ic cls names, vx_ot w = true)
    (hU : vx_Zq Bundle.tN "UNASSIGNED_STACK" Bundle.steD A s s.heap) (hN : vx_Zq Bundle.tN "SUPPRESSED_SENTINEL" Bundle.listD A s s.heap) (hS : va_S A s.heap H locs) (hsize : ls.size = c.maxLocals)
    (d0 : decode cc pc = .ok (.new ik, 3)) (d3 : decode cc (pc + 3) = .ok (.dup, 1)) (d4 : decode cc (pc + 4) = .ok (.ldc_w is, 3)) (d7 : decode cc (pc + 7) = .ok (.invokespecial ic, 3)) (d10 : decode cc (pc + 10) = .ok (.athrow, 1))
    (hout : ∀ x ∈ c.exceptionTable.toList, covers x (pc + 10) = false)
    (hRframes : names.length + 3 < R.frames) (hRlocals : (rest.map fun v => v.category).sum + (13 * (names.length + 1) + 43) ≤ R.locals) (hRcells : cells + 1 ≤ R.cells) (hRslots : slots + 6 ≤ R.slots) (hlocks : meth.locks = false)
    (hx : ∀ t : State, s.vm.Alike t.vm → H.size ≤ t.heap.size → (∀ q : Nat, q < H.size → t.heap[q]? = H[q]?) → XC cls s t)
    (hf : ∀ z ∈ locs, free z.base) (hc : cells + 1 ≤ mc) (hs : slots + 6 ≤ ms) :
    W p l e R s m args below meth c H locs cells slots (vx_MQ below Qc XC args s mc ms free) (F0 m pc ls rest) := by
  intro T hT X
  have htr : e.platform.stackTraces = false := (show e.platform.stackTraces = l.stackTraces by rw [X.admits.platform]).trans hl
  have Y := vx_rebase X (R' := { frames := R.frames, locals := R.locals, cells := 1, slots := 6 }) (Nat.le_refl _) (Nat.le_refl _) hRcells hRslots
  obtain ⟨s', hA⟩ : ∃ z, z = (T.setVm s.vm).setFrames (.invoking m args :: below) := ⟨_, rfl⟩
  rw [← hA] at Y
  have hvm : s'.vm = s.vm := by rw [hA]; rfl
  have hhp : s'.heap = H := by rw [hA]; exact hT
  have hW0 : s.WarmedH s'.vm := by rw [hvm]; exact State.WarmedH.refl s
  have hat' : ∀ w ∈ vx_atS own ic cls names, w.before args s' = true := fun w hw => vx_ot_at hW0 hvm.symm (hgood w (List.mem_cons_of_mem _ (List.mem_cons_of_mem _ hw))) (hat w hw)
  have hk' : (Cond.classLink own ik cls).before args s' = true := vx_ot_at hW0 hvm.symm (hgood _ List.mem_cons_self) hk
  have hini' : (Cond.initialized cls).before args s' = true := vx_ot_at hW0 hvm.symm (hgood _ (List.mem_cons_of_mem _ List.mem_cons_self)) hini
  have hU' : vx_Zq Bundle.tN "UNASSIGNED_STACK" Bundle.steD A s' s'.heap := by rw [hhp]; exact vx_Zq.moved hW0.alike (hU.kept hS.2.1)
  have hN' : vx_Zq Bundle.tN "SUPPRESSED_SENTINEL" Bundle.listD A s' s'.heap := by rw [hhp]; exact vx_Zq.moved hW0.alike (hN.kept hS.2.1)
  have h : ∀ w ∈ Bundle.ownAtoms own ic cls names, w.before args s' = true := vx_own hat' (vx_isRefq hU'.1) (vx_isRefq hN'.1) hU'.2.word hN'.2.word
  have hown' : s'.vm.findClass own = some m.cls := by rw [hvm]; exact hown
  have hins : (Cond.instantiable cls 6).before args s' = true := h _ (by simp [Bundle.ownAtoms])
  obtain ⟨vm₁, cX, kX, hfX, hkX, -, -, X₁, st1⟩ := Y.newCold hexec (own := own) (C := cls) (index := ik) (n := 6) hown' hk' hins hini'
    (g := F0 m pc ls rest) rfl (by rw [hb]; exact d0) (Nat.le_refl _) (Nat.le_refl _)
  generalize hT1 : (T.setVm vm₁).pushCell { cls := cX, slots := kX.instanceTypes.map defaultValue, vm := .none } = T1 at X₁ st1
  have hcat : (Value.ref T.heap.size).category = 1 := rfl
  have hcellA : T1.heap[T.heap.size]? = some (freshCell cX kX) := by rw [← hT1]; exact State.heap_pushCell_size _ _
  have d3' : decode c.code (pc + 3) = .ok (.dup, 1) := by rw [hb]; exact d3
  have d4' : decode c.code (pc + 4) = .ok (.ldc_w is, 3) := by rw [hb]; exact d4
  have hstr' : vk_R own is text sa s' := vk_R.warm hW0 hstr
  obtain ⟨U, hsteps, hrun, hend, hW, hsame, ce, hce, hO⟩ := X₁.ctorThrowS hexec htr (own := own) (cls := cls) (names := names) (ic := ic) hown' hcls hnames h (fun x hx => nomatch hx) hfX hkX hcellA (by rw [hhp, hT]; exact Nat.le_refl _) (msg := .ref sa) rfl
    (g := { method := m, pc := pc + 7, locals := ls, stack := .ref sa :: .ref T.heap.size :: .ref T.heap.size :: rest, locked := none }) rfl hsize rfl rfl (rest := rest) rfl
    (by rw [hb]; exact d7) (by rw [hb]; exact d10) hout hRframes (by simp only [List.map_cons, List.sum_cons, hcat]; omega) hlocks
  obtain ⟨f1, f2⟩ := vx_frame hsame
  rw [hhp] at f1 f2
  have hWs : s.WarmedH U.vm := State.WarmedH.trans hW0 hW
  have hcl : s.vm.findClass cls = some ce.cls := by
    have h9 := hO.cls
    rw [hvm] at h9
    exact h9
  have hall : s.sameButNew ({ U with vm := s.vm } : State) locs mc ms := by
    subst hA
    obtain ⟨e1, e2⟩ := hsame
    rw [State.setFrames_setFrames] at e1
    have h2 : (T.setVm s.vm).sameButNew ({ U with vm := s.vm } : State) [] (0 + 1) (0 + 6) := ⟨e1, e2⟩
    have h3 := X.same.trans h2
    rw [List.append_nil] at h3
    exact h3.mono hc hs
  refine ⟨U, ?_, .threw T.heap.size, hrun, hend, Or.inr ⟨T.heap.size, rfl, cls, ce, locs, hx U hWs.alike f1 (fun q hq => f2 q hq (fun z hz => nomatch hz)), hce, hO.vm, hcl, hWs, hall, hf⟩⟩
  refine st1 _ ?_
  show Steps p.tables e below (T1.setTop { method := m, pc := pc + 3, locals := ls, stack := .ref T.heap.size :: rest, locked := none }) _
  jvm_step X₁.here [X₁.here.top, hexec, d3', Value.category]
  exact X₁.ldcStringW hexec (own := own) (text := text) (index := is) (a := sa) hown' hstr'.1 hstr'.2
    (g := { method := m, pc := pc + 4, locals := ls, stack := .ref T.heap.size :: .ref T.heap.size :: rest, locked := none }) rfl d4' _ hsteps
end Ends
section Bodies
variable {l : Launch}
theorem vx_ofW {y : MethodName} {ws ws' : List Cond} {rm : Room} {Pc : Array Value → State → Prop} {Qc : Array Value → State → Outcome → State → Prop} {XC : String → State → State → Prop} {mc ms : Nat} {free : Addr → Prop} {cc : ByteArray} {maxL : Nat} {ret : Option FieldType}
    (hy : plainName y.cls = true) (hw : ws = Cond.code y cc maxL ret :: ws')
    (body : ∀ p e s m args below meth c s₁, BodyLoose p l y (headSpec ws rm) cc maxL ret e s m args below meth c s₁ → c.maxLocals = maxL → (∀ x ∈ c.exceptionTable.toList, False) → Pc args s →
      W p l e (headSpec ws rm).room s m args below meth c s.heap [] 0 0 (vx_MQ below Qc XC args s mc ms free) (entryFrame m args maxL)) : vx_Met l y ws rm Pc Qc XC mc ms free := by
  refine MetFree.of_bodyS (code := cc) (maxLocals := maxL) (ret := ret) hy ?_ ?_
  · intro args s m h hn
    obtain ⟨meth, c, h1, h2, h3, h4, h5, h6, -, -⟩ := Cond.code_spec hn (atoms_spec (ws := ws) h _ (by rw [hw]; exact List.mem_cons_self))
    exact ⟨meth, c, h1, h2, h3, h4, h5, h6⟩
  · intro p e s m args below meth c s₁ B hml hP _
    have hh0 : s₁.heap = s.heap := by rw [B.state]; rfl
    have ht : ∀ x ∈ c.exceptionTable.toList, False := by
      obtain ⟨meth9, c9, h1, h2, -, -, -, -, h7, -⟩ := Cond.code_spec B.named (atoms_spec (ws := ws) B.pre _ (by rw [hw]; exact List.mem_cons_self))
      cases Option.some.inj (h1.symm.trans B.method)
      cases Option.some.inj (h2.symm.trans (Stand.of_body B).code)
      intro x hx
      rw [Array.isEmpty_iff.mp h7] at hx
      cases hx
    obtain ⟨t, a1, o, b1, b2, b3⟩ := body p e s m args below meth c s₁ B hml ht hP s₁ hh0 (Stand.of_body B)
    exact ⟨t, o, a1, b1, b2, b3⟩
/-- the table of a body with handlers -/
theorem vx_table {p : Program} {x y : MethodName} {S : Spec} {cc bytes : ByteArray} {maxL maxL' : Nat} {ret ret' : Option FieldType} {e : Env} {s s₁ : State} {m : MethodId} {args : Array Value} {below : List Frame} {meth : Method} {c : Code} {hh : List (Nat × Nat × Nat × Nat)}
    (B : BodyLoose p l y S cc maxL ret e s m args below meth c s₁) (h : (Cond.codeWith y bytes maxL' ret' hh).before args s = true) : c.exceptionTable.toList = tableOf hh := by
  obtain ⟨m9, meth9, c9, hn9, h1, h2, -, -, h6, -⟩ := Cond.codeWith_spec h
  cases Option.some.inj (hn9.symm.trans B.named)
  cases Option.some.inj (h1.symm.trans B.method)
  cases Option.some.inj (h2.symm.trans (Stand.of_body B).code)
  rw [← h6, table_eq]
end Bodies
end VXA
/-! ===== END ===== -/
/-! ===== BEGIN a static call of a method with an exception table ===== -/
section VXS
variable {p : Program} {l : Launch} {e : Env} {R : Room} {s : State} {m : MethodId} {args : Array Value} {below : List Frame} {meth : Method} {c : Code} {T : State} {H : Heap} {locs : List Loc} {cells slots : Nat}
abbrev vx_CSW (R : Room) (s : State) (args : Array Value) (own : String) (index : Nat) (y : MethodName) (bytes : ByteArray) (maxL : Nat) (ret : Option FieldType) (hh : List (Nat × Nat × Nat × Nat)) (ws : List Cond) (rm : Room) (mc ms n : Nat) : Prop :=
  (rm.cells = mc ∧ rm.slots = ms ∧ rm.frames + 1 ≤ R.frames ∧ 8 + (maxL + 11) + rm.locals ≤ R.locals ∧ (∀ w ∈ ws, ∀ (a' : Array Value) (U : State), s.WarmedH U.vm → w.before a' U = true) ∧ Cond.codeWith y bytes maxL ret hh ∈ ws) ∧
  (Cond.codeWith y bytes maxL ret hh).before args s = true ∧ (Cond.initialized y.cls).before args s = true ∧ (y.cls ≠ "java/lang/invoke/MethodHandle" ∧ y.cls ≠ "java/lang/invoke/VarHandle") ∧
  (∀ sig, parseMethodDescriptor y.desc = some sig → n = sig.parameters.length) ∧ (Cond.methodLink own index y).before args s = true ∧ (Cond.static y).before args s = true
theorem vx_cwSW {own : String} {index maxL mc ms : Nat} {y : MethodName} {bytes : ByteArray} {ret : Option FieldType} {hh : List (Nat × Nat × Nat × Nat)} {Ts ws ws' : List Cond} {rm : Room} (n : Nat) (ht : ∀ w ∈ Ts, w.before args s = true) (hT : GoodIn Ts (va_wsS own index y ws)) (hw : ws = Cond.codeWith y bytes maxL ret hh :: ws') (hrc : rm.cells = mc) (hrs : rm.slots = ms)
    (hd : y.cls ≠ "java/lang/invoke/MethodHandle" ∧ y.cls ≠ "java/lang/invoke/VarHandle" ∧ (parseMethodDescriptor y.desc).map (fun d => d.parameters.length) = some n) (hR : rm.frames + 1 ≤ R.frames ∧ 8 + (maxL + 11) + rm.locals ≤ R.locals) :
    vx_CSW R s args own index y bytes maxL ret hh ws rm mc ms n := by
  have ok : ∀ w ∈ va_wsS own index y ws, w.before args s = true := fun w h => ht w (hT w h).1
  have hG : GoodIn Ts ws := fun w h => hT w (by unfold va_wsS; exact List.mem_append_right _ h)
  have hc : Cond.codeWith y bytes maxL ret hh ∈ ws := by rw [hw]; exact List.mem_cons_self
  refine ⟨⟨hrc, hrs, hR.1, hR.2, pay_in ht hG, hc⟩, ht _ (hG _ hc).1, ok _ (by simp [va_wsS]), ⟨hd.1, hd.2.1⟩, fun sig h => ?_, ok _ (by simp [va_wsS]), ok _ (by simp [va_wsS])⟩
  have h2 := hd.2.2
  rw [h] at h2
  exact (Option.some.inj h2).symm
theorem vx_callSW (X : Stand p l e R s m args below meth c T locs cells slots) (hexec : p.tables.exec = Jvm.exec) {own : String} {index : Nat} {y : MethodName} {bytes : ByteArray} {maxL : Nat} {ret : Option FieldType} {hh : List (Nat × Nat × Nat × Nat)}
    (hown : s.vm.findClass own = some m.cls) (hlink : (Cond.methodLink own index y).before args s = true) (hstat : (Cond.static y).before args s = true) (hinit : (Cond.initialized y.cls).before args s = true)
    (hcode : (Cond.codeWith y bytes maxL ret hh).before args s = true) (hy : y.cls ≠ "java/lang/invoke/MethodHandle" ∧ y.cls ≠ "java/lang/invoke/VarHandle")
    {W9 : Nat} {Pre : Pt → Array Value → Prop} {Post : Pt → Array Value → Option Value → Pt → Prop} (hK : Back l R p e below s args y 3 W9 Pre Post)
    {g : JFrame} (hg : g.method = m) (hsize : g.locals.size = c.maxLocals) {argsL rest : List Value} (hlen : ∀ sig, parseMethodDescriptor y.desc = some sig → argsL.length = sig.parameters.length)
    (hstack : g.stack = argsL.reverse ++ rest) (hW : 2 * g.monitorRoom + (rest.map fun v => v.category).sum ≤ W9) (hdg : decode c.code g.pc = .ok (.invokestatic index, 3))
    (hpre : ∀ vm₁, s.WarmedH vm₁ → Pre ⟨T.setVm vm₁, locs, cells, slots⟩ argsL.toArray) :
    ∃ (v : Option Value) (vm₁ : Vm) (B : Pt), s.WarmedH vm₁ ∧ Stand p l e R s m args below meth c B.U B.locs B.cells B.slots ∧ Post ⟨T.setVm vm₁, locs, cells, slots⟩ argsL.toArray v B ∧
      ∀ target, Steps p.tables e below (B.U.setTop { g with pc := g.pc + 3, stack := v.toList ++ rest }) target → Steps p.tables e below (T.setTop g) target := by
  obtain ⟨mk, methM, cM, hnamed, hmethM, -, -, -, -, -, -, hsigM⟩ := Cond.codeWith_spec hcode
  have hstatic : methM.isStatic = true := Cond.static_spec hnamed hmethM hstat
  obtain ⟨kP, hkP, -⟩ := className_of_methodNamed hnamed
  have hinitP : kP.init = .initialized := Cond.initialized_spec (findClass_of_methodNamed hnamed) hkP hinit
  obtain ⟨vm₁, X₁, hstep₁⟩ := X.invokestatic hexec hown hlink hnamed hmethM hstatic hkP hinitP hy (g := g) hg (argsL := argsL) (rest := rest) (hlen _ hsigM) hstack hdg
  obtain ⟨v, B, X', hpost, hsteps⟩ := hK m meth c ⟨T.setVm vm₁, locs, cells, slots⟩ { g with stack := rest } (.invokestatic index) mk argsL.toArray X₁ hg hsize hdg hW (X₁.named hnamed) (hpre vm₁ X₁.warmed)
  exact ⟨v, vm₁, B, X₁.warmed, X', hpost, fun target h => hstep₁ _ fun acts => by rw [doInvoke_state]; exact hsteps.trans h⟩
theorem vx_runSW {y : MethodName} {bytes cc : ByteArray} {maxL nL mc ms n index : Nat} {ret : Option FieldType} {hh : List (Nat × Nat × Nat × Nat)} {ws : List Cond} {rm : Room} {Pc : Array Value → State → Prop} {Qc : Array Value → State → Outcome → State → Prop} {free : Addr → Prop} {Ts : List Cond} {own : String} {As rest : List Value} {g : JFrame}
    (S : CallFix p m c cc nL s args Ts own) (hM : Met l y ws rm Pc Qc mc ms free) (cw : vx_CSW R s args own index y bytes maxL ret hh ws rm mc ms n) (hp : PreS s H Pc As)
    (hg : g.method = m) (hn : As.length = n) (hsize : g.locals.size = nL) (hstack : g.stack = As.reverse ++ rest) (hW : 2 * g.monitorRoom + (rest.map fun v => v.category).sum ≤ 8) (hdg : decode cc g.pc = .ok (.invokestatic index, 3)) (hf : cells + mc ≤ R.cells ∧ slots + ms ≤ R.slots) :
    va_Run p l e R s m args below meth c H locs cells slots mc ms g rest (Qc As.toArray) (free) := by
  obtain ⟨⟨hrc, hrs, hfr, hlo, hws, hcw⟩, hcode, hini, hy, hlen, hl, hstt⟩ := cw
  have hK : Back l R p e below s args y 3 8 (PreOf R mc ms Pc) (PostOf Qc mc ms free) := va_backW (hh := hh) (bytes := bytes) (maxL := maxL) (ret := ret) hM hp.1 hrc hrs hfr hlo hws hcw (fun a' U hW => word_at hW (Or.inl (by first | rfl | simp [Cond.onTables, Cond.keeps, Cond.steady])) hini)
  obtain ⟨hx, hb, hml, ho, -⟩ := S
  intro T hT X
  obtain ⟨v, vm₁, ⟨U', l2, c2, s2⟩, hW₁, X', ⟨g', mk, t, L, e1, e2, hq, h1, hL, h2, h3⟩, st⟩ := vx_callSW X hx (hh := hh) (bytes := bytes) (maxL := maxL) (ret := ret) ho hl hstt hini hcode hy hK hg (hsize.trans hml.symm) (argsL := As) (rest := rest) (fun sig h => hn.trans (hlen sig h)) hstack hW (by rw [hb]; exact hdg)
    (fun vm₁ hW₁ => ⟨hf.1, hf.2, hp.2 (T.setVm vm₁) hT hW₁⟩)
  dsimp only [Pt.U, Pt.locs, Pt.cells, Pt.slots] at X' e1 e2 h1 h2 h3 st
  subst h1; subst h2; subst h3
  exact ⟨v, (T.setVm vm₁).calling g' mk As.toArray, t, U', L, hT, X', hL, e1, e2, hq, st⟩
/-- not caught here, past rows that name other classes: it goes on to the caller -/
theorem vx_outP {p : Program} {l : Launch} {e : Env} {R : Room} {s : State} {m : MethodId} {args : Array Value} {below : List Frame} {meth : Method} {c : Code} {H : Heap} {locs : List Loc} {cells slots : Nat} {free : Addr → Prop} {ls : Array Slot} {rest : List Value} {Qc : Array Value → State → Outcome → State → Prop} {XC : String → State → State → Prop}
    {pc : Nat} {own E : String} {ce : Cell} {q : Addr} {mc ms : Nat} (hown : s.vm.findClass own = some m.cls) (hlocks : meth.locks = false)
    (hpass : ∀ z ∈ c.exceptionTable.toList, covers z pc = false ∨ (z.catchType ≠ 0 ∧ ∃ nm : String, (Cond.classLink own z.catchType nm).before args s = true ∧ va_Nc E nm s)) (hcell : H[q]? = some ce) (hv : ce.vm = .none) (hcl : s.vm.findClass E = some ce.cls)
    (hx : ∀ t : State, t.heap = H → s.vm.Alike t.vm → XC E s t) (hf : ∀ z ∈ locs, free z.base) (hc : cells ≤ mc) (hs : slots ≤ ms) :
    vx_W p l e R s m args below meth c H locs cells slots (vx_MQ below Qc XC args s mc ms free) (F0 m pc ls rest) q := by
  intro T hT X
  have hpl : e.platform.magicAccessors = ({} : Platform).magicAccessors := by rw [X.admits.platform]
  obtain ⟨vm', hW', X', st⟩ := X.outThrough hlocks q (g := F0 m pc ls rest) rfl rfl rfl (cell := ce) (by rw [hT]; exact hcell) (by rw [hv]; rfl)
    (by obtain ⟨k9, h9, -⟩ := Vm.findClass_spec hcl; exact ⟨k9, h9⟩) (fun z hz => by
      rcases hpass z hz with h | ⟨hz0, nm, hl1, hn1⟩
      · exact Or.inl h
      · obtain ⟨c6, hc6, hcl6⟩ := Cond.classLink_spec hown hl1 e.platform hpl
        obtain ⟨a8, b8, h1, h2, h3⟩ := hn1
        cases Option.some.inj (h1.symm.trans hcl)
        cases Option.some.inj (h2.symm.trans hc6)
        exact Or.inr ⟨hz0, _, hcl6, h3⟩)
  obtain ⟨g₀, hfr⟩ := X'.frames_eq
  have hcell9 : ((T.setVm vm').setFrames (.throwing q :: below)).heap[q]? = some ce := by
    show T.heap[q]? = some ce
    rw [hT]; exact hcell
  have hend : Ended ((T.setVm vm').setFrames (.throwing q :: below)) below (.threw q) := State.frames_setFrames _ (State.cur_lt_of_frames hfr)
  refine ⟨(T.setVm vm').setFrames (.throwing q :: below), ?_, .threw q, X'.here.running, hend, Or.inr ⟨q, rfl, E, ce, locs, hx _ hT (X'.ends _).1.alike, hcell9, hv, hcl, (X'.ends _).1, (X'.ends _).2.mono hc hs, hf⟩⟩
  rw [X.pushThrowing_eq]
  exact st
/-- a thing of a world lies in the heap -/
theorem vx_lt {D : va_G} {cl : List vw_C} {ws : va_W} {H1 : Heap} (h : va_P D cl ws H1) {k : Nat} {q : Nat × va_E} (hk : ws[k]? = some q) : q.1 < H1.size := (h k q hk).lt
end VXS
/-! ===== END ===== -/
/-! ===== BEGIN methods with a table of their own: called by a name, returning or throwing ===== -/
section VXH
/-! vx_backW, vx_callVX, vx_callSX, vx_callVW, vx_runVW, vx_runVX, vx_runSX, vx_ofWH follow the same proofs as their sisters above (Free/Laws.lean, Shelf42/LK1.lean); vx_outP calls Shelf42/NT130.lean (outThrough). -/
section
variable {l : Launch} {R : Room} {p : Program} {e : Env} {below : List Frame} {s : State} {sargs : Array Value} {y : MethodName} {len W9 : Nat}
theorem vx_backW {ws : List Cond} {rm : Room} {Pc : Array Value → State → Prop} {Qc : Array Value → State → Outcome → State → Prop} {XC : String → State → State → Prop} {mc ms : Nat} {free : Addr → Prop} {bytes : ByteArray} {maxL : Nat} {ret : Option FieldType} {hh : List (Nat × Nat × Nat × Nat)}
    (hM : vx_Met l y ws rm Pc Qc XC mc ms free) (hblind : FrameBlind Pc) (hrc : rm.cells = mc) (hrs : rm.slots = ms)
    (hframes : rm.frames + 1 ≤ R.frames) (hlocals : W9 + (maxL + 11) + rm.locals ≤ R.locals)
    (hws : ∀ w ∈ ws, ∀ a' U, s.WarmedH U.vm → w.before a' U = true) (hcode : Cond.codeWith y bytes maxL ret hh ∈ ws) (hinit : ∀ a' U, s.WarmedH U.vm → (Cond.initialized y.cls).before a' U = true) :
    vx_Back l R p e below s sargs y len W9 (PreOf R mc ms Pc) (PostOf Qc mc ms free) (vx_Post XC mc ms free) := by
  intro m meth c A g ig mk a X hg hsize hdg hW hn hp
  have h1 : (headSpec ws rm).pre.before a A.U = true := atoms_intro fun w hw => hws w hw _ _ X.warmed
  have h2 : (Cond.codeWith y bytes maxL ret hh).before a A.U = true := hws _ hcode _ _ X.warmed
  have h3 : (Cond.initialized y.cls).before a A.U = true := hinit _ _ X.warmed
  have h4 : A.cells + (headSpec ws rm).room.cells ≤ R.cells := by rw [show (headSpec ws rm).room.cells = mc from hrc]; exact hp.1
  have h5 : A.slots + (headSpec ws rm).room.slots ≤ R.slots := by rw [show (headSpec ws rm).room.slots = ms from hrs]; exact hp.2.1
  have hPc : Pc a (A.U.calling g mk a) := hblind _ _ _ _ hp.2.2
  obtain ⟨U, Ls, c0, s0⟩ := A
  dsimp only [Pt.U, Pt.locs, Pt.cells, Pt.slots] at h1 h2 h3 h4 h5 X hn hPc ⊢
  obtain ⟨m9, methY, cY, hn9, hmY, hcY, -, hlY, -⟩ := Cond.codeWith_spec h2
  cases Option.some.inj (hn9.symm.trans hn)
  obtain ⟨kY, hkY, -⟩ := className_of_methodNamed hn
  have hinitY : kY.init = .initialized := Cond.initialized_spec (findClass_of_methodNamed hn) hkY h3
  have h : At U g.method c below := by rw [hg]; exact X.here
  have hlocals9 : W9 + (maxL + 11) + (headSpec ws rm).room.locals ≤ R.locals := hlocals
  have happ : (headSpec ws rm).appliesLoose y e.platform (U.calling g mk a) = true :=
    Spec.appliesLoose_calling (g := g) h hdg hn hkY hinitY
      (X.room_calling (g := g) (R' := (headSpec ws rm).room) hsize hmY hcY hframes (by rw [hlY]; omega) h4 h5) h1
  obtain ⟨mid, hmid⟩ := h.above
  have hfr : (U.setTop g).frames = (.java g :: mid) ++ below := by rw [State.frames_setTop' g h.top, hmid]; rfl
  obtain ⟨o, s₂, hsteps, -, hend, hq⟩ := Steps.callFree hM p X.admits X.cas X.clock (acts := []) hfr happ hPc trivial
  have hq' : vx_Q Qc XC mc ms free a (U.calling g mk a) o s₂ := hq
  rw [State.frames_setTop' g h.top] at hend
  obtain ⟨g₀, hg0⟩ := Option.isSome_iff_exists.mp h.top
  obtain ⟨r, hr⟩ := State.topJava?_eq_some.mp hg0
  have hr' : (({ U with heap := s₂.heap, slotsUsed := s₂.slotsUsed } : State).setVm s₂.vm).frames = .java g₀ :: r := hr
  rcases hq' with ⟨hqc, L, hfe, hL⟩ | ⟨q, rfl, E, ce, L, hx, hce, hcv, hcl, hW₂, hsm, hL⟩
  · obtain ⟨⟨v, rfl⟩, hW₂, e2, q2, q3, q4, q5, q6⟩ := id hfe
    have e3 : s₂ = ({ (U.calling g mk a).setFrames s₂.frames with heap := s₂.heap, slotsUsed := s₂.slotsUsed } : State).setVm s₂.vm := by
      have : s₂ = ({ s₂ with vm := (U.calling g mk a).vm } : State).setVm s₂.vm := rfl
      rw [e2] at this
      exact this
    obtain ⟨c₂, i₂, len₂, hc₂, hd₂, hf₂⟩ := hend
    have hW' : U.WarmedH s₂.vm := hW₂
    have hcc : c₂ = c := by
      have h1 : s₂.code? g.method = U.code? g.method := by
        rw [State.code?_eq, State.code?_eq, hW'.alike.method?]
      exact Option.some.inj (hc₂.symm.trans (h1.trans h.code))
    subst hcc
    have hlen : len₂ = len := by rw [hdg] at hd₂; cases hd₂; rfl
    subst hlen
    have hs₂ : s₂ = (({ U with heap := s₂.heap, slotsUsed := s₂.slotsUsed } : State).setVm s₂.vm).setTop { g with pc := g.pc + len₂, stack := v.toList ++ g.stack } := by
      refine e3.trans ?_
      rw [hf₂, State.calling_eq h.top, State.setFrames_setFrames, State.setTop_of_frames _ hr', hr]
      rfl
    have hsame : U.sameButNew ({ U with heap := s₂.heap, slotsUsed := s₂.slotsUsed } : State) L mc ms := by
      refine ⟨?_, q2, q3, q4, q5, q6⟩
      obtain ⟨t, ht, -⟩ := State.frames_cons hr
      show ({ U with heap := s₂.heap, slotsUsed := s₂.slotsUsed } : State) = { U.setFrames U.frames with heap := s₂.heap, slotsUsed := s₂.slotsUsed }
      rw [State.setFrames_self ht]
    subst hg
    refine Or.inl ⟨v, ⟨(({ U with heap := s₂.heap, slotsUsed := s₂.slotsUsed } : State).setVm s₂.vm), Ls ++ L, c0 + mc, s0 + ms⟩,
      ⟨X.admits, X.cas, X.clock, X.frames, X.room, X.hears, X.method, X.code, (X.here.setHeapUsed s₂.heap s₂.slotsUsed).setVm hW'.alike, X.tail, State.WarmedH.trans X.warmed hW', X.limits, X.bytes, X.same.trans (hsame.setVm s.vm)⟩,
      ⟨g, mk, s₂, L, rfl, rfl, hqc, rfl, hL, rfl, rfl⟩, ?_⟩
    show Steps p.tables e below _ ((({ U with heap := s₂.heap, slotsUsed := s₂.slotsUsed } : State).setVm s₂.vm).setTop { g with pc := g.pc + len₂, stack := v.toList ++ g.stack })
    rw [← hs₂]
    exact hsteps
  · obtain ⟨e2, q2, q3, q4, q5, q6⟩ := id hsm
    have e3 : s₂ = ({ (U.calling g mk a).setFrames s₂.frames with heap := s₂.heap, slotsUsed := s₂.slotsUsed } : State).setVm s₂.vm := by
      have : s₂ = ({ s₂ with vm := (U.calling g mk a).vm } : State).setVm s₂.vm := rfl
      rw [e2] at this
      exact this
    have hf₂ : s₂.frames = .throwing q :: .java g :: U.frames.tail := hend
    have hW' : U.WarmedH s₂.vm := hW₂
    have hs₂ : s₂ = ((({ U with heap := s₂.heap, slotsUsed := s₂.slotsUsed } : State).setVm s₂.vm).setTop g).pushFrame (.throwing q) := by
      refine e3.trans ?_
      rw [hf₂, State.calling_eq h.top, State.setFrames_setFrames, State.pushFrame, State.frames_setTop _ hr', State.setTop_of_frames _ hr', State.setFrames_setFrames, hr]
      rfl
    have hsame : U.sameButNew ({ U with heap := s₂.heap, slotsUsed := s₂.slotsUsed } : State) L mc ms := by
      refine ⟨?_, q2, q3, q4, q5, q6⟩
      obtain ⟨t, ht, -⟩ := State.frames_cons hr
      show ({ U with heap := s₂.heap, slotsUsed := s₂.slotsUsed } : State) = { U.setFrames U.frames with heap := s₂.heap, slotsUsed := s₂.slotsUsed }
      rw [State.setFrames_self ht]
    subst hg
    refine Or.inr ⟨q, ⟨(({ U with heap := s₂.heap, slotsUsed := s₂.slotsUsed } : State).setVm s₂.vm), Ls ++ L, c0 + mc, s0 + ms⟩,
      ⟨X.admits, X.cas, X.clock, X.frames, X.room, X.hears, X.method, X.code, (X.here.setHeapUsed s₂.heap s₂.slotsUsed).setVm hW'.alike, X.tail, State.WarmedH.trans X.warmed hW', X.limits, X.bytes, X.same.trans (hsame.setVm s.vm)⟩,
      ⟨g, mk, s₂, L, E, ce, rfl, rfl, hx, hce, hcv, hcl, rfl, hL, rfl, rfl⟩, ?_⟩
    show Steps p.tables e below _ (((({ U with heap := s₂.heap, slotsUsed := s₂.slotsUsed } : State).setVm s₂.vm).setTop g).pushFrame (.throwing q))
    rw [← hs₂]
    exact hsteps
end
variable {p : Program} {l : Launch} {e : Env} {R : Room} {s : State} {m : MethodId} {args : Array Value} {below : List Frame} {meth : Method} {c : Code} {T : State} {H : Heap} {locs : List Loc} {cells slots : Nat}
theorem vx_callVX (X : Stand p l e R s m args below meth c T locs cells slots) (hexec : p.tables.exec = Jvm.exec) {own C : String} {index : Nat} {y : MethodName} {bytes : ByteArray} {maxL : Nat} {ret : Option FieldType} {hh : List (Nat × Nat × Nat × Nat)}
    (hown : s.vm.findClass own = some m.cls) (hlink : (Cond.methodLink own index y).before args s = true) (hinst : (Cond.instanceMethod y).before args s = true) (hsel : (Cond.selects C y y).before args s = true)
    (hcode : (Cond.codeWith y bytes maxL ret hh).before args s = true) (hy : y.cls ≠ "java/lang/invoke/MethodHandle" ∧ y.cls ≠ "java/lang/invoke/VarHandle")
    {W9 : Nat} {Pre : Pt → Array Value → Prop} {Post : Pt → Array Value → Option Value → Pt → Prop} {PostX : Pt → Array Value → Addr → Pt → Prop} (hK : vx_Back l R p e below s args y 3 W9 Pre Post PostX)
    {b : Addr} {cellB : Cell} (hcell : T.heap[b]? = some cellB) (hobj : cellB.vm.isStatics = false) (hcls : s.vm.findClass C = some cellB.cls)
    {g : JFrame} (hg : g.method = m) (hsize : g.locals.size = c.maxLocals) {argsL rest : List Value} (hlen : ∀ sig, parseMethodDescriptor y.desc = some sig → argsL.length = sig.parameters.length)
    (hstack : g.stack = argsL.reverse ++ .ref b :: rest) (hW : 2 * g.monitorRoom + (rest.map fun v => v.category).sum ≤ W9) (hdg : decode c.code g.pc = .ok (.invokevirtual index, 3))
    (hpre : ∀ vm₁, s.WarmedH vm₁ → Pre ⟨T.setVm vm₁, locs, cells, slots⟩ (Value.ref b :: argsL).toArray) :
    (∃ (v : Option Value) (vm₁ : Vm) (B : Pt), s.WarmedH vm₁ ∧ Stand p l e R s m args below meth c B.U B.locs B.cells B.slots ∧ Post ⟨T.setVm vm₁, locs, cells, slots⟩ (Value.ref b :: argsL).toArray v B ∧
      ∀ target, Steps p.tables e below (B.U.setTop { g with pc := g.pc + 3, stack := v.toList ++ rest }) target → Steps p.tables e below (T.setTop g) target) ∨
    (∃ (q : Addr) (vm₁ : Vm) (B : Pt), s.WarmedH vm₁ ∧ Stand p l e R s m args below meth c B.U B.locs B.cells B.slots ∧ PostX ⟨T.setVm vm₁, locs, cells, slots⟩ (Value.ref b :: argsL).toArray q B ∧
      Steps p.tables e below (T.setTop g) ((B.U.setTop { g with stack := rest }).pushFrame (.throwing q))) := by
  obtain ⟨mk, methM, hnamed, hmethM, hstM, habM⟩ := Cond.instanceMethod_spec hinst
  obtain ⟨m8, methM', cM, hn8, hmethM', -, -, -, -, -, -, hsigM⟩ := Cond.codeWith_spec hcode
  cases Option.some.inj (hn8.symm.trans hnamed)
  cases hmethM.symm.trans hmethM'
  obtain ⟨c2, r2, m2, q1, q2, q3, q4, kP, hkP, hkPi⟩ := Cond.selects_spec hsel
  cases hcls.symm.trans q1
  cases (State.methodFound?_of_named hnamed hy).symm.trans q2
  cases hnamed.symm.trans q3
  have hselP : selectMethod e.platform s.vm cellB.cls mk = .method mk := by rw [Launch.admits_selectMethod X.admits]; exact q4
  obtain ⟨vm₁, X₁, hstep₁⟩ := X.invokevirtual hexec hown hlink hnamed hmethM hstM hkP hkPi hy (a := b) (cell := cellB) hcell
    (fun z h => by rw [h] at hobj; cases hobj) hselP hmethM habM hkP hkPi (g := g) hg (argsL := argsL) (rest := rest) (hlen _ hsigM) hstack hdg
  rcases hK m meth c ⟨T.setVm vm₁, locs, cells, slots⟩ { g with stack := rest } (.invokevirtual index) mk (Value.ref b :: argsL).toArray X₁ hg hsize hdg hW (X₁.named hnamed) (hpre vm₁ X₁.warmed) with ⟨v, B, X', hpost, hsteps⟩ | ⟨q, B, X', hpost, hsteps⟩
  · exact Or.inl ⟨v, vm₁, B, X₁.warmed, X', hpost, fun target h => hstep₁ _ fun acts => by rw [doInvoke_state]; exact hsteps.trans h⟩
  · exact Or.inr ⟨q, vm₁, B, X₁.warmed, X', hpost, hstep₁ _ fun acts => by rw [doInvoke_state]; exact hsteps⟩
theorem vx_callSX (X : Stand p l e R s m args below meth c T locs cells slots) (hexec : p.tables.exec = Jvm.exec) {own : String} {index : Nat} {y : MethodName} {bytes : ByteArray} {maxL : Nat} {ret : Option FieldType} {hh : List (Nat × Nat × Nat × Nat)}
    (hown : s.vm.findClass own = some m.cls) (hlink : (Cond.methodLink own index y).before args s = true) (hstat : (Cond.static y).before args s = true) (hinit : (Cond.initialized y.cls).before args s = true)
    (hcode : (Cond.codeWith y bytes maxL ret hh).before args s = true) (hy : y.cls ≠ "java/lang/invoke/MethodHandle" ∧ y.cls ≠ "java/lang/invoke/VarHandle")
    {W9 : Nat} {Pre : Pt → Array Value → Prop} {Post : Pt → Array Value → Option Value → Pt → Prop} {PostX : Pt → Array Value → Addr → Pt → Prop} (hK : vx_Back l R p e below s args y 3 W9 Pre Post PostX)
    {g : JFrame} (hg : g.method = m) (hsize : g.locals.size = c.maxLocals) {argsL rest : List Value} (hlen : ∀ sig, parseMethodDescriptor y.desc = some sig → argsL.length = sig.parameters.length)
    (hstack : g.stack = argsL.reverse ++ rest) (hW : 2 * g.monitorRoom + (rest.map fun v => v.category).sum ≤ W9) (hdg : decode c.code g.pc = .ok (.invokestatic index, 3))
    (hpre : ∀ vm₁, s.WarmedH vm₁ → Pre ⟨T.setVm vm₁, locs, cells, slots⟩ argsL.toArray) :
    (∃ (v : Option Value) (vm₁ : Vm) (B : Pt), s.WarmedH vm₁ ∧ Stand p l e R s m args below meth c B.U B.locs B.cells B.slots ∧ Post ⟨T.setVm vm₁, locs, cells, slots⟩ argsL.toArray v B ∧
      ∀ target, Steps p.tables e below (B.U.setTop { g with pc := g.pc + 3, stack := v.toList ++ rest }) target → Steps p.tables e below (T.setTop g) target) ∨
    (∃ (q : Addr) (vm₁ : Vm) (B : Pt), s.WarmedH vm₁ ∧ Stand p l e R s m args below meth c B.U B.locs B.cells B.slots ∧ PostX ⟨T.setVm vm₁, locs, cells, slots⟩ argsL.toArray q B ∧
      Steps p.tables e below (T.setTop g) ((B.U.setTop { g with stack := rest }).pushFrame (.throwing q))) := by
  obtain ⟨mk, methM, cM, hnamed, hmethM, -, -, -, -, -, -, hsigM⟩ := Cond.codeWith_spec hcode
  have hstatic : methM.isStatic = true := Cond.static_spec hnamed hmethM hstat
  obtain ⟨kP, hkP, -⟩ := className_of_methodNamed hnamed
  have hinitP : kP.init = .initialized := Cond.initialized_spec (findClass_of_methodNamed hnamed) hkP hinit
  obtain ⟨vm₁, X₁, hstep₁⟩ := X.invokestatic hexec hown hlink hnamed hmethM hstatic hkP hinitP hy (g := g) hg (argsL := argsL) (rest := rest) (hlen _ hsigM) hstack hdg
  rcases hK m meth c ⟨T.setVm vm₁, locs, cells, slots⟩ { g with stack := rest } (.invokestatic index) mk argsL.toArray X₁ hg hsize hdg hW (X₁.named hnamed) (hpre vm₁ X₁.warmed) with ⟨v, B, X', hpost, hsteps⟩ | ⟨q, B, X', hpost, hsteps⟩
  · exact Or.inl ⟨v, vm₁, B, X₁.warmed, X', hpost, fun target h => hstep₁ _ fun acts => by rw [doInvoke_state]; exact hsteps.trans h⟩
  · exact Or.inr ⟨q, vm₁, B, X₁.warmed, X', hpost, hstep₁ _ fun acts => by rw [doInvoke_state]; exact hsteps⟩
theorem vx_callVW (X : Stand p l e R s m args below meth c T locs cells slots) (hexec : p.tables.exec = Jvm.exec) {own C : String} {index : Nat} {y : MethodName} {bytes : ByteArray} {maxL : Nat} {ret : Option FieldType} {hh : List (Nat × Nat × Nat × Nat)}
    (hown : s.vm.findClass own = some m.cls) (hlink : (Cond.methodLink own index y).before args s = true) (hinst : (Cond.instanceMethod y).before args s = true) (hsel : (Cond.selects C y y).before args s = true)
    (hcode : (Cond.codeWith y bytes maxL ret hh).before args s = true) (hy : y.cls ≠ "java/lang/invoke/MethodHandle" ∧ y.cls ≠ "java/lang/invoke/VarHandle")
    {W9 : Nat} {Pre : Pt → Array Value → Prop} {Post : Pt → Array Value → Option Value → Pt → Prop} (hK : Back l R p e below s args y 3 W9 Pre Post)
    {b : Addr} {cellB : Cell} (hcell : T.heap[b]? = some cellB) (hobj : cellB.vm.isStatics = false) (hcls : s.vm.findClass C = some cellB.cls)
    {g : JFrame} (hg : g.method = m) (hsize : g.locals.size = c.maxLocals) {argsL rest : List Value} (hlen : ∀ sig, parseMethodDescriptor y.desc = some sig → argsL.length = sig.parameters.length)
    (hstack : g.stack = argsL.reverse ++ .ref b :: rest) (hW : 2 * g.monitorRoom + (rest.map fun v => v.category).sum ≤ W9) (hdg : decode c.code g.pc = .ok (.invokevirtual index, 3))
    (hpre : ∀ vm₁, s.WarmedH vm₁ → Pre ⟨T.setVm vm₁, locs, cells, slots⟩ (Value.ref b :: argsL).toArray) :
    ∃ (v : Option Value) (vm₁ : Vm) (B : Pt), s.WarmedH vm₁ ∧ Stand p l e R s m args below meth c B.U B.locs B.cells B.slots ∧ Post ⟨T.setVm vm₁, locs, cells, slots⟩ (Value.ref b :: argsL).toArray v B ∧
      ∀ target, Steps p.tables e below (B.U.setTop { g with pc := g.pc + 3, stack := v.toList ++ rest }) target → Steps p.tables e below (T.setTop g) target := by
  obtain ⟨mk, methM, hnamed, hmethM, hstM, habM⟩ := Cond.instanceMethod_spec hinst
  obtain ⟨m8, methM', cM, hn8, hmethM', -, -, -, -, -, -, hsigM⟩ := Cond.codeWith_spec hcode
  cases Option.some.inj (hn8.symm.trans hnamed)
  cases hmethM.symm.trans hmethM'
  obtain ⟨c2, r2, m2, q1, q2, q3, q4, kP, hkP, hkPi⟩ := Cond.selects_spec hsel
  cases hcls.symm.trans q1
  cases (State.methodFound?_of_named hnamed hy).symm.trans q2
  cases hnamed.symm.trans q3
  have hselP : selectMethod e.platform s.vm cellB.cls mk = .method mk := by rw [Launch.admits_selectMethod X.admits]; exact q4
  obtain ⟨vm₁, X₁, hstep₁⟩ := X.invokevirtual hexec hown hlink hnamed hmethM hstM hkP hkPi hy (a := b) (cell := cellB) hcell
    (fun z h => by rw [h] at hobj; cases hobj) hselP hmethM habM hkP hkPi (g := g) hg (argsL := argsL) (rest := rest) (hlen _ hsigM) hstack hdg
  obtain ⟨v, B, X', hpost, hsteps⟩ := hK m meth c ⟨T.setVm vm₁, locs, cells, slots⟩ { g with stack := rest } (.invokevirtual index) mk (Value.ref b :: argsL).toArray X₁ hg hsize hdg hW (X₁.named hnamed) (hpre vm₁ X₁.warmed)
  exact ⟨v, vm₁, B, X₁.warmed, X', hpost, fun target h => hstep₁ _ fun acts => by rw [doInvoke_state]; exact hsteps.trans h⟩
abbrev vx_CVW (R : Room) (s : State) (args : Array Value) (own C : String) (index : Nat) (y : MethodName) (bytes : ByteArray) (maxL : Nat) (ret : Option FieldType) (hh : List (Nat × Nat × Nat × Nat)) (ws : List Cond) (rm : Room) (mc ms n : Nat) : Prop :=
  (rm.cells = mc ∧ rm.slots = ms ∧ rm.frames + 1 ≤ R.frames ∧ 8 + (maxL + 11) + rm.locals ≤ R.locals ∧ (∀ w ∈ ws, ∀ (a' : Array Value) (U : State), s.WarmedH U.vm → w.before a' U = true) ∧ Cond.codeWith y bytes maxL ret hh ∈ ws) ∧
  (Cond.codeWith y bytes maxL ret hh).before args s = true ∧ (Cond.initialized y.cls).before args s = true ∧ (y.cls ≠ "java/lang/invoke/MethodHandle" ∧ y.cls ≠ "java/lang/invoke/VarHandle") ∧
  (∀ sig, parseMethodDescriptor y.desc = some sig → n = sig.parameters.length) ∧ (Cond.methodLink own index y).before args s = true ∧ (Cond.instanceMethod y).before args s = true ∧ (Cond.selects C y y).before args s = true
theorem vx_cwVW {own C : String} {index maxL mc ms : Nat} {y : MethodName} {bytes : ByteArray} {ret : Option FieldType} {hh : List (Nat × Nat × Nat × Nat)} {Ts ws ws' : List Cond} {rm : Room} (n : Nat) (ht : ∀ w ∈ Ts, w.before args s = true) (hT : GoodIn Ts (wsV own index C y ws)) (hw : ws = Cond.codeWith y bytes maxL ret hh :: ws') (hrc : rm.cells = mc) (hrs : rm.slots = ms)
    (hd : y.cls = C ∧ y.cls ≠ "java/lang/invoke/MethodHandle" ∧ y.cls ≠ "java/lang/invoke/VarHandle" ∧ (parseMethodDescriptor y.desc).map (fun d => d.parameters.length) = some n) (hR : rm.frames + 1 ≤ R.frames ∧ 8 + (maxL + 11) + rm.locals ≤ R.locals) :
    vx_CVW R s args own C index y bytes maxL ret hh ws rm mc ms n := by
  obtain ⟨hC, hd⟩ := hd
  subst hC
  have ok : ∀ w ∈ wsV own index y.cls y ws, w.before args s = true := fun w h => ht w (hT w h).1
  have hG : GoodIn Ts ws := fun w h => hT w (by unfold wsV; exact List.mem_append_right _ h)
  have hc : Cond.codeWith y bytes maxL ret hh ∈ ws := by rw [hw]; exact List.mem_cons_self
  refine ⟨⟨hrc, hrs, hR.1, hR.2, pay_in ht hG, hc⟩, ht _ (hG _ hc).1, ok _ (by simp [wsV]), ⟨hd.1, hd.2.1⟩, fun sig h => ?_, ok _ (by simp [wsV]), ok _ (by simp [wsV]), ok _ (by simp [wsV])⟩
  have h2 := hd.2.2
  rw [h] at h2
  exact (Option.some.inj h2).symm
theorem vx_runVW {y : MethodName} {bytes cc : ByteArray} {maxL nL mc ms n index : Nat} {ret : Option FieldType} {hh : List (Nat × Nat × Nat × Nat)} {ws : List Cond} {rm : Room} {Pc : Array Value → State → Prop} {Qc : Array Value → State → Outcome → State → Prop} {free : Addr → Prop} {Ts : List Cond} {own C : String} {b : Addr} {As rest : List Value} {g : JFrame}
    (S : CallFix p m c cc nL s args Ts own) (hM : Met l y ws rm Pc Qc mc ms free) (cw : vx_CVW R s args own C index y bytes maxL ret hh ws rm mc ms n) (hp : PreV s H C b Pc As)
    (hg : g.method = m) (hn : As.length = n) (hsize : g.locals.size = nL) (hstack : g.stack = As.reverse ++ .ref b :: rest) (hW : 2 * g.monitorRoom + (rest.map fun v => v.category).sum ≤ 8) (hdg : decode cc g.pc = .ok (.invokevirtual index, 3)) (hf : cells + mc ≤ R.cells ∧ slots + ms ≤ R.slots) :
    va_Run p l e R s m args below meth c H locs cells slots mc ms g rest (Qc (Value.ref b :: As).toArray) free := by
  obtain ⟨⟨hrc, hrs, hfr, hlo, hws, hcw⟩, hcode, hini, hy, hlen, hl, hin, hse⟩ := cw
  have hK : Back l R p e below s args y 3 8 (PreOf R mc ms Pc) (PostOf Qc mc ms free) := va_backW (hh := hh) (bytes := bytes) (maxL := maxL) (ret := ret) hM hp.1 hrc hrs hfr hlo hws hcw (fun a' U hW => word_at hW (Or.inl (by first | rfl | simp [Cond.onTables, Cond.keeps, Cond.steady])) hini)
  obtain ⟨hx, hb, hml, ho, -⟩ := S
  obtain ⟨-, ⟨cellB, hcB, hoB, hclB⟩, hPc⟩ := hp
  intro T hT X
  obtain ⟨v, vm₁, ⟨U', l2, c2, s2⟩, hW₁, X', ⟨g', mk, t, L, e1, e2, hq, h1, hL, h2, h3⟩, st⟩ := vx_callVW X hx (C := C) (hh := hh) (bytes := bytes) (maxL := maxL) (ret := ret) ho hl hin hse hcode hy hK (by rw [hT]; exact hcB) hoB hclB hg (hsize.trans hml.symm) (argsL := As) (rest := rest) (fun sig h => hn.trans (hlen sig h)) hstack hW (by rw [hb]; exact hdg)
    (fun vm₁ hW₁ => ⟨hf.1, hf.2, hPc (T.setVm vm₁) hT hW₁⟩)
  dsimp only [Pt.U, Pt.locs, Pt.cells, Pt.slots] at X' e1 e2 h1 h2 h3 st
  subst h1; subst h2; subst h3
  exact ⟨v, (T.setVm vm₁).calling g' mk (Value.ref b :: As).toArray, t, U', L, hT, X', hL, e1, e2, hq, st⟩
section
variable {y : MethodName} {bytes cc : ByteArray} {maxL nL mc ms n index : Nat} {ret : Option FieldType} {ws : List Cond} {rm : Room} {Pc : Array Value → State → Prop} {Qc : Array Value → State → Outcome → State → Prop} {XC : String → State → State → Prop} {free : Addr → Prop} {Ts : List Cond} {own C : String} {b : Addr} {As rest : List Value} {g : JFrame}
theorem vx_runVX {hh : List (Nat × Nat × Nat × Nat)} (S : CallFix p m c cc nL s args Ts own) (hM : vx_Met l y ws rm Pc Qc XC mc ms free) (cw : vx_CVW R s args own C index y bytes maxL ret hh ws rm mc ms n) (hp : PreV s H C b Pc As)
    (hg : g.method = m) (hn : As.length = n) (hsize : g.locals.size = nL) (hstack : g.stack = As.reverse ++ .ref b :: rest) (hW : 2 * g.monitorRoom + (rest.map fun v => v.category).sum ≤ 8) (hdg : decode cc g.pc = .ok (.invokevirtual index, 3)) (hf : cells + mc ≤ R.cells ∧ slots + ms ≤ R.slots) :
    vx_Run p l e R s m args below meth c H locs cells slots mc ms g rest (Qc (Value.ref b :: As).toArray) XC free := by
  obtain ⟨⟨hrc, hrs, hfr, hlo, hws, hcw⟩, hcode, hini, hy, hlen, hl, hin, hse⟩ := cw
  have hK : vx_Back l R p e below s args y 3 8 (PreOf R mc ms Pc) (PostOf Qc mc ms free) (vx_Post XC mc ms free) := vx_backW (hh := hh) (bytes := bytes) (maxL := maxL) (ret := ret) hM hp.1 hrc hrs hfr hlo hws hcw (fun a' U hW => word_at hW (Or.inl (by first | rfl | simp [Cond.onTables, Cond.keeps, Cond.steady])) hini)
  obtain ⟨hx, hb, hml, ho, -⟩ := S
  obtain ⟨-, ⟨cellB, hcB, hoB, hclB⟩, hPc⟩ := hp
  intro T hT X
  rcases vx_callVX X hx (C := C) (hh := hh) (bytes := bytes) (maxL := maxL) (ret := ret) ho hl hin hse hcode hy hK (by rw [hT]; exact hcB) hoB hclB hg (hsize.trans hml.symm) (argsL := As) (rest := rest) (fun sig h => hn.trans (hlen sig h)) hstack hW (by rw [hb]; exact hdg)
    (fun vm₁ hW₁ => ⟨hf.1, hf.2, hPc (T.setVm vm₁) hT hW₁⟩) with ⟨v, vm₁, ⟨U', l2, c2, s2⟩, hW₁, X', ⟨g', mk, t, L, e1, e2, hq, h1, hL, h2, h3⟩, st⟩ | ⟨q, vm₁, ⟨U', l2, c2, s2⟩, hW₁, X', ⟨g', mk, t, L, E, ce, e1, e2, hq, hce, hcv, hcl, h1, hL, h2, h3⟩, st⟩
  · dsimp only [Pt.U, Pt.locs, Pt.cells, Pt.slots] at X' e1 e2 h1 h2 h3 st
    subst h1; subst h2; subst h3
    exact Or.inl ⟨v, (T.setVm vm₁).calling g' mk (Value.ref b :: As).toArray, t, U', L, hT, X', hL, e1, e2, hq, st⟩
  · dsimp only [Pt.U, Pt.locs, Pt.cells, Pt.slots] at X' e1 e2 h1 h2 h3 st hcl
    subst h1; subst h2; subst h3
    exact Or.inr ⟨q, (T.setVm vm₁).calling g' mk (Value.ref b :: As).toArray, t, U', L, E, ce, hT, X', hL, e1, e2, hq, hce, hcv, vx_cls hW₁ hcl, st⟩
theorem vx_runSX {hh : List (Nat × Nat × Nat × Nat)} (S : CallFix p m c cc nL s args Ts own) (hM : vx_Met l y ws rm Pc Qc XC mc ms free) (cw : vx_CSW R s args own index y bytes maxL ret hh ws rm mc ms n) (hp : PreS s H Pc As)
    (hg : g.method = m) (hn : As.length = n) (hsize : g.locals.size = nL) (hstack : g.stack = As.reverse ++ rest) (hW : 2 * g.monitorRoom + (rest.map fun v => v.category).sum ≤ 8) (hdg : decode cc g.pc = .ok (.invokestatic index, 3)) (hf : cells + mc ≤ R.cells ∧ slots + ms ≤ R.slots) :
    vx_Run p l e R s m args below meth c H locs cells slots mc ms g rest (Qc As.toArray) XC free := by
  obtain ⟨⟨hrc, hrs, hfr, hlo, hws, hcw⟩, hcode, hini, hy, hlen, hl, hstt⟩ := cw
  have hK : vx_Back l R p e below s args y 3 8 (PreOf R mc ms Pc) (PostOf Qc mc ms free) (vx_Post XC mc ms free) := vx_backW (hh := hh) (bytes := bytes) (maxL := maxL) (ret := ret) hM hp.1 hrc hrs hfr hlo hws hcw (fun a' U hW => word_at hW (Or.inl (by first | rfl | simp [Cond.onTables, Cond.keeps, Cond.steady])) hini)
  obtain ⟨hx, hb, hml, ho, -⟩ := S
  intro T hT X
  rcases vx_callSX X hx (hh := hh) (bytes := bytes) (maxL := maxL) (ret := ret) ho hl hstt hini hcode hy hK hg (hsize.trans hml.symm) (argsL := As) (rest := rest) (fun sig h => hn.trans (hlen sig h)) hstack hW (by rw [hb]; exact hdg)
    (fun vm₁ hW₁ => ⟨hf.1, hf.2, hp.2 (T.setVm vm₁) hT hW₁⟩) with ⟨v, vm₁, ⟨U', l2, c2, s2⟩, hW₁, X', ⟨g', mk, t, L, e1, e2, hq, h1, hL, h2, h3⟩, st⟩ | ⟨q, vm₁, ⟨U', l2, c2, s2⟩, hW₁, X', ⟨g', mk, t, L, E, ce, e1, e2, hq, hce, hcv, hcl, h1, hL, h2, h3⟩, st⟩
  · dsimp only [Pt.U, Pt.locs, Pt.cells, Pt.slots] at X' e1 e2 h1 h2 h3 st
    subst h1; subst h2; subst h3
    exact Or.inl ⟨v, (T.setVm vm₁).calling g' mk As.toArray, t, U', L, hT, X', hL, e1, e2, hq, st⟩
  · dsimp only [Pt.U, Pt.locs, Pt.cells, Pt.slots] at X' e1 e2 h1 h2 h3 st hcl
    subst h1; subst h2; subst h3
    exact Or.inr ⟨q, (T.setVm vm₁).calling g' mk As.toArray, t, U', L, E, ce, hT, X', hL, e1, e2, hq, hce, hcv, vx_cls hW₁ hcl, st⟩
end
end VXH
theorem vx_ofWH {l : Launch} {y : MethodName} {ws ws' : List Cond} {rm : Room} {Pc : Array Value → State → Prop} {Qc : Array Value → State → Outcome → State → Prop} {XC : String → State → State → Prop} {mc ms : Nat} {free : Addr → Prop} {cc : ByteArray} {maxL : Nat} {ret : Option FieldType} {hh : List (Nat × Nat × Nat × Nat)}
    (hy : plainName y.cls = true) (hw : ws = Cond.codeWith y cc maxL ret hh :: ws')
    (body : ∀ p e s m args below meth c s₁, BodyLoose p l y (headSpec ws rm) cc maxL ret e s m args below meth c s₁ → c.maxLocals = maxL → Pc args s →
      W p l e (headSpec ws rm).room s m args below meth c s.heap [] 0 0 (vx_MQ below Qc XC args s mc ms free) (entryFrame m args maxL)) : vx_Met l y ws rm Pc Qc XC mc ms free := by
  refine MetFree.of_bodyS (code := cc) (maxLocals := maxL) (ret := ret) hy ?_ ?_
  · intro args s m h hn
    obtain ⟨m9, meth, c, hn9, h1, h2, h3, h4, -, h5, h6, -⟩ := Cond.codeWith_spec (atoms_spec (ws := ws) h _ (by rw [hw]; exact List.mem_cons_self))
    cases hn.symm.trans hn9
    exact ⟨meth, c, h1, h2, h3, h4, h5, h6⟩
  · intro p e s m args below meth c s₁ B hml hP _
    have hh0 : s₁.heap = s.heap := by rw [B.state]; rfl
    obtain ⟨t, a1, o, b1, b2, b3⟩ := body p e s m args below meth c s₁ B hml hP s₁ hh0 (Stand.of_body B)
    exact ⟨t, o, a1, b1, b2, b3⟩
/-! ===== END ===== -/
end
section
/-! ===== BEGIN printed: names, fields, word lists, decode rows ===== -/
def RX0 : String := "Phaselock$Aligner"
def TX0 : u_T := fun k => match k with
  | 0 => ("Phaselock$Aligner", "state", "I", false)
  | 1 => ("Phaselock$Aligner", "frames", "I", false)
  | 2 => ("Phaselock$Aligner", "losses", "I", false)
  | 3 => ("Phaselock$Aligner", "position", "I", false)
  | 4 => ("Phaselock$Aligner", "matches", "I", false)
  | _ => ("Phaselock$Aligner", "misses", "I", false)
def tyX0 : Nat → FieldType := fun k => match k with
  | 0 => .int
  | 1 => .int
  | 2 => .int
  | 3 => .int
  | 4 => .int
  | _ => .int
abbrev wsX00 : List Cond := u_ws RX0 TX0 6
theorem nmX0 : ∀ a, a < 6 → ∀ b, b < 6 → a ≠ b → (TX0 a).2.1 ≠ (TX0 b).2.1 := by decide +kernel
theorem tyX0_ok : ∀ k, k < 6 → parseFieldDescriptor (TX0 k).2.2.1 = some (tyX0 k) := by decide +kernel
abbrev cX0_init : ByteArray := prog_2_method_1_code
def yX0_init : MethodName := ⟨RX0, "<init>", "()V"⟩
abbrev cX0_take : ByteArray := prog_2_method_2_code
def yX0_take : MethodName := ⟨RX0, "take", "(Z)V"⟩
abbrev cX0_verify : ByteArray := prog_2_method_3_code
def yX0_verify : MethodName := ⟨RX0, "verify", "(Z)V"⟩
abbrev cX0_watchSync : ByteArray := prog_2_method_4_code
def yX0_watchSync : MethodName := ⟨RX0, "watchSync", "(Z)V"⟩
def RX1 : String := "Phaselock$BitLog"
def TX1 : u_T := fun k => match k with
  | 0 => ("Phaselock$BitLog", "count", "I", false)
  | _ => ("Phaselock$BitLog", "latest32", "I", false)
def tyX1 : Nat → FieldType := fun k => match k with
  | 0 => .int
  | _ => .int
abbrev wsX10 : List Cond := u_ws RX1 TX1 2
theorem nmX1 : ∀ a, a < 2 → ∀ b, b < 2 → a ≠ b → (TX1 a).2.1 ≠ (TX1 b).2.1 := by decide +kernel
theorem tyX1_ok : ∀ k, k < 2 → parseFieldDescriptor (TX1 k).2.2.1 = some (tyX1 k) := by decide +kernel
abbrev cX1_init : ByteArray := prog_3_method_1_code
def yX1_init : MethodName := ⟨RX1, "<init>", "()V"⟩
abbrev cX1_add : ByteArray := prog_3_method_2_code
def yX1_add : MethodName := ⟨RX1, "add", "(I)V"⟩
abbrev cX1_remembers : ByteArray := prog_3_method_3_code
def yX1_remembers : MethodName := ⟨RX1, "remembers", "(I)Z"⟩
abbrev cX1_findBit : ByteArray := prog_3_method_4_code
def yX1_findBit : MethodName := ⟨RX1, "findBit", "(I)I"⟩
abbrev cX1_endsWithSyncWord : ByteArray := prog_3_method_5_code
def yX1_endsWithSyncWord : MethodName := ⟨RX1, "endsWithSyncWord", "()Z"⟩
def RX2 : String := "Phaselock$EdgeLog"
def TX2 : u_T := fun k => match k with
  | 0 => ("Phaselock$EdgeLog", "ticks", "I", false)
  | _ => ("Phaselock$EdgeLog", "changed", "[Z", true)
def tyX2 : Nat → FieldType := fun k => match k with
  | 0 => .int
  | _ => .array .boolean
abbrev wsX20 : List Cond := u_ws RX2 TX2 2
theorem nmX2 : ∀ a, a < 2 → ∀ b, b < 2 → a ≠ b → (TX2 a).2.1 ≠ (TX2 b).2.1 := by decide +kernel
theorem tyX2_ok : ∀ k, k < 2 → parseFieldDescriptor (TX2 k).2.2.1 = some (tyX2 k) := by decide +kernel
abbrev cX2_init : ByteArray := prog_4_method_1_code
def yX2_init : MethodName := ⟨RX2, "<init>", "()V"⟩
abbrev cX2_add : ByteArray := prog_4_method_2_code
def yX2_add : MethodName := ⟨RX2, "add", "(Z)V"⟩
abbrev cX2_sumCosts : ByteArray := prog_4_method_3_code
def yX2_sumCosts : MethodName := ⟨RX2, "sumCosts", "(I)I"⟩
abbrev cX2_findDistance : ByteArray := prog_4_method_4_code
def yX2_findDistance : MethodName := ⟨RX2, "findDistance", "(II)I"⟩
def RX3 : String := "Phaselock$LineMemory"
def TX3 : u_T := fun k => match k with
  | _ => ("Phaselock$LineMemory", "values", "I", false)
def tyX3 : Nat → FieldType := fun k => match k with
  | _ => .int
abbrev wsX30 : List Cond := u_ws RX3 TX3 1
theorem nmX3 : ∀ a, a < 1 → ∀ b, b < 1 → a ≠ b → (TX3 a).2.1 ≠ (TX3 b).2.1 := by decide +kernel
theorem tyX3_ok : ∀ k, k < 1 → parseFieldDescriptor (TX3 k).2.2.1 = some (tyX3 k) := by decide +kernel
abbrev cX3_init : ByteArray := prog_5_method_1_code
def yX3_init : MethodName := ⟨RX3, "<init>", "()V"⟩
abbrev cX3_remember : ByteArray := prog_5_method_2_code
def yX3_remember : MethodName := ⟨RX3, "remember", "(I)V"⟩
abbrev cX3_hasChangedSince : ByteArray := prog_5_method_3_code
def yX3_hasChangedSince : MethodName := ⟨RX3, "hasChangedSince", "(I)Z"⟩
abbrev cX3_findLevel : ByteArray := prog_5_method_4_code
def yX3_findLevel : MethodName := ⟨RX3, "findLevel", "()I"⟩
def RX4 : String := "Phaselock$LoopFilter"
def TX4 : u_T := fun k => match k with
  | 0 => ("Phaselock$LoopFilter", "proportionalGain", "I", false)
  | 1 => ("Phaselock$LoopFilter", "integralGain", "I", false)
  | 2 => ("Phaselock$LoopFilter", "error", "I", false)
  | 3 => ("Phaselock$LoopFilter", "integral", "I", false)
  | _ => ("Phaselock$LoopFilter", "control", "I", false)
def tyX4 : Nat → FieldType := fun k => match k with
  | 0 => .int
  | 1 => .int
  | 2 => .int
  | 3 => .int
  | _ => .int
abbrev wsX40 : List Cond := u_ws RX4 TX4 5
theorem nmX4 : ∀ a, a < 5 → ∀ b, b < 5 → a ≠ b → (TX4 a).2.1 ≠ (TX4 b).2.1 := by decide +kernel
theorem tyX4_ok : ∀ k, k < 5 → parseFieldDescriptor (TX4 k).2.2.1 = some (tyX4 k) := by decide +kernel
abbrev cX4_init : ByteArray := prog_6_method_1_code
def yX4_init : MethodName := ⟨RX4, "<init>", "()V"⟩
abbrev cX4_takeError : ByteArray := prog_6_method_2_code
def yX4_takeError : MethodName := ⟨RX4, "takeError", "(I)V"⟩
abbrev cX4_keepWithin : ByteArray := prog_6_method_3_code
def yX4_keepWithin : MethodName := ⟨RX4, "keepWithin", "(II)I"⟩
def RX5 : String := "Phaselock$Oscillator"
def TX5 : u_T := fun k => match k with
  | _ => ("Phaselock$Oscillator", "phase", "I", false)
def tyX5 : Nat → FieldType := fun k => match k with
  | _ => .int
abbrev wsX50 : List Cond := u_ws RX5 TX5 1
theorem nmX5 : ∀ a, a < 1 → ∀ b, b < 1 → a ≠ b → (TX5 a).2.1 ≠ (TX5 b).2.1 := by decide +kernel
theorem tyX5_ok : ∀ k, k < 1 → parseFieldDescriptor (TX5 k).2.2.1 = some (tyX5 k) := by decide +kernel
abbrev cX5_init : ByteArray := prog_7_method_1_code
def yX5_init : MethodName := ⟨RX5, "<init>", "()V"⟩
abbrev cX5_advance : ByteArray := prog_7_method_2_code
def yX5_advance : MethodName := ⟨RX5, "advance", "(I)I"⟩
abbrev cX5_hasPassed : ByteArray := prog_7_method_3_code
def yX5_hasPassed : MethodName := ⟨RX5, "hasPassed", "(II)Z"⟩
def RX6 : String := "Phaselock$PhaseDetector"
def TX6 : u_T := fun k => match k with
  | 0 => ("Phaselock$PhaseDetector", "kind", "I", false)
  | 1 => ("Phaselock$PhaseDetector", "edgeError", "I", false)
  | 2 => ("Phaselock$PhaseDetector", "product", "I", false)
  | 3 => ("Phaselock$PhaseDetector", "earlyValue", "I", false)
  | 4 => ("Phaselock$PhaseDetector", "middleValue", "I", false)
  | 5 => ("Phaselock$PhaseDetector", "middleLevel", "I", false)
  | _ => ("Phaselock$PhaseDetector", "dataLevel", "I", false)
def tyX6 : Nat → FieldType := fun k => match k with
  | 0 => .int
  | 1 => .int
  | 2 => .int
  | 3 => .int
  | 4 => .int
  | 5 => .int
  | _ => .int
abbrev wsX60 : List Cond := u_ws RX6 TX6 7
theorem nmX6 : ∀ a, a < 7 → ∀ b, b < 7 → a ≠ b → (TX6 a).2.1 ≠ (TX6 b).2.1 := by decide +kernel
theorem tyX6_ok : ∀ k, k < 7 → parseFieldDescriptor (TX6 k).2.2.1 = some (tyX6 k) := by decide +kernel
abbrev cX6_init : ByteArray := prog_8_method_1_code
def yX6_init : MethodName := ⟨RX6, "<init>", "()V"⟩
abbrev cX6_watchLine : ByteArray := prog_8_method_2_code
def yX6_watchLine : MethodName := ⟨RX6, "watchLine", "(LPhaselock$LineMemory;I)V"⟩
abbrev cX6_keepEarly : ByteArray := prog_8_method_3_code
def yX6_keepEarly : MethodName := ⟨RX6, "keepEarly", "(I)V"⟩
abbrev cX6_keepMiddle : ByteArray := prog_8_method_4_code
def yX6_keepMiddle : MethodName := ⟨RX6, "keepMiddle", "(II)V"⟩
abbrev cX6_measureLate : ByteArray := prog_8_method_5_code
def yX6_measureLate : MethodName := ⟨RX6, "measureLate", "(I)I"⟩
abbrev cX6_measureAtData : ByteArray := prog_8_method_6_code
def yX6_measureAtData : MethodName := ⟨RX6, "measureAtData", "(IILPhaselock$BitLog;)I"⟩
abbrev cX6_measureBangBang : ByteArray := prog_8_method_7_code
def yX6_measureBangBang : MethodName := ⟨RX6, "measureBangBang", "(ILPhaselock$BitLog;)I"⟩
abbrev cX6_finishBit : ByteArray := prog_8_method_8_code
def yX6_finishBit : MethodName := ⟨RX6, "finishBit", "(I)V"⟩
def RX7 : String := "Phaselock$PhaseLog"
def TX7 : u_T := fun k => match k with
  | 0 => ("Phaselock$PhaseLog", "count", "I", false)
  | 1 => ("Phaselock$PhaseLog", "latest", "I", false)
  | 2 => ("Phaselock$PhaseLog", "steadyCount", "I", false)
  | _ => ("Phaselock$PhaseLog", "window", "[I", true)
def tyX7 : Nat → FieldType := fun k => match k with
  | 0 => .int
  | 1 => .int
  | 2 => .int
  | _ => .array .int
abbrev wsX70 : List Cond := u_ws RX7 TX7 4
theorem nmX7 : ∀ a, a < 4 → ∀ b, b < 4 → a ≠ b → (TX7 a).2.1 ≠ (TX7 b).2.1 := by decide +kernel
theorem tyX7_ok : ∀ k, k < 4 → parseFieldDescriptor (TX7 k).2.2.1 = some (tyX7 k) := by decide +kernel
abbrev cX7_init : ByteArray := prog_9_method_1_code
def yX7_init : MethodName := ⟨RX7, "<init>", "()V"⟩
abbrev cX7_add : ByteArray := prog_9_method_2_code
def yX7_add : MethodName := ⟨RX7, "add", "(IZ)V"⟩
abbrev cX7_isSteady : ByteArray := prog_9_method_3_code
def yX7_isSteady : MethodName := ⟨RX7, "isSteady", "()Z"⟩
abbrev cX7_sumAbsolutes : ByteArray := prog_9_method_4_code
def yX7_sumAbsolutes : MethodName := ⟨RX7, "sumAbsolutes", "()I"⟩
def RX8 : String := "Phaselock$SlipCounter"
def TX8 : u_T := fun k => match k with
  | 0 => ("Phaselock$SlipCounter", "repeated", "I", false)
  | 1 => ("Phaselock$SlipCounter", "skipped", "I", false)
  | 2 => ("Phaselock$SlipCounter", "hasStrobed", "Z", false)
  | _ => ("Phaselock$SlipCounter", "numberBefore", "I", false)
def tyX8 : Nat → FieldType := fun k => match k with
  | 0 => .int
  | 1 => .int
  | 2 => .boolean
  | _ => .int
abbrev wsX80 : List Cond := u_ws RX8 TX8 4
theorem nmX8 : ∀ a, a < 4 → ∀ b, b < 4 → a ≠ b → (TX8 a).2.1 ≠ (TX8 b).2.1 := by decide +kernel
theorem tyX8_ok : ∀ k, k < 4 → parseFieldDescriptor (TX8 k).2.2.1 = some (tyX8 k) := by decide +kernel
abbrev cX8_init : ByteArray := prog_10_method_1_code
def yX8_init : MethodName := ⟨RX8, "<init>", "()V"⟩
abbrev cX8_compare : ByteArray := prog_10_method_2_code
def yX8_compare : MethodName := ⟨RX8, "compare", "(I)Z"⟩
def RX9 : String := "Phaselock$Transmitter"
def TX9 : u_T := fun k => match k with
  | 0 => ("Phaselock$Transmitter", "phase", "I", false)
  | 1 => ("Phaselock$Transmitter", "step", "I", false)
  | 2 => ("Phaselock$Transmitter", "jitter", "I", false)
  | 3 => ("Phaselock$Transmitter", "randomState", "J", false)
  | 4 => ("Phaselock$Transmitter", "number", "I", false)
  | 5 => ("Phaselock$Transmitter", "value", "I", false)
  | _ => ("Phaselock$Transmitter", "register", "I", false)
def tyX9 : Nat → FieldType := fun k => match k with
  | 0 => .int
  | 1 => .int
  | 2 => .int
  | 3 => .long
  | 4 => .int
  | 5 => .int
  | _ => .int
abbrev wsX90 : List Cond := u_ws RX9 TX9 7
theorem nmX9 : ∀ a, a < 7 → ∀ b, b < 7 → a ≠ b → (TX9 a).2.1 ≠ (TX9 b).2.1 := by decide +kernel
theorem tyX9_ok : ∀ k, k < 7 → parseFieldDescriptor (TX9 k).2.2.1 = some (tyX9 k) := by decide +kernel
abbrev cX9_init : ByteArray := prog_11_method_1_code
def yX9_init : MethodName := ⟨RX9, "<init>", "()V"⟩
abbrev cX9_advance : ByteArray := prog_11_method_2_code
def yX9_advance : MethodName := ⟨RX9, "advance", "()V"⟩
abbrev cX9_drawDeviation : ByteArray := prog_11_method_3_code
def yX9_drawDeviation : MethodName := ⟨RX9, "drawDeviation", "()I"⟩
abbrev cX9_sendNextBit : ByteArray := prog_11_method_4_code
def yX9_sendNextBit : MethodName := ⟨RX9, "sendNextBit", "()V"⟩
abbrev cX9_shiftRegister : ByteArray := prog_11_method_5_code
def yX9_shiftRegister : MethodName := ⟨RX9, "shiftRegister", "()I"⟩
def RX10 : String := "Phaselock"
def TX10 : u_T := fun k => match k with
  | 0 => ("Phaselock", "transmitter", "LPhaselock$Transmitter;", true)
  | 1 => ("Phaselock", "memory", "LPhaselock$LineMemory;", true)
  | 2 => ("Phaselock", "edges", "LPhaselock$EdgeLog;", true)
  | 3 => ("Phaselock", "oscillator", "LPhaselock$Oscillator;", true)
  | 4 => ("Phaselock", "detector", "LPhaselock$PhaseDetector;", true)
  | 5 => ("Phaselock", "filter", "LPhaselock$LoopFilter;", true)
  | 6 => ("Phaselock", "bits", "LPhaselock$BitLog;", true)
  | 7 => ("Phaselock", "slips", "LPhaselock$SlipCounter;", true)
  | 8 => ("Phaselock", "phases", "LPhaselock$PhaseLog;", true)
  | _ => ("Phaselock", "aligner", "LPhaselock$Aligner;", true)
def tyX10 : Nat → FieldType := fun k => match k with
  | 0 => .object "Phaselock$Transmitter"
  | 1 => .object "Phaselock$LineMemory"
  | 2 => .object "Phaselock$EdgeLog"
  | 3 => .object "Phaselock$Oscillator"
  | 4 => .object "Phaselock$PhaseDetector"
  | 5 => .object "Phaselock$LoopFilter"
  | 6 => .object "Phaselock$BitLog"
  | 7 => .object "Phaselock$SlipCounter"
  | 8 => .object "Phaselock$PhaseLog"
  | _ => .object "Phaselock$Aligner"
abbrev wsX100 : List Cond := u_ws RX10 TX10 10
theorem nmX10 : ∀ a, a < 10 → ∀ b, b < 10 → a ≠ b → (TX10 a).2.1 ≠ (TX10 b).2.1 := by decide +kernel
theorem tyX10_ok : ∀ k, k < 10 → parseFieldDescriptor (TX10 k).2.2.1 = some (tyX10 k) := by decide +kernel
abbrev cX10_init : ByteArray := prog_1_method_1_code
def yX10_init : MethodName := ⟨RX10, "<init>", "()V"⟩
abbrev cX10_setOffset : ByteArray := prog_1_method_2_code
def yX10_setOffset : MethodName := ⟨RX10, "setOffset", "(I)I"⟩
abbrev cX10_setJitter : ByteArray := prog_1_method_3_code
def yX10_setJitter : MethodName := ⟨RX10, "setJitter", "(II)V"⟩
abbrev cX10_setDetector : ByteArray := prog_1_method_4_code
def yX10_setDetector : MethodName := ⟨RX10, "setDetector", "(I)I"⟩
abbrev cX10_setGains : ByteArray := prog_1_method_5_code
def yX10_setGains : MethodName := ⟨RX10, "setGains", "(II)V"⟩
abbrev cX10_setPhase : ByteArray := prog_1_method_6_code
def yX10_setPhase : MethodName := ⟨RX10, "setPhase", "(I)I"⟩
abbrev cX10_release : ByteArray := prog_1_method_7_code
def yX10_release : MethodName := ⟨RX10, "release", "()V"⟩
abbrev cX10_run : ByteArray := prog_1_method_8_code
def yX10_run : MethodName := ⟨RX10, "run", "(I)I"⟩
abbrev cX10_ticks : ByteArray := prog_1_method_9_code
def yX10_ticks : MethodName := ⟨RX10, "ticks", "()I"⟩
abbrev cX10_sent : ByteArray := prog_1_method_10_code
def yX10_sent : MethodName := ⟨RX10, "sent", "()I"⟩
abbrev cX10_line : ByteArray := prog_1_method_11_code
def yX10_line : MethodName := ⟨RX10, "line", "()I"⟩
abbrev cX10_level : ByteArray := prog_1_method_12_code
def yX10_level : MethodName := ⟨RX10, "level", "()I"⟩
abbrev cX10_sender : ByteArray := prog_1_method_13_code
def yX10_sender : MethodName := ⟨RX10, "sender", "()I"⟩
abbrev cX10_receiver : ByteArray := prog_1_method_14_code
def yX10_receiver : MethodName := ⟨RX10, "receiver", "()I"⟩
abbrev cX10_error : ByteArray := prog_1_method_15_code
def yX10_error : MethodName := ⟨RX10, "error", "()I"⟩
abbrev cX10_integral : ByteArray := prog_1_method_16_code
def yX10_integral : MethodName := ⟨RX10, "integral", "()I"⟩
abbrev cX10_control : ByteArray := prog_1_method_17_code
def yX10_control : MethodName := ⟨RX10, "control", "()I"⟩
abbrev cX10_received : ByteArray := prog_1_method_18_code
def yX10_received : MethodName := ⟨RX10, "received", "()I"⟩
abbrev cX10_bit : ByteArray := prog_1_method_19_code
def yX10_bit : MethodName := ⟨RX10, "bit", "(I)I"⟩
abbrev cX10_phase : ByteArray := prog_1_method_20_code
def yX10_phase : MethodName := ⟨RX10, "phase", "()I"⟩
abbrev cX10_repeated : ByteArray := prog_1_method_21_code
def yX10_repeated : MethodName := ⟨RX10, "repeated", "()I"⟩
abbrev cX10_skipped : ByteArray := prog_1_method_22_code
def yX10_skipped : MethodName := ⟨RX10, "skipped", "()I"⟩
abbrev cX10_isLocked : ByteArray := prog_1_method_23_code
def yX10_isLocked : MethodName := ⟨RX10, "isLocked", "()Z"⟩
abbrev cX10_wander : ByteArray := prog_1_method_24_code
def yX10_wander : MethodName := ⟨RX10, "wander", "()I"⟩
abbrev cX10_alignment : ByteArray := prog_1_method_25_code
def yX10_alignment : MethodName := ⟨RX10, "alignment", "()I"⟩
abbrev cX10_frames : ByteArray := prog_1_method_26_code
def yX10_frames : MethodName := ⟨RX10, "frames", "()I"⟩
abbrev cX10_losses : ByteArray := prog_1_method_27_code
def yX10_losses : MethodName := ⟨RX10, "losses", "()I"⟩
abbrev cX10_bestPhase : ByteArray := prog_1_method_28_code
def yX10_bestPhase : MethodName := ⟨RX10, "bestPhase", "()I"⟩
abbrev cX10_cost : ByteArray := prog_1_method_29_code
def yX10_cost : MethodName := ⟨RX10, "cost", "(I)I"⟩
abbrev cX10_passTick : ByteArray := prog_1_method_30_code
def yX10_passTick : MethodName := ⟨RX10, "passTick", "()V"⟩
abbrev cX10_actOnStrobe : ByteArray := prog_1_method_31_code
def yX10_actOnStrobe : MethodName := ⟨RX10, "actOnStrobe", "(I)V"⟩
abbrev cX10_actOnDataStrobe : ByteArray := prog_1_method_32_code
def yX10_actOnDataStrobe : MethodName := ⟨RX10, "actOnDataStrobe", "()V"⟩
abbrev cX10_isWithin : ByteArray := prog_1_method_33_code
def yX10_isWithin : MethodName := ⟨RX10, "isWithin", "(III)Z"⟩
def RX11 : String := "PhaselockModel"
def TX11 : u_T := fun k => match k with
  | _ => ("", "", "", false)
def tyX11 : Nat → FieldType := fun k => match k with
  | _ => .int
abbrev wsX110 : List Cond := u_ws RX11 TX11 0
theorem nmX11 : ∀ a, a < 0 → ∀ b, b < 0 → a ≠ b → (TX11 a).2.1 ≠ (TX11 b).2.1 := by decide +kernel
theorem tyX11_ok : ∀ k, k < 0 → parseFieldDescriptor (TX11 k).2.2.1 = some (tyX11 k) := by decide +kernel
def RJ6 : String := "java/lang/Integer"
def TJ6 : u_T := fun k => match k with
  | _ => ("", "", "", false)
def tyJ6 : Nat → FieldType := fun k => match k with
  | _ => .int
abbrev wsJ60 : List Cond := u_ws RJ6 TJ6 0
theorem nmJ6 : ∀ a, a < 0 → ∀ b, b < 0 → a ≠ b → (TJ6 a).2.1 ≠ (TJ6 b).2.1 := by decide +kernel
theorem tyJ6_ok : ∀ k, k < 0 → parseFieldDescriptor (TJ6 k).2.2.1 = some (tyJ6 k) := by decide +kernel
abbrev cJ6_bitCount_0f7a4 : ByteArray := prog_18_method_49_code
def yJ6_bitCount_0f7a4 : MethodName := ⟨RJ6, "bitCount", "(I)I"⟩
def RJ9 : String := "java/lang/Math"
def TJ9 : u_T := fun k => match k with
  | _ => ("", "", "", false)
def tyJ9 : Nat → FieldType := fun k => match k with
  | _ => .int
abbrev wsJ90 : List Cond := u_ws RJ9 TJ9 0
theorem nmJ9 : ∀ a, a < 0 → ∀ b, b < 0 → a ≠ b → (TJ9 a).2.1 ≠ (TJ9 b).2.1 := by decide +kernel
theorem tyJ9_ok : ∀ k, k < 0 → parseFieldDescriptor (TJ9 k).2.2.1 = some (tyJ9 k) := by decide +kernel
abbrev cJ9_floorDiv_7cf53 : ByteArray := prog_19_method_47_code
def yJ9_floorDiv_7cf53 : MethodName := ⟨RJ9, "floorDiv", "(II)I"⟩
abbrev cJ9_abs_0f7a4 : ByteArray := prog_19_method_59_code
def yJ9_abs_0f7a4 : MethodName := ⟨RJ9, "abs", "(I)I"⟩
abbrev cJ9_max_7cf53 : ByteArray := prog_19_method_65_code
def yJ9_max_7cf53 : MethodName := ⟨RJ9, "max", "(II)I"⟩
abbrev cJ9_min_7cf53 : ByteArray := prog_19_method_69_code
def yJ9_min_7cf53 : MethodName := ⟨RJ9, "min", "(II)I"⟩
def RJ0 : String := "java/lang/String"
def TJ0 : u_T := fun k => match k with
  | _ => ("", "", "", false)
def tyJ0 : Nat → FieldType := fun k => match k with
  | _ => .int
abbrev wsJ00 : List Cond := u_ws RJ0 TJ0 0
theorem nmJ0 : ∀ a, a < 0 → ∀ b, b < 0 → a ≠ b → (TJ0 a).2.1 ≠ (TJ0 b).2.1 := by decide +kernel
theorem tyJ0_ok : ∀ k, k < 0 → parseFieldDescriptor (TJ0 k).2.2.1 = some (tyJ0 k) := by decide +kernel
def RL : String := "PhaselockLaw"
abbrev cL_cell : ByteArray := method_2_code
def yL_cell : MethodName := ⟨RL, "cell", "([II)I"⟩
abbrev cL_low : ByteArray := method_3_code
def yL_low : MethodName := ⟨RL, "low", "(II)I"⟩
abbrev cL_does : ByteArray := method_4_code
def yL_does : MethodName := ⟨RL, "does", "(LPhaselock;II)I"⟩
abbrev cL_jitter : ByteArray := method_5_code
def yL_jitter : MethodName := ⟨RL, "jitter", "(LPhaselock;II)I"⟩
abbrev cL_gains : ByteArray := method_6_code
def yL_gains : MethodName := ⟨RL, "gains", "(LPhaselock;II)I"⟩
abbrev cL_bit : ByteArray := method_7_code
def yL_bit : MethodName := ⟨RL, "bit", "(LPhaselock;I)I"⟩
abbrev cL_phase : ByteArray := method_8_code
def yL_phase : MethodName := ⟨RL, "phase", "(LPhaselock;)I"⟩
abbrev cL_act : ByteArray := method_9_code
def yL_act : MethodName := ⟨RL, "act", "(LPhaselock;I)I"⟩
abbrev cL_areAlike : ByteArray := method_10_code
def yL_areAlike : MethodName := ⟨RL, "areAlike", "(LPhaselock;LPhaselock;)Z"⟩
abbrev cL_isLineSo : ByteArray := method_11_code
def yL_isLineSo : MethodName := ⟨RL, "isLineSo", "(LPhaselock;)Z"⟩
abbrev cL_areBitsSo : ByteArray := method_12_code
def yL_areBitsSo : MethodName := ⟨RL, "areBitsSo", "(LPhaselock;)Z"⟩
abbrev cL_areCostsSo : ByteArray := method_13_code
def yL_areCostsSo : MethodName := ⟨RL, "areCostsSo", "(LPhaselock;)Z"⟩
abbrev cL_law : ByteArray := code
def yL_law : MethodName := ⟨RL, "law", "([I)Z"⟩
def wsX0_init : List Cond := .code yX0_init cX0_init 1 none :: ([.methodLink RX0 3 objectInit, .instanceMethod objectInit, .code objectInit ⟨#[0xb1]⟩ 1 none, .fieldLink RX0 11 "Phaselock$Aligner" "state" "I", .fieldLink RX0 15 "Phaselock$Aligner" "frames" "I", .fieldLink RX0 18 "Phaselock$Aligner" "losses" "I", .fieldLink RX0 21 "Phaselock$Aligner" "position" "I", .fieldLink RX0 24 "Phaselock$Aligner" "matches" "I", .fieldLink RX0 27 "Phaselock$Aligner" "misses" "I"] ++ wsX00)
def wsX0_verify : List Cond := .code yX0_verify cX0_verify 2 none :: ([.fieldLink RX0 11 "Phaselock$Aligner" "state" "I", .fieldLink RX0 24 "Phaselock$Aligner" "matches" "I", .fieldLink RX0 27 "Phaselock$Aligner" "misses" "I"] ++ wsX00)
def wsX0_watchSync : List Cond := .code yX0_watchSync cX0_watchSync 2 none :: ([.fieldLink RX0 15 "Phaselock$Aligner" "frames" "I", .fieldLink RX0 27 "Phaselock$Aligner" "misses" "I", .fieldLink RX0 11 "Phaselock$Aligner" "state" "I", .fieldLink RX0 18 "Phaselock$Aligner" "losses" "I"] ++ wsX00)
def wsX0_take : List Cond := .code yX0_take cX0_take 2 none :: ([.fieldLink RX0 11 "Phaselock$Aligner" "state" "I", .fieldLink RX0 21 "Phaselock$Aligner" "position" "I", .fieldLink RX0 24 "Phaselock$Aligner" "matches" "I", .methodLink RX0 30 yX0_verify, .instanceMethod yX0_verify, .selects RX0 yX0_verify yX0_verify, .initialized RX0, .code yX0_verify cX0_verify 2 none, .fieldLink RX0 27 "Phaselock$Aligner" "misses" "I", .methodLink RX0 34 yX0_watchSync, .instanceMethod yX0_watchSync, .selects RX0 yX0_watchSync yX0_watchSync, .code yX0_watchSync cX0_watchSync 2 none, .fieldLink RX0 15 "Phaselock$Aligner" "frames" "I", .fieldLink RX0 18 "Phaselock$Aligner" "losses" "I"] ++ wsX00)
def wsX1_init : List Cond := .code yX1_init cX1_init 1 none :: ([.methodLink RX1 3 objectInit, .instanceMethod objectInit, .code objectInit ⟨#[0xb1]⟩ 1 none, .fieldLink RX1 9 "Phaselock$BitLog" "count" "I", .fieldLink RX1 15 "Phaselock$BitLog" "latest32" "I"] ++ wsX10)
def wsX1_add : List Cond := .code yX1_add cX1_add 2 none :: ([.fieldLink RX1 9 "Phaselock$BitLog" "count" "I", .fieldLink RX1 15 "Phaselock$BitLog" "latest32" "I"] ++ wsX10)
def wsX10_isWithin : List Cond := .code yX10_isWithin cX10_isWithin 3 (some .boolean) :: ([])
def wsX1_remembers : List Cond := .code yX1_remembers cX1_remembers 2 (some .boolean) :: ([.fieldLink RX1 9 "Phaselock$BitLog" "count" "I", .methodLink RX1 18 Lib.Math.min.name, .static Lib.Math.min.name, .initialized "java/lang/Math", .code Lib.Math.min.name Lib.Math.min.code 2 (some .int), .static yX10_isWithin, .initialized RX10, .code yX10_isWithin cX10_isWithin 3 (some .boolean)] ++ wsX10)
def wsX1_findBit : List Cond := .code yX1_findBit cX1_findBit 2 (some .int) :: ([.fieldLink RX1 15 "Phaselock$BitLog" "latest32" "I"] ++ wsX10)
def wsX1_endsWithSyncWord : List Cond := .code yX1_endsWithSyncWord cX1_endsWithSyncWord 1 (some .boolean) :: ([.fieldLink RX1 9 "Phaselock$BitLog" "count" "I", .fieldLink RX1 15 "Phaselock$BitLog" "latest32" "I"] ++ wsX10)
def wsX2_init : List Cond := .code yX2_init cX2_init 1 none :: ([.methodLink RX2 1 objectInit, .instanceMethod objectInit, .code objectInit ⟨#[0xb1]⟩ 1 none, .fieldLink RX2 7 "Phaselock$EdgeLog" "ticks" "I", .arrayClass .boolean, .fieldLink RX2 13 "Phaselock$EdgeLog" "changed" "[Z"] ++ wsX20)
def wsX2_add : List Cond := .code yX2_add cX2_add 2 none :: ([.fieldLink RX2 7 "Phaselock$EdgeLog" "ticks" "I", .fieldLink RX2 13 "Phaselock$EdgeLog" "changed" "[Z"] ++ wsX20)
def wsX2_findDistance : List Cond := .code yX2_findDistance cX2_findDistance 4 (some .int) :: ([.methodLink RX2 21 Lib.Math.min.name, .static Lib.Math.min.name, .initialized "java/lang/Math", .code Lib.Math.min.name Lib.Math.min.code 2 (some .int)])
def wsX2_sumCosts : List Cond := .code yX2_sumCosts cX2_sumCosts 4 (some .int) :: ([.fieldLink RX2 13 "Phaselock$EdgeLog" "changed" "[Z", .methodLink RX2 17 yX2_findDistance, .static yX2_findDistance, .initialized RX2, .code yX2_findDistance cX2_findDistance 4 (some .int), .methodLink RX2 21 Lib.Math.min.name, .static Lib.Math.min.name, .initialized "java/lang/Math", .code Lib.Math.min.name Lib.Math.min.code 2 (some .int)] ++ wsX20)
def wsX3_init : List Cond := .code yX3_init cX3_init 1 none :: ([.methodLink RX3 1 objectInit, .instanceMethod objectInit, .code objectInit ⟨#[0xb1]⟩ 1 none, .constant RX3 7 (65535), .fieldLink RX3 8 "Phaselock$LineMemory" "values" "I"] ++ wsX30)
def wsX3_remember : List Cond := .code yX3_remember cX3_remember 2 none :: ([.fieldLink RX3 8 "Phaselock$LineMemory" "values" "I", .constant RX3 7 (65535)] ++ wsX30)
def wsX3_hasChangedSince : List Cond := .code yX3_hasChangedSince cX3_hasChangedSince 2 (some .boolean) :: ([.fieldLink RX3 8 "Phaselock$LineMemory" "values" "I"] ++ wsX30)
def wsJ6_bitCount_0f7a4 : List Cond := .code yJ6_bitCount_0f7a4 cJ6_bitCount_0f7a4 1 (some .int) :: ([.constant RJ6 265 (1431655765), .constant RJ6 266 (858993459), .constant RJ6 267 (252645135)])
def wsX3_findLevel : List Cond := .code yX3_findLevel cX3_findLevel 1 (some .int) :: ([.fieldLink RX3 8 "Phaselock$LineMemory" "values" "I", .methodLink RX3 14 yJ6_bitCount_0f7a4, .static yJ6_bitCount_0f7a4, .initialized RJ6, .code yJ6_bitCount_0f7a4 cJ6_bitCount_0f7a4 1 (some .int), .constant RJ6 265 (1431655765), .constant RJ6 266 (858993459), .constant RJ6 267 (252645135)] ++ wsX30)
def wsX4_init : List Cond := .code yX4_init cX4_init 1 none :: ([.methodLink RX4 1 objectInit, .instanceMethod objectInit, .code objectInit ⟨#[0xb1]⟩ 1 none, .fieldLink RX4 7 "Phaselock$LoopFilter" "proportionalGain" "I", .fieldLink RX4 13 "Phaselock$LoopFilter" "integralGain" "I", .fieldLink RX4 16 "Phaselock$LoopFilter" "error" "I", .fieldLink RX4 19 "Phaselock$LoopFilter" "integral" "I", .fieldLink RX4 22 "Phaselock$LoopFilter" "control" "I"] ++ wsX40)
def wsX4_keepWithin : List Cond := .code yX4_keepWithin cX4_keepWithin 2 (some .int) :: ([.methodLink RX4 35 Lib.Math.min.name, .static Lib.Math.min.name, .initialized "java/lang/Math", .code Lib.Math.min.name Lib.Math.min.code 2 (some .int), .methodLink RX4 38 Lib.Math.max.name, .static Lib.Math.max.name, .code Lib.Math.max.name Lib.Math.max.code 2 (some .int)])
def wsJ9_floorDiv_7cf53 : List Cond := .code yJ9_floorDiv_7cf53 cJ9_floorDiv_7cf53 3 (some .int) :: ([])
def wsX4_takeError : List Cond := .code yX4_takeError cX4_takeError 2 none :: ([.fieldLink RX4 16 "Phaselock$LoopFilter" "error" "I", .fieldLink RX4 19 "Phaselock$LoopFilter" "integral" "I", .fieldLink RX4 13 "Phaselock$LoopFilter" "integralGain" "I", .constant RX4 25 (262144), .fieldLink RX4 7 "Phaselock$LoopFilter" "proportionalGain" "I", .fieldLink RX4 22 "Phaselock$LoopFilter" "control" "I", .methodLink RX4 26 yX4_keepWithin, .static yX4_keepWithin, .initialized RX4, .code yX4_keepWithin cX4_keepWithin 2 (some .int), .methodLink RX4 35 Lib.Math.min.name, .static Lib.Math.min.name, .initialized "java/lang/Math", .code Lib.Math.min.name Lib.Math.min.code 2 (some .int), .methodLink RX4 38 Lib.Math.max.name, .static Lib.Math.max.name, .code Lib.Math.max.name Lib.Math.max.code 2 (some .int), .methodLink RX4 30 yJ9_floorDiv_7cf53, .static yJ9_floorDiv_7cf53, .initialized RJ9, .code yJ9_floorDiv_7cf53 cJ9_floorDiv_7cf53 3 (some .int)] ++ wsX40)
def wsX5_init : List Cond := .code yX5_init cX5_init 1 none :: ([.methodLink RX5 3 objectInit, .instanceMethod objectInit, .code objectInit ⟨#[0xb1]⟩ 1 none, .fieldLink RX5 9 "Phaselock$Oscillator" "phase" "I"] ++ wsX50)
def wsX5_hasPassed : List Cond := .code yX5_hasPassed cX5_hasPassed 3 (some .boolean) :: ([.fieldLink RX5 9 "Phaselock$Oscillator" "phase" "I"] ++ wsX50)
def wsX5_advance : List Cond := .code yX5_advance cX5_advance 3 (some .int) :: ([.fieldLink RX5 9 "Phaselock$Oscillator" "phase" "I", .constant RX5 15 (65536), .constant RX5 16 (49152), .constant RX5 21 (32768), .methodLink RX5 17 yX5_hasPassed, .instanceMethod yX5_hasPassed, .selects RX5 yX5_hasPassed yX5_hasPassed, .initialized RX5, .code yX5_hasPassed cX5_hasPassed 3 (some .boolean)] ++ wsX50)
def wsX6_init : List Cond := .code yX6_init cX6_init 1 none :: ([.methodLink RX6 3 objectInit, .instanceMethod objectInit, .code objectInit ⟨#[0xb1]⟩ 1 none, .fieldLink RX6 9 "Phaselock$PhaseDetector" "kind" "I", .fieldLink RX6 15 "Phaselock$PhaseDetector" "edgeError" "I", .fieldLink RX6 18 "Phaselock$PhaseDetector" "product" "I", .fieldLink RX6 21 "Phaselock$PhaseDetector" "earlyValue" "I", .fieldLink RX6 24 "Phaselock$PhaseDetector" "middleValue" "I", .fieldLink RX6 27 "Phaselock$PhaseDetector" "middleLevel" "I", .fieldLink RX6 30 "Phaselock$PhaseDetector" "dataLevel" "I"] ++ wsX60)
def wsX6_watchLine : List Cond := .code yX6_watchLine cX6_watchLine 3 none :: ([.constant RX6 39 (32768), .fieldLink RX6 15 "Phaselock$PhaseDetector" "edgeError" "I", .fieldLink RX6 18 "Phaselock$PhaseDetector" "product" "I", .constant RX6 40 (49151), .methodLink RX6 33 yX3_hasChangedSince, .instanceMethod yX3_hasChangedSince, .selects RX3 yX3_hasChangedSince yX3_hasChangedSince, .initialized RX3, .code yX3_hasChangedSince cX3_hasChangedSince 2 (some .boolean), .fieldLink RX3 8 "Phaselock$LineMemory" "values" "I", .static yX10_isWithin, .initialized RX10, .code yX10_isWithin cX10_isWithin 3 (some .boolean)] ++ wsX60 ++ wsX30)
def wsX6_keepEarly : List Cond := .code yX6_keepEarly cX6_keepEarly 2 none :: ([.methodLink RX6 45 Lib.Math.abs.name, .static Lib.Math.abs.name, .initialized "java/lang/Math", .code Lib.Math.abs.name Lib.Math.abs.code 1 (some .int), .fieldLink RX6 21 "Phaselock$PhaseDetector" "earlyValue" "I"] ++ wsX60)
def wsX6_keepMiddle : List Cond := .code yX6_keepMiddle cX6_keepMiddle 3 none :: ([.fieldLink RX6 24 "Phaselock$PhaseDetector" "middleValue" "I", .fieldLink RX6 27 "Phaselock$PhaseDetector" "middleLevel" "I"] ++ wsX60)
def wsX6_measureLate : List Cond := .code yX6_measureLate cX6_measureLate 2 (some .int) :: ([.fieldLink RX6 21 "Phaselock$PhaseDetector" "earlyValue" "I", .methodLink RX6 45 Lib.Math.abs.name, .static Lib.Math.abs.name, .initialized "java/lang/Math", .code Lib.Math.abs.name Lib.Math.abs.code 1 (some .int)] ++ wsX60)
def wsX6_measureBangBang : List Cond := .code yX6_measureBangBang cX6_measureBangBang 4 (some .int) :: ([.fieldLink RX6 55 "Phaselock$BitLog" "count" "I", .fieldLink RX6 24 "Phaselock$PhaseDetector" "middleValue" "I", .methodLink RX6 60 yX1_findBit, .instanceMethod yX1_findBit, .selects RX1 yX1_findBit yX1_findBit, .initialized RX1, .code yX1_findBit cX1_findBit 2 (some .int), .fieldLink RX1 15 "Phaselock$BitLog" "latest32" "I"] ++ wsX10 ++ wsX60)
def wsX6_measureAtData : List Cond := .code yX6_measureAtData cX6_measureAtData 4 (some .int) :: ([.fieldLink RX6 9 "Phaselock$PhaseDetector" "kind" "I", .fieldLink RX6 15 "Phaselock$PhaseDetector" "edgeError" "I", .fieldLink RX6 18 "Phaselock$PhaseDetector" "product" "I", .fieldLink RX6 27 "Phaselock$PhaseDetector" "middleLevel" "I", .fieldLink RX6 30 "Phaselock$PhaseDetector" "dataLevel" "I", .methodLink RX6 51 yX6_measureBangBang, .instanceMethod yX6_measureBangBang, .selects RX6 yX6_measureBangBang yX6_measureBangBang, .initialized RX6, .code yX6_measureBangBang cX6_measureBangBang 4 (some .int), .fieldLink RX6 55 "Phaselock$BitLog" "count" "I", .fieldLink RX6 24 "Phaselock$PhaseDetector" "middleValue" "I", .methodLink RX6 60 yX1_findBit, .instanceMethod yX1_findBit, .selects RX1 yX1_findBit yX1_findBit, .initialized RX1, .code yX1_findBit cX1_findBit 2 (some .int), .fieldLink RX1 15 "Phaselock$BitLog" "latest32" "I"] ++ wsX60 ++ wsX10)
def wsX6_finishBit : List Cond := .code yX6_finishBit cX6_finishBit 2 none :: ([.fieldLink RX6 15 "Phaselock$PhaseDetector" "edgeError" "I", .fieldLink RX6 18 "Phaselock$PhaseDetector" "product" "I", .fieldLink RX6 30 "Phaselock$PhaseDetector" "dataLevel" "I"] ++ wsX60)
def wsX7_init : List Cond := .code yX7_init cX7_init 1 none :: ([.methodLink RX7 3 objectInit, .instanceMethod objectInit, .code objectInit ⟨#[0xb1]⟩ 1 none, .fieldLink RX7 9 "Phaselock$PhaseLog" "count" "I", .fieldLink RX7 15 "Phaselock$PhaseLog" "latest" "I", .fieldLink RX7 18 "Phaselock$PhaseLog" "steadyCount" "I", .arrayClass .int, .fieldLink RX7 21 "Phaselock$PhaseLog" "window" "[I"] ++ wsX70)
def wsX7_add : List Cond := .code yX7_add cX7_add 4 none :: ([.fieldLink RX7 21 "Phaselock$PhaseLog" "window" "[I", .fieldLink RX7 9 "Phaselock$PhaseLog" "count" "I", .fieldLink RX7 15 "Phaselock$PhaseLog" "latest" "I", .fieldLink RX7 18 "Phaselock$PhaseLog" "steadyCount" "I", .static yX10_isWithin, .initialized RX10, .code yX10_isWithin cX10_isWithin 3 (some .boolean)] ++ wsX70)
def wsX7_isSteady : List Cond := .code yX7_isSteady cX7_isSteady 1 (some .boolean) :: ([.fieldLink RX7 18 "Phaselock$PhaseLog" "steadyCount" "I"] ++ wsX70)
def wsX7_sumAbsolutes : List Cond := .code yX7_sumAbsolutes cX7_sumAbsolutes 3 (some .int) :: ([.fieldLink RX7 21 "Phaselock$PhaseLog" "window" "[I", .methodLink RX7 29 Lib.Math.abs.name, .static Lib.Math.abs.name, .initialized "java/lang/Math", .code Lib.Math.abs.name Lib.Math.abs.code 1 (some .int)] ++ wsX70)
def wsX8_init : List Cond := .code yX8_init cX8_init 1 none :: ([.methodLink RX8 1 objectInit, .instanceMethod objectInit, .code objectInit ⟨#[0xb1]⟩ 1 none, .fieldLink RX8 7 "Phaselock$SlipCounter" "repeated" "I", .fieldLink RX8 13 "Phaselock$SlipCounter" "skipped" "I", .fieldLink RX8 16 "Phaselock$SlipCounter" "hasStrobed" "Z", .fieldLink RX8 20 "Phaselock$SlipCounter" "numberBefore" "I"] ++ wsX80)
def wsX8_compare : List Cond := .code yX8_compare cX8_compare 3 (some .boolean) :: ([.fieldLink RX8 16 "Phaselock$SlipCounter" "hasStrobed" "Z", .fieldLink RX8 20 "Phaselock$SlipCounter" "numberBefore" "I", .fieldLink RX8 7 "Phaselock$SlipCounter" "repeated" "I", .fieldLink RX8 13 "Phaselock$SlipCounter" "skipped" "I"] ++ wsX80)
def wsX9_init : List Cond := .code yX9_init cX9_init 1 none :: ([.methodLink RX9 3 objectInit, .instanceMethod objectInit, .code objectInit ⟨#[0xb1]⟩ 1 none, .fieldLink RX9 9 "Phaselock$Transmitter" "phase" "I", .fieldLink RX9 15 "Phaselock$Transmitter" "step" "I", .fieldLink RX9 18 "Phaselock$Transmitter" "jitter" "I", .fieldLink RX9 21 "Phaselock$Transmitter" "randomState" "J", .fieldLink RX9 25 "Phaselock$Transmitter" "number" "I", .fieldLink RX9 28 "Phaselock$Transmitter" "value" "I", .fieldLink RX9 31 "Phaselock$Transmitter" "register" "I"] ++ wsX90)
def wsX9_drawDeviation : List Cond := .code yX9_drawDeviation cX9_drawDeviation 2 (some .int) :: ([.fieldLink RX9 18 "Phaselock$Transmitter" "jitter" "I", .constantLong RX9 42 (1103515245), .fieldLink RX9 21 "Phaselock$Transmitter" "randomState" "J", .constantLong RX9 44 (12345), .constantLong RX9 46 (2147483648), .constantLong RX9 48 (65536)] ++ wsX90)
def wsX9_shiftRegister : List Cond := .code yX9_shiftRegister cX9_shiftRegister 3 (some .int) :: ([.fieldLink RX9 31 "Phaselock$Transmitter" "register" "I"] ++ wsX90)
def wsX9_sendNextBit : List Cond := .code yX9_sendNextBit cX9_sendNextBit 2 none :: ([.fieldLink RX9 25 "Phaselock$Transmitter" "number" "I", .fieldLink RX9 28 "Phaselock$Transmitter" "value" "I", .methodLink RX9 50 yX9_shiftRegister, .instanceMethod yX9_shiftRegister, .selects RX9 yX9_shiftRegister yX9_shiftRegister, .initialized RX9, .code yX9_shiftRegister cX9_shiftRegister 3 (some .int), .fieldLink RX9 31 "Phaselock$Transmitter" "register" "I"] ++ wsX90)
def wsX9_advance_r1 : List Cond := [Cond.fieldLink RX9 9 "Phaselock$Transmitter" "phase" "I", Cond.fieldLink RX9 15 "Phaselock$Transmitter" "step" "I", Cond.constant RX9 38 (65536), Cond.methodLink RX9 34 yX9_drawDeviation, Cond.instanceMethod yX9_drawDeviation, Cond.selects RX9 yX9_drawDeviation yX9_drawDeviation, Cond.initialized RX9, Cond.code yX9_drawDeviation cX9_drawDeviation 2 (some .int), Cond.fieldLink RX9 18 "Phaselock$Transmitter" "jitter" "I", Cond.constantLong RX9 42 (1103515245), Cond.fieldLink RX9 21 "Phaselock$Transmitter" "randomState" "J", Cond.constantLong RX9 44 (12345), Cond.constantLong RX9 46 (2147483648), Cond.constantLong RX9 48 (65536), Cond.methodLink RX9 39 yX9_sendNextBit, Cond.instanceMethod yX9_sendNextBit, Cond.selects RX9 yX9_sendNextBit yX9_sendNextBit, Cond.code yX9_sendNextBit cX9_sendNextBit 2 none, Cond.fieldLink RX9 25 "Phaselock$Transmitter" "number" "I", Cond.fieldLink RX9 28 "Phaselock$Transmitter" "value" "I", Cond.methodLink RX9 50 yX9_shiftRegister, Cond.instanceMethod yX9_shiftRegister, Cond.selects RX9 yX9_shiftRegister yX9_shiftRegister, Cond.code yX9_shiftRegister cX9_shiftRegister 3 (some .int)]
def wsX9_advance_r2 : List Cond := [Cond.fieldLink RX9 31 "Phaselock$Transmitter" "register" "I"]
def wsX9_advance : List Cond := .code yX9_advance cX9_advance 1 none :: ((wsX9_advance_r1 ++ wsX9_advance_r2) ++ wsX90)
def wsX10_init_r1 : List Cond := [Cond.methodLink RX10 1 objectInit, Cond.instanceMethod objectInit, Cond.code objectInit ⟨#[0xb1]⟩ 1 none, Cond.classLink RX10 7 RX9, Cond.instantiable RX9 7, Cond.initialized RX9, Cond.fieldLink RX10 10 "Phaselock" "transmitter" "LPhaselock$Transmitter;", Cond.classLink RX10 16 RX3, Cond.instantiable RX3 1, Cond.initialized RX3, Cond.fieldLink RX10 19 "Phaselock" "memory" "LPhaselock$LineMemory;", Cond.classLink RX10 23 RX2, Cond.instantiable RX2 2, Cond.initialized RX2, Cond.fieldLink RX10 26 "Phaselock" "edges" "LPhaselock$EdgeLog;", Cond.classLink RX10 30 RX5, Cond.instantiable RX5 1, Cond.initialized RX5, Cond.fieldLink RX10 33 "Phaselock" "oscillator" "LPhaselock$Oscillator;", Cond.classLink RX10 37 RX6, Cond.instantiable RX6 7, Cond.initialized RX6, Cond.fieldLink RX10 40 "Phaselock" "detector" "LPhaselock$PhaseDetector;", Cond.classLink RX10 44 RX4]
def wsX10_init_r2 : List Cond := [Cond.instantiable RX4 5, Cond.initialized RX4, Cond.fieldLink RX10 47 "Phaselock" "filter" "LPhaselock$LoopFilter;", Cond.classLink RX10 51 RX1, Cond.instantiable RX1 2, Cond.initialized RX1, Cond.fieldLink RX10 54 "Phaselock" "bits" "LPhaselock$BitLog;", Cond.classLink RX10 58 RX8, Cond.instantiable RX8 4, Cond.initialized RX8, Cond.fieldLink RX10 61 "Phaselock" "slips" "LPhaselock$SlipCounter;", Cond.classLink RX10 65 RX7, Cond.instantiable RX7 4, Cond.initialized RX7, Cond.fieldLink RX10 68 "Phaselock" "phases" "LPhaselock$PhaseLog;", Cond.classLink RX10 72 RX0, Cond.instantiable RX0 6, Cond.initialized RX0, Cond.fieldLink RX10 75 "Phaselock" "aligner" "LPhaselock$Aligner;", Cond.instanceMethod yX9_init, Cond.code yX9_init cX9_init 1 none, Cond.methodLink RX9 3 objectInit, Cond.fieldLink RX9 9 "Phaselock$Transmitter" "phase" "I", Cond.fieldLink RX9 15 "Phaselock$Transmitter" "step" "I"]
def wsX10_init_r3 : List Cond := [Cond.fieldLink RX9 18 "Phaselock$Transmitter" "jitter" "I", Cond.fieldLink RX9 21 "Phaselock$Transmitter" "randomState" "J", Cond.fieldLink RX9 25 "Phaselock$Transmitter" "number" "I", Cond.fieldLink RX9 28 "Phaselock$Transmitter" "value" "I", Cond.fieldLink RX9 31 "Phaselock$Transmitter" "register" "I", Cond.instanceMethod yX3_init, Cond.code yX3_init cX3_init 1 none, Cond.methodLink RX3 1 objectInit, Cond.constant RX3 7 (65535), Cond.fieldLink RX3 8 "Phaselock$LineMemory" "values" "I", Cond.instanceMethod yX2_init, Cond.code yX2_init cX2_init 1 none, Cond.methodLink RX2 1 objectInit, Cond.fieldLink RX2 7 "Phaselock$EdgeLog" "ticks" "I", Cond.arrayClass .boolean, Cond.fieldLink RX2 13 "Phaselock$EdgeLog" "changed" "[Z", Cond.instanceMethod yX5_init, Cond.code yX5_init cX5_init 1 none, Cond.methodLink RX5 3 objectInit, Cond.fieldLink RX5 9 "Phaselock$Oscillator" "phase" "I", Cond.instanceMethod yX6_init, Cond.code yX6_init cX6_init 1 none, Cond.methodLink RX6 3 objectInit, Cond.fieldLink RX6 9 "Phaselock$PhaseDetector" "kind" "I"]
def wsX10_init_r4 : List Cond := [Cond.fieldLink RX6 15 "Phaselock$PhaseDetector" "edgeError" "I", Cond.fieldLink RX6 18 "Phaselock$PhaseDetector" "product" "I", Cond.fieldLink RX6 21 "Phaselock$PhaseDetector" "earlyValue" "I", Cond.fieldLink RX6 24 "Phaselock$PhaseDetector" "middleValue" "I", Cond.fieldLink RX6 27 "Phaselock$PhaseDetector" "middleLevel" "I", Cond.fieldLink RX6 30 "Phaselock$PhaseDetector" "dataLevel" "I", Cond.instanceMethod yX4_init, Cond.code yX4_init cX4_init 1 none, Cond.methodLink RX4 1 objectInit, Cond.fieldLink RX4 7 "Phaselock$LoopFilter" "proportionalGain" "I", Cond.fieldLink RX4 13 "Phaselock$LoopFilter" "integralGain" "I", Cond.fieldLink RX4 16 "Phaselock$LoopFilter" "error" "I", Cond.fieldLink RX4 19 "Phaselock$LoopFilter" "integral" "I", Cond.fieldLink RX4 22 "Phaselock$LoopFilter" "control" "I", Cond.instanceMethod yX1_init, Cond.code yX1_init cX1_init 1 none, Cond.methodLink RX1 3 objectInit, Cond.fieldLink RX1 9 "Phaselock$BitLog" "count" "I", Cond.fieldLink RX1 15 "Phaselock$BitLog" "latest32" "I", Cond.instanceMethod yX8_init, Cond.code yX8_init cX8_init 1 none, Cond.methodLink RX8 1 objectInit, Cond.fieldLink RX8 7 "Phaselock$SlipCounter" "repeated" "I", Cond.fieldLink RX8 13 "Phaselock$SlipCounter" "skipped" "I"]
def wsX10_init_r5 : List Cond := [Cond.fieldLink RX8 16 "Phaselock$SlipCounter" "hasStrobed" "Z", Cond.fieldLink RX8 20 "Phaselock$SlipCounter" "numberBefore" "I", Cond.instanceMethod yX7_init, Cond.code yX7_init cX7_init 1 none, Cond.methodLink RX7 3 objectInit, Cond.fieldLink RX7 9 "Phaselock$PhaseLog" "count" "I", Cond.fieldLink RX7 15 "Phaselock$PhaseLog" "latest" "I", Cond.fieldLink RX7 18 "Phaselock$PhaseLog" "steadyCount" "I", Cond.arrayClass .int, Cond.fieldLink RX7 21 "Phaselock$PhaseLog" "window" "[I", Cond.instanceMethod yX0_init, Cond.code yX0_init cX0_init 1 none, Cond.methodLink RX0 3 objectInit, Cond.fieldLink RX0 11 "Phaselock$Aligner" "state" "I", Cond.fieldLink RX0 15 "Phaselock$Aligner" "frames" "I", Cond.fieldLink RX0 18 "Phaselock$Aligner" "losses" "I", Cond.fieldLink RX0 21 "Phaselock$Aligner" "position" "I", Cond.fieldLink RX0 24 "Phaselock$Aligner" "matches" "I", Cond.fieldLink RX0 27 "Phaselock$Aligner" "misses" "I"]
def wsX10_init : List Cond := .code yX10_init cX10_init 1 none :: ((wsX10_init_r1 ++ (wsX10_init_r2 ++ (wsX10_init_r3 ++ (wsX10_init_r4 ++ wsX10_init_r5)))) ++ wsX90 ++ wsX100 ++ wsX30 ++ wsX20 ++ wsX50 ++ wsX60 ++ wsX40 ++ wsX10 ++ wsX80 ++ wsX70 ++ wsX00)
def wsX10_setOffset : List Cond := .code yX10_setOffset cX10_setOffset 2 (some .int) :: ([.classLink RX10 83 "java/lang/IllegalArgumentException", .initialized "java/lang/IllegalArgumentException", .fieldLink RX10 10 "Phaselock" "transmitter" "LPhaselock$Transmitter;", .fieldLink RX10 90 "Phaselock$Transmitter" "step" "I", .methodLink RX10 79 yX10_isWithin, .static yX10_isWithin, .initialized RX10, .code yX10_isWithin cX10_isWithin 3 (some .boolean)] ++ wsX100 ++ wsX90 ++ (vx_atS RX10 87 "java/lang/IllegalArgumentException" ["java/lang/RuntimeException", "java/lang/Exception"]).filter goodWord)
def wsX10_setJitter : List Cond := .code yX10_setJitter cX10_setJitter 3 none :: ([.classLink RX10 83 "java/lang/IllegalArgumentException", .initialized "java/lang/IllegalArgumentException", .fieldLink RX10 10 "Phaselock" "transmitter" "LPhaselock$Transmitter;", .fieldLink RX10 98 "Phaselock$Transmitter" "jitter" "I", .fieldLink RX10 101 "Phaselock$Transmitter" "randomState" "J", .methodLink RX10 79 yX10_isWithin, .static yX10_isWithin, .initialized RX10, .code yX10_isWithin cX10_isWithin 3 (some .boolean)] ++ wsX100 ++ wsX90 ++ (vx_atS RX10 87 "java/lang/IllegalArgumentException" ["java/lang/RuntimeException", "java/lang/Exception"]).filter goodWord)
def wsX10_setDetector : List Cond := .code yX10_setDetector cX10_setDetector 3 (some .int) :: ([.classLink RX10 83 "java/lang/IllegalArgumentException", .initialized "java/lang/IllegalArgumentException", .fieldLink RX10 40 "Phaselock" "detector" "LPhaselock$PhaseDetector;", .fieldLink RX10 107 "Phaselock$PhaseDetector" "kind" "I", .methodLink RX10 79 yX10_isWithin, .static yX10_isWithin, .initialized RX10, .code yX10_isWithin cX10_isWithin 3 (some .boolean)] ++ wsX100 ++ wsX60 ++ (vx_atS RX10 87 "java/lang/IllegalArgumentException" ["java/lang/RuntimeException", "java/lang/Exception"]).filter goodWord)
def wsX10_setGains : List Cond := .code yX10_setGains cX10_setGains 3 none :: ([.classLink RX10 83 "java/lang/IllegalArgumentException", .initialized "java/lang/IllegalArgumentException", .fieldLink RX10 47 "Phaselock" "filter" "LPhaselock$LoopFilter;", .fieldLink RX10 114 "Phaselock$LoopFilter" "proportionalGain" "I", .fieldLink RX10 117 "Phaselock$LoopFilter" "integralGain" "I", .methodLink RX10 79 yX10_isWithin, .static yX10_isWithin, .initialized RX10, .code yX10_isWithin cX10_isWithin 3 (some .boolean)] ++ wsX100 ++ wsX40 ++ (vx_atS RX10 87 "java/lang/IllegalArgumentException" ["java/lang/RuntimeException", "java/lang/Exception"]).filter goodWord)
def wsX10_setPhase : List Cond := .code yX10_setPhase cX10_setPhase 3 (some .int) :: ([.classLink RX10 83 "java/lang/IllegalArgumentException", .initialized "java/lang/IllegalArgumentException", .constant RX10 120 (65535), .fieldLink RX10 33 "Phaselock" "oscillator" "LPhaselock$Oscillator;", .fieldLink RX10 123 "Phaselock$Oscillator" "phase" "I", .methodLink RX10 79 yX10_isWithin, .static yX10_isWithin, .initialized RX10, .code yX10_isWithin cX10_isWithin 3 (some .boolean)] ++ wsX100 ++ wsX50 ++ (vx_atS RX10 87 "java/lang/IllegalArgumentException" ["java/lang/RuntimeException", "java/lang/Exception"]).filter goodWord)
def wsX10_release : List Cond := .code yX10_release cX10_release 1 none :: ([.fieldLink RX10 47 "Phaselock" "filter" "LPhaselock$LoopFilter;", .fieldLink RX10 126 "Phaselock$LoopFilter" "integral" "I", .fieldLink RX10 129 "Phaselock$LoopFilter" "control" "I"] ++ wsX100 ++ wsX40)
def wsX10_actOnDataStrobe_r1 : List Cond := [Cond.fieldLink RX10 10 "Phaselock" "transmitter" "LPhaselock$Transmitter;", Cond.fieldLink RX10 146 "Phaselock$Transmitter" "value" "I", Cond.fieldLink RX10 19 "Phaselock" "memory" "LPhaselock$LineMemory;", Cond.fieldLink RX10 40 "Phaselock" "detector" "LPhaselock$PhaseDetector;", Cond.fieldLink RX10 107 "Phaselock$PhaseDetector" "kind" "I", Cond.fieldLink RX10 47 "Phaselock" "filter" "LPhaselock$LoopFilter;", Cond.fieldLink RX10 54 "Phaselock" "bits" "LPhaselock$BitLog;", Cond.fieldLink RX10 61 "Phaselock" "slips" "LPhaselock$SlipCounter;", Cond.fieldLink RX10 143 "Phaselock$Transmitter" "number" "I", Cond.fieldLink RX10 68 "Phaselock" "phases" "LPhaselock$PhaseLog;", Cond.fieldLink RX10 153 "Phaselock$Transmitter" "phase" "I", Cond.constant RX10 257 (32768), Cond.fieldLink RX10 75 "Phaselock" "aligner" "LPhaselock$Aligner;", Cond.methodLink RX10 149 yX3_findLevel, Cond.instanceMethod yX3_findLevel, Cond.selects RX3 yX3_findLevel yX3_findLevel, Cond.initialized RX3, Cond.code yX3_findLevel cX3_findLevel 1 (some .int), Cond.fieldLink RX3 8 "Phaselock$LineMemory" "values" "I", Cond.methodLink RX3 14 yJ6_bitCount_0f7a4, Cond.static yJ6_bitCount_0f7a4, Cond.initialized RJ6, Cond.code yJ6_bitCount_0f7a4 cJ6_bitCount_0f7a4 1 (some .int), Cond.constant RJ6 265 (1431655765)]
def wsX10_actOnDataStrobe_r2 : List Cond := [Cond.constant RJ6 266 (858993459), Cond.constant RJ6 267 (252645135), Cond.methodLink RX10 245 yX6_measureAtData, Cond.instanceMethod yX6_measureAtData, Cond.selects RX6 yX6_measureAtData yX6_measureAtData, Cond.initialized RX6, Cond.code yX6_measureAtData cX6_measureAtData 4 (some .int), Cond.fieldLink RX6 9 "Phaselock$PhaseDetector" "kind" "I", Cond.fieldLink RX6 15 "Phaselock$PhaseDetector" "edgeError" "I", Cond.fieldLink RX6 18 "Phaselock$PhaseDetector" "product" "I", Cond.fieldLink RX6 27 "Phaselock$PhaseDetector" "middleLevel" "I", Cond.fieldLink RX6 30 "Phaselock$PhaseDetector" "dataLevel" "I", Cond.methodLink RX6 51 yX6_measureBangBang, Cond.instanceMethod yX6_measureBangBang, Cond.selects RX6 yX6_measureBangBang yX6_measureBangBang, Cond.code yX6_measureBangBang cX6_measureBangBang 4 (some .int), Cond.fieldLink RX6 55 "Phaselock$BitLog" "count" "I", Cond.fieldLink RX6 24 "Phaselock$PhaseDetector" "middleValue" "I", Cond.methodLink RX6 60 yX1_findBit, Cond.instanceMethod yX1_findBit, Cond.selects RX1 yX1_findBit yX1_findBit, Cond.initialized RX1, Cond.code yX1_findBit cX1_findBit 2 (some .int), Cond.fieldLink RX1 15 "Phaselock$BitLog" "latest32" "I"]
def wsX10_actOnDataStrobe_r3 : List Cond := [Cond.methodLink RX10 232 yX4_takeError, Cond.instanceMethod yX4_takeError, Cond.selects RX4 yX4_takeError yX4_takeError, Cond.initialized RX4, Cond.code yX4_takeError cX4_takeError 2 none, Cond.fieldLink RX4 16 "Phaselock$LoopFilter" "error" "I", Cond.fieldLink RX4 19 "Phaselock$LoopFilter" "integral" "I", Cond.fieldLink RX4 13 "Phaselock$LoopFilter" "integralGain" "I", Cond.constant RX4 25 (262144), Cond.fieldLink RX4 7 "Phaselock$LoopFilter" "proportionalGain" "I", Cond.fieldLink RX4 22 "Phaselock$LoopFilter" "control" "I", Cond.methodLink RX4 26 yX4_keepWithin, Cond.static yX4_keepWithin, Cond.code yX4_keepWithin cX4_keepWithin 2 (some .int), Cond.methodLink RX4 35 Lib.Math.min.name, Cond.static Lib.Math.min.name, Cond.initialized "java/lang/Math", Cond.code Lib.Math.min.name Lib.Math.min.code 2 (some .int), Cond.methodLink RX4 38 Lib.Math.max.name, Cond.static Lib.Math.max.name, Cond.code Lib.Math.max.name Lib.Math.max.code 2 (some .int), Cond.methodLink RX4 30 yJ9_floorDiv_7cf53, Cond.static yJ9_floorDiv_7cf53, Cond.initialized RJ9]
def wsX10_actOnDataStrobe_r4 : List Cond := [Cond.code yJ9_floorDiv_7cf53 cJ9_floorDiv_7cf53 3 (some .int), Cond.methodLink RX10 249 yX6_finishBit, Cond.instanceMethod yX6_finishBit, Cond.selects RX6 yX6_finishBit yX6_finishBit, Cond.code yX6_finishBit cX6_finishBit 2 none, Cond.methodLink RX10 252 yX1_add, Cond.instanceMethod yX1_add, Cond.selects RX1 yX1_add yX1_add, Cond.code yX1_add cX1_add 2 none, Cond.fieldLink RX1 9 "Phaselock$BitLog" "count" "I", Cond.methodLink RX10 254 yX8_compare, Cond.instanceMethod yX8_compare, Cond.selects RX8 yX8_compare yX8_compare, Cond.initialized RX8, Cond.code yX8_compare cX8_compare 3 (some .boolean), Cond.fieldLink RX8 16 "Phaselock$SlipCounter" "hasStrobed" "Z", Cond.fieldLink RX8 20 "Phaselock$SlipCounter" "numberBefore" "I", Cond.fieldLink RX8 7 "Phaselock$SlipCounter" "repeated" "I", Cond.fieldLink RX8 13 "Phaselock$SlipCounter" "skipped" "I", Cond.methodLink RX10 258 yX7_add, Cond.instanceMethod yX7_add, Cond.selects RX7 yX7_add yX7_add, Cond.initialized RX7, Cond.code yX7_add cX7_add 4 none]
def wsX10_actOnDataStrobe_r5 : List Cond := [Cond.fieldLink RX7 21 "Phaselock$PhaseLog" "window" "[I", Cond.fieldLink RX7 9 "Phaselock$PhaseLog" "count" "I", Cond.fieldLink RX7 15 "Phaselock$PhaseLog" "latest" "I", Cond.fieldLink RX7 18 "Phaselock$PhaseLog" "steadyCount" "I", Cond.static yX10_isWithin, Cond.initialized RX10, Cond.code yX10_isWithin cX10_isWithin 3 (some .boolean), Cond.methodLink RX10 261 yX1_endsWithSyncWord, Cond.instanceMethod yX1_endsWithSyncWord, Cond.selects RX1 yX1_endsWithSyncWord yX1_endsWithSyncWord, Cond.code yX1_endsWithSyncWord cX1_endsWithSyncWord 1 (some .boolean), Cond.methodLink RX10 264 yX0_take, Cond.instanceMethod yX0_take, Cond.selects RX0 yX0_take yX0_take, Cond.initialized RX0, Cond.code yX0_take cX0_take 2 none, Cond.fieldLink RX0 11 "Phaselock$Aligner" "state" "I", Cond.fieldLink RX0 21 "Phaselock$Aligner" "position" "I", Cond.fieldLink RX0 24 "Phaselock$Aligner" "matches" "I", Cond.methodLink RX0 30 yX0_verify, Cond.instanceMethod yX0_verify, Cond.selects RX0 yX0_verify yX0_verify, Cond.code yX0_verify cX0_verify 2 none, Cond.fieldLink RX0 27 "Phaselock$Aligner" "misses" "I"]
def wsX10_actOnDataStrobe_r6 : List Cond := [Cond.methodLink RX0 34 yX0_watchSync, Cond.instanceMethod yX0_watchSync, Cond.selects RX0 yX0_watchSync yX0_watchSync, Cond.code yX0_watchSync cX0_watchSync 2 none, Cond.fieldLink RX0 15 "Phaselock$Aligner" "frames" "I", Cond.fieldLink RX0 18 "Phaselock$Aligner" "losses" "I"]
def wsX10_actOnDataStrobe : List Cond := .code yX10_actOnDataStrobe cX10_actOnDataStrobe 4 none :: ((wsX10_actOnDataStrobe_r1 ++ (wsX10_actOnDataStrobe_r2 ++ (wsX10_actOnDataStrobe_r3 ++ (wsX10_actOnDataStrobe_r4 ++ (wsX10_actOnDataStrobe_r5 ++ wsX10_actOnDataStrobe_r6))))) ++ wsX100 ++ wsX90 ++ wsX60 ++ wsX30 ++ wsX10 ++ wsX40 ++ wsX80 ++ wsX70 ++ wsX00)
def wsX10_actOnStrobe_r1 : List Cond := [Cond.fieldLink RX10 40 "Phaselock" "detector" "LPhaselock$PhaseDetector;", Cond.fieldLink RX10 107 "Phaselock$PhaseDetector" "kind" "I", Cond.fieldLink RX10 47 "Phaselock" "filter" "LPhaselock$LoopFilter;", Cond.fieldLink RX10 19 "Phaselock" "memory" "LPhaselock$LineMemory;", Cond.fieldLink RX10 10 "Phaselock" "transmitter" "LPhaselock$Transmitter;", Cond.fieldLink RX10 146 "Phaselock$Transmitter" "value" "I", Cond.methodLink RX10 149 yX3_findLevel, Cond.instanceMethod yX3_findLevel, Cond.selects RX3 yX3_findLevel yX3_findLevel, Cond.initialized RX3, Cond.code yX3_findLevel cX3_findLevel 1 (some .int), Cond.fieldLink RX3 8 "Phaselock$LineMemory" "values" "I", Cond.methodLink RX3 14 yJ6_bitCount_0f7a4, Cond.static yJ6_bitCount_0f7a4, Cond.initialized RJ6, Cond.code yJ6_bitCount_0f7a4 cJ6_bitCount_0f7a4 1 (some .int), Cond.constant RJ6 265 (1431655765), Cond.constant RJ6 266 (858993459), Cond.constant RJ6 267 (252645135), Cond.methodLink RX10 229 yX6_measureLate, Cond.instanceMethod yX6_measureLate, Cond.selects RX6 yX6_measureLate yX6_measureLate, Cond.initialized RX6, Cond.code yX6_measureLate cX6_measureLate 2 (some .int)]
def wsX10_actOnStrobe_r2 : List Cond := [Cond.fieldLink RX6 21 "Phaselock$PhaseDetector" "earlyValue" "I", Cond.methodLink RX6 45 Lib.Math.abs.name, Cond.static Lib.Math.abs.name, Cond.initialized "java/lang/Math", Cond.code Lib.Math.abs.name Lib.Math.abs.code 1 (some .int), Cond.methodLink RX10 232 yX4_takeError, Cond.instanceMethod yX4_takeError, Cond.selects RX4 yX4_takeError yX4_takeError, Cond.initialized RX4, Cond.code yX4_takeError cX4_takeError 2 none, Cond.fieldLink RX4 16 "Phaselock$LoopFilter" "error" "I", Cond.fieldLink RX4 19 "Phaselock$LoopFilter" "integral" "I", Cond.fieldLink RX4 13 "Phaselock$LoopFilter" "integralGain" "I", Cond.constant RX4 25 (262144), Cond.fieldLink RX4 7 "Phaselock$LoopFilter" "proportionalGain" "I", Cond.fieldLink RX4 22 "Phaselock$LoopFilter" "control" "I", Cond.methodLink RX4 26 yX4_keepWithin, Cond.static yX4_keepWithin, Cond.code yX4_keepWithin cX4_keepWithin 2 (some .int), Cond.methodLink RX4 35 Lib.Math.min.name, Cond.static Lib.Math.min.name, Cond.code Lib.Math.min.name Lib.Math.min.code 2 (some .int), Cond.methodLink RX4 38 Lib.Math.max.name, Cond.static Lib.Math.max.name]
def wsX10_actOnStrobe_r3 : List Cond := [Cond.code Lib.Math.max.name Lib.Math.max.code 2 (some .int), Cond.methodLink RX4 30 yJ9_floorDiv_7cf53, Cond.static yJ9_floorDiv_7cf53, Cond.initialized RJ9, Cond.code yJ9_floorDiv_7cf53 cJ9_floorDiv_7cf53 3 (some .int), Cond.methodLink RX10 235 yX6_keepMiddle, Cond.instanceMethod yX6_keepMiddle, Cond.selects RX6 yX6_keepMiddle yX6_keepMiddle, Cond.code yX6_keepMiddle cX6_keepMiddle 3 none, Cond.fieldLink RX6 24 "Phaselock$PhaseDetector" "middleValue" "I", Cond.fieldLink RX6 27 "Phaselock$PhaseDetector" "middleLevel" "I", Cond.methodLink RX10 239 yX6_keepEarly, Cond.instanceMethod yX6_keepEarly, Cond.selects RX6 yX6_keepEarly yX6_keepEarly, Cond.code yX6_keepEarly cX6_keepEarly 2 none, Cond.methodLink RX10 242 yX10_actOnDataStrobe, Cond.instanceMethod yX10_actOnDataStrobe, Cond.selects RX10 yX10_actOnDataStrobe yX10_actOnDataStrobe, Cond.initialized RX10, Cond.code yX10_actOnDataStrobe cX10_actOnDataStrobe 4 none, Cond.fieldLink RX10 54 "Phaselock" "bits" "LPhaselock$BitLog;", Cond.fieldLink RX10 61 "Phaselock" "slips" "LPhaselock$SlipCounter;", Cond.fieldLink RX10 143 "Phaselock$Transmitter" "number" "I", Cond.fieldLink RX10 68 "Phaselock" "phases" "LPhaselock$PhaseLog;"]
def wsX10_actOnStrobe_r4 : List Cond := [Cond.fieldLink RX10 153 "Phaselock$Transmitter" "phase" "I", Cond.constant RX10 257 (32768), Cond.fieldLink RX10 75 "Phaselock" "aligner" "LPhaselock$Aligner;", Cond.methodLink RX10 245 yX6_measureAtData, Cond.instanceMethod yX6_measureAtData, Cond.selects RX6 yX6_measureAtData yX6_measureAtData, Cond.code yX6_measureAtData cX6_measureAtData 4 (some .int), Cond.fieldLink RX6 9 "Phaselock$PhaseDetector" "kind" "I", Cond.fieldLink RX6 15 "Phaselock$PhaseDetector" "edgeError" "I", Cond.fieldLink RX6 18 "Phaselock$PhaseDetector" "product" "I", Cond.fieldLink RX6 30 "Phaselock$PhaseDetector" "dataLevel" "I", Cond.methodLink RX6 51 yX6_measureBangBang, Cond.instanceMethod yX6_measureBangBang, Cond.selects RX6 yX6_measureBangBang yX6_measureBangBang, Cond.code yX6_measureBangBang cX6_measureBangBang 4 (some .int), Cond.fieldLink RX6 55 "Phaselock$BitLog" "count" "I", Cond.methodLink RX6 60 yX1_findBit, Cond.instanceMethod yX1_findBit, Cond.selects RX1 yX1_findBit yX1_findBit, Cond.initialized RX1, Cond.code yX1_findBit cX1_findBit 2 (some .int), Cond.fieldLink RX1 15 "Phaselock$BitLog" "latest32" "I", Cond.methodLink RX10 249 yX6_finishBit, Cond.instanceMethod yX6_finishBit]
def wsX10_actOnStrobe_r5 : List Cond := [Cond.selects RX6 yX6_finishBit yX6_finishBit, Cond.code yX6_finishBit cX6_finishBit 2 none, Cond.methodLink RX10 252 yX1_add, Cond.instanceMethod yX1_add, Cond.selects RX1 yX1_add yX1_add, Cond.code yX1_add cX1_add 2 none, Cond.fieldLink RX1 9 "Phaselock$BitLog" "count" "I", Cond.methodLink RX10 254 yX8_compare, Cond.instanceMethod yX8_compare, Cond.selects RX8 yX8_compare yX8_compare, Cond.initialized RX8, Cond.code yX8_compare cX8_compare 3 (some .boolean), Cond.fieldLink RX8 16 "Phaselock$SlipCounter" "hasStrobed" "Z", Cond.fieldLink RX8 20 "Phaselock$SlipCounter" "numberBefore" "I", Cond.fieldLink RX8 7 "Phaselock$SlipCounter" "repeated" "I", Cond.fieldLink RX8 13 "Phaselock$SlipCounter" "skipped" "I", Cond.methodLink RX10 258 yX7_add, Cond.instanceMethod yX7_add, Cond.selects RX7 yX7_add yX7_add, Cond.initialized RX7, Cond.code yX7_add cX7_add 4 none, Cond.fieldLink RX7 21 "Phaselock$PhaseLog" "window" "[I", Cond.fieldLink RX7 9 "Phaselock$PhaseLog" "count" "I", Cond.fieldLink RX7 15 "Phaselock$PhaseLog" "latest" "I"]
def wsX10_actOnStrobe_r6 : List Cond := [Cond.fieldLink RX7 18 "Phaselock$PhaseLog" "steadyCount" "I", Cond.static yX10_isWithin, Cond.code yX10_isWithin cX10_isWithin 3 (some .boolean), Cond.methodLink RX10 261 yX1_endsWithSyncWord, Cond.instanceMethod yX1_endsWithSyncWord, Cond.selects RX1 yX1_endsWithSyncWord yX1_endsWithSyncWord, Cond.code yX1_endsWithSyncWord cX1_endsWithSyncWord 1 (some .boolean), Cond.methodLink RX10 264 yX0_take, Cond.instanceMethod yX0_take, Cond.selects RX0 yX0_take yX0_take, Cond.initialized RX0, Cond.code yX0_take cX0_take 2 none, Cond.fieldLink RX0 11 "Phaselock$Aligner" "state" "I", Cond.fieldLink RX0 21 "Phaselock$Aligner" "position" "I", Cond.fieldLink RX0 24 "Phaselock$Aligner" "matches" "I", Cond.methodLink RX0 30 yX0_verify, Cond.instanceMethod yX0_verify, Cond.selects RX0 yX0_verify yX0_verify, Cond.code yX0_verify cX0_verify 2 none, Cond.fieldLink RX0 27 "Phaselock$Aligner" "misses" "I", Cond.methodLink RX0 34 yX0_watchSync, Cond.instanceMethod yX0_watchSync, Cond.selects RX0 yX0_watchSync yX0_watchSync, Cond.code yX0_watchSync cX0_watchSync 2 none]
def wsX10_actOnStrobe_r7 : List Cond := [Cond.fieldLink RX0 15 "Phaselock$Aligner" "frames" "I", Cond.fieldLink RX0 18 "Phaselock$Aligner" "losses" "I"]
def wsX10_actOnStrobe : List Cond := .code yX10_actOnStrobe cX10_actOnStrobe 2 none :: ((wsX10_actOnStrobe_r1 ++ (wsX10_actOnStrobe_r2 ++ (wsX10_actOnStrobe_r3 ++ (wsX10_actOnStrobe_r4 ++ (wsX10_actOnStrobe_r5 ++ (wsX10_actOnStrobe_r6 ++ wsX10_actOnStrobe_r7)))))) ++ wsX100 ++ wsX60 ++ wsX90 ++ wsX30 ++ wsX40 ++ wsX10 ++ wsX80 ++ wsX70 ++ wsX00)
def wsX10_passTick_r1 : List Cond := [Cond.fieldLink RX10 10 "Phaselock" "transmitter" "LPhaselock$Transmitter;", Cond.fieldLink RX10 19 "Phaselock" "memory" "LPhaselock$LineMemory;", Cond.fieldLink RX10 146 "Phaselock$Transmitter" "value" "I", Cond.fieldLink RX10 26 "Phaselock" "edges" "LPhaselock$EdgeLog;", Cond.fieldLink RX10 40 "Phaselock" "detector" "LPhaselock$PhaseDetector;", Cond.fieldLink RX10 33 "Phaselock" "oscillator" "LPhaselock$Oscillator;", Cond.fieldLink RX10 123 "Phaselock$Oscillator" "phase" "I", Cond.fieldLink RX10 47 "Phaselock" "filter" "LPhaselock$LoopFilter;", Cond.fieldLink RX10 129 "Phaselock$LoopFilter" "control" "I", Cond.methodLink RX10 206 yX9_advance, Cond.instanceMethod yX9_advance, Cond.selects RX9 yX9_advance yX9_advance, Cond.initialized RX9, Cond.code yX9_advance cX9_advance 1 none, Cond.fieldLink RX9 9 "Phaselock$Transmitter" "phase" "I", Cond.fieldLink RX9 15 "Phaselock$Transmitter" "step" "I", Cond.constant RX9 38 (65536), Cond.methodLink RX9 34 yX9_drawDeviation, Cond.instanceMethod yX9_drawDeviation, Cond.selects RX9 yX9_drawDeviation yX9_drawDeviation, Cond.code yX9_drawDeviation cX9_drawDeviation 2 (some .int), Cond.fieldLink RX9 18 "Phaselock$Transmitter" "jitter" "I", Cond.constantLong RX9 42 (1103515245), Cond.fieldLink RX9 21 "Phaselock$Transmitter" "randomState" "J"]
def wsX10_passTick_r2 : List Cond := [Cond.constantLong RX9 44 (12345), Cond.constantLong RX9 46 (2147483648), Cond.constantLong RX9 48 (65536), Cond.methodLink RX9 39 yX9_sendNextBit, Cond.instanceMethod yX9_sendNextBit, Cond.selects RX9 yX9_sendNextBit yX9_sendNextBit, Cond.code yX9_sendNextBit cX9_sendNextBit 2 none, Cond.fieldLink RX9 25 "Phaselock$Transmitter" "number" "I", Cond.fieldLink RX9 28 "Phaselock$Transmitter" "value" "I", Cond.methodLink RX9 50 yX9_shiftRegister, Cond.instanceMethod yX9_shiftRegister, Cond.selects RX9 yX9_shiftRegister yX9_shiftRegister, Cond.code yX9_shiftRegister cX9_shiftRegister 3 (some .int), Cond.fieldLink RX9 31 "Phaselock$Transmitter" "register" "I", Cond.methodLink RX10 209 yX3_remember, Cond.instanceMethod yX3_remember, Cond.selects RX3 yX3_remember yX3_remember, Cond.initialized RX3, Cond.code yX3_remember cX3_remember 2 none, Cond.fieldLink RX3 8 "Phaselock$LineMemory" "values" "I", Cond.constant RX3 7 (65535), Cond.methodLink RX10 213 yX3_hasChangedSince, Cond.instanceMethod yX3_hasChangedSince, Cond.selects RX3 yX3_hasChangedSince yX3_hasChangedSince]
def wsX10_passTick_r3 : List Cond := [Cond.code yX3_hasChangedSince cX3_hasChangedSince 2 (some .boolean), Cond.methodLink RX10 216 yX2_add, Cond.instanceMethod yX2_add, Cond.selects RX2 yX2_add yX2_add, Cond.initialized RX2, Cond.code yX2_add cX2_add 2 none, Cond.fieldLink RX2 7 "Phaselock$EdgeLog" "ticks" "I", Cond.fieldLink RX2 13 "Phaselock$EdgeLog" "changed" "[Z", Cond.methodLink RX10 220 yX6_watchLine, Cond.instanceMethod yX6_watchLine, Cond.selects RX6 yX6_watchLine yX6_watchLine, Cond.initialized RX6, Cond.code yX6_watchLine cX6_watchLine 3 none, Cond.constant RX6 39 (32768), Cond.fieldLink RX6 15 "Phaselock$PhaseDetector" "edgeError" "I", Cond.fieldLink RX6 18 "Phaselock$PhaseDetector" "product" "I", Cond.constant RX6 40 (49151), Cond.methodLink RX6 33 yX3_hasChangedSince, Cond.static yX10_isWithin, Cond.initialized RX10, Cond.code yX10_isWithin cX10_isWithin 3 (some .boolean), Cond.methodLink RX10 224 yX5_advance, Cond.instanceMethod yX5_advance, Cond.selects RX5 yX5_advance yX5_advance]
def wsX10_passTick_r4 : List Cond := [Cond.initialized RX5, Cond.code yX5_advance cX5_advance 3 (some .int), Cond.fieldLink RX5 9 "Phaselock$Oscillator" "phase" "I", Cond.constant RX5 15 (65536), Cond.constant RX5 16 (49152), Cond.constant RX5 21 (32768), Cond.methodLink RX5 17 yX5_hasPassed, Cond.instanceMethod yX5_hasPassed, Cond.selects RX5 yX5_hasPassed yX5_hasPassed, Cond.code yX5_hasPassed cX5_hasPassed 3 (some .boolean), Cond.methodLink RX10 226 yX10_actOnStrobe, Cond.instanceMethod yX10_actOnStrobe, Cond.selects RX10 yX10_actOnStrobe yX10_actOnStrobe, Cond.code yX10_actOnStrobe cX10_actOnStrobe 2 none, Cond.fieldLink RX10 107 "Phaselock$PhaseDetector" "kind" "I", Cond.methodLink RX10 149 yX3_findLevel, Cond.instanceMethod yX3_findLevel, Cond.selects RX3 yX3_findLevel yX3_findLevel, Cond.code yX3_findLevel cX3_findLevel 1 (some .int), Cond.methodLink RX3 14 yJ6_bitCount_0f7a4, Cond.static yJ6_bitCount_0f7a4, Cond.initialized RJ6, Cond.code yJ6_bitCount_0f7a4 cJ6_bitCount_0f7a4 1 (some .int), Cond.constant RJ6 265 (1431655765)]
def wsX10_passTick_r5 : List Cond := [Cond.constant RJ6 266 (858993459), Cond.constant RJ6 267 (252645135), Cond.methodLink RX10 229 yX6_measureLate, Cond.instanceMethod yX6_measureLate, Cond.selects RX6 yX6_measureLate yX6_measureLate, Cond.code yX6_measureLate cX6_measureLate 2 (some .int), Cond.fieldLink RX6 21 "Phaselock$PhaseDetector" "earlyValue" "I", Cond.methodLink RX6 45 Lib.Math.abs.name, Cond.static Lib.Math.abs.name, Cond.initialized "java/lang/Math", Cond.code Lib.Math.abs.name Lib.Math.abs.code 1 (some .int), Cond.methodLink RX10 232 yX4_takeError, Cond.instanceMethod yX4_takeError, Cond.selects RX4 yX4_takeError yX4_takeError, Cond.initialized RX4, Cond.code yX4_takeError cX4_takeError 2 none, Cond.fieldLink RX4 16 "Phaselock$LoopFilter" "error" "I", Cond.fieldLink RX4 19 "Phaselock$LoopFilter" "integral" "I", Cond.fieldLink RX4 13 "Phaselock$LoopFilter" "integralGain" "I", Cond.constant RX4 25 (262144), Cond.fieldLink RX4 7 "Phaselock$LoopFilter" "proportionalGain" "I", Cond.fieldLink RX4 22 "Phaselock$LoopFilter" "control" "I", Cond.methodLink RX4 26 yX4_keepWithin, Cond.static yX4_keepWithin]
def wsX10_passTick_r6 : List Cond := [Cond.code yX4_keepWithin cX4_keepWithin 2 (some .int), Cond.methodLink RX4 35 Lib.Math.min.name, Cond.static Lib.Math.min.name, Cond.code Lib.Math.min.name Lib.Math.min.code 2 (some .int), Cond.methodLink RX4 38 Lib.Math.max.name, Cond.static Lib.Math.max.name, Cond.code Lib.Math.max.name Lib.Math.max.code 2 (some .int), Cond.methodLink RX4 30 yJ9_floorDiv_7cf53, Cond.static yJ9_floorDiv_7cf53, Cond.initialized RJ9, Cond.code yJ9_floorDiv_7cf53 cJ9_floorDiv_7cf53 3 (some .int), Cond.methodLink RX10 235 yX6_keepMiddle, Cond.instanceMethod yX6_keepMiddle, Cond.selects RX6 yX6_keepMiddle yX6_keepMiddle, Cond.code yX6_keepMiddle cX6_keepMiddle 3 none, Cond.fieldLink RX6 24 "Phaselock$PhaseDetector" "middleValue" "I", Cond.fieldLink RX6 27 "Phaselock$PhaseDetector" "middleLevel" "I", Cond.methodLink RX10 239 yX6_keepEarly, Cond.instanceMethod yX6_keepEarly, Cond.selects RX6 yX6_keepEarly yX6_keepEarly, Cond.code yX6_keepEarly cX6_keepEarly 2 none, Cond.methodLink RX10 242 yX10_actOnDataStrobe, Cond.instanceMethod yX10_actOnDataStrobe, Cond.selects RX10 yX10_actOnDataStrobe yX10_actOnDataStrobe]
def wsX10_passTick_r7 : List Cond := [Cond.code yX10_actOnDataStrobe cX10_actOnDataStrobe 4 none, Cond.fieldLink RX10 54 "Phaselock" "bits" "LPhaselock$BitLog;", Cond.fieldLink RX10 61 "Phaselock" "slips" "LPhaselock$SlipCounter;", Cond.fieldLink RX10 143 "Phaselock$Transmitter" "number" "I", Cond.fieldLink RX10 68 "Phaselock" "phases" "LPhaselock$PhaseLog;", Cond.fieldLink RX10 153 "Phaselock$Transmitter" "phase" "I", Cond.constant RX10 257 (32768), Cond.fieldLink RX10 75 "Phaselock" "aligner" "LPhaselock$Aligner;", Cond.methodLink RX10 245 yX6_measureAtData, Cond.instanceMethod yX6_measureAtData, Cond.selects RX6 yX6_measureAtData yX6_measureAtData, Cond.code yX6_measureAtData cX6_measureAtData 4 (some .int), Cond.fieldLink RX6 9 "Phaselock$PhaseDetector" "kind" "I", Cond.fieldLink RX6 30 "Phaselock$PhaseDetector" "dataLevel" "I", Cond.methodLink RX6 51 yX6_measureBangBang, Cond.instanceMethod yX6_measureBangBang, Cond.selects RX6 yX6_measureBangBang yX6_measureBangBang, Cond.code yX6_measureBangBang cX6_measureBangBang 4 (some .int), Cond.fieldLink RX6 55 "Phaselock$BitLog" "count" "I", Cond.methodLink RX6 60 yX1_findBit, Cond.instanceMethod yX1_findBit, Cond.selects RX1 yX1_findBit yX1_findBit, Cond.initialized RX1, Cond.code yX1_findBit cX1_findBit 2 (some .int)]
def wsX10_passTick_r8 : List Cond := [Cond.fieldLink RX1 15 "Phaselock$BitLog" "latest32" "I", Cond.methodLink RX10 249 yX6_finishBit, Cond.instanceMethod yX6_finishBit, Cond.selects RX6 yX6_finishBit yX6_finishBit, Cond.code yX6_finishBit cX6_finishBit 2 none, Cond.methodLink RX10 252 yX1_add, Cond.instanceMethod yX1_add, Cond.selects RX1 yX1_add yX1_add, Cond.code yX1_add cX1_add 2 none, Cond.fieldLink RX1 9 "Phaselock$BitLog" "count" "I", Cond.methodLink RX10 254 yX8_compare, Cond.instanceMethod yX8_compare, Cond.selects RX8 yX8_compare yX8_compare, Cond.initialized RX8, Cond.code yX8_compare cX8_compare 3 (some .boolean), Cond.fieldLink RX8 16 "Phaselock$SlipCounter" "hasStrobed" "Z", Cond.fieldLink RX8 20 "Phaselock$SlipCounter" "numberBefore" "I", Cond.fieldLink RX8 7 "Phaselock$SlipCounter" "repeated" "I", Cond.fieldLink RX8 13 "Phaselock$SlipCounter" "skipped" "I", Cond.methodLink RX10 258 yX7_add, Cond.instanceMethod yX7_add, Cond.selects RX7 yX7_add yX7_add, Cond.initialized RX7, Cond.code yX7_add cX7_add 4 none]
def wsX10_passTick_r9 : List Cond := [Cond.fieldLink RX7 21 "Phaselock$PhaseLog" "window" "[I", Cond.fieldLink RX7 9 "Phaselock$PhaseLog" "count" "I", Cond.fieldLink RX7 15 "Phaselock$PhaseLog" "latest" "I", Cond.fieldLink RX7 18 "Phaselock$PhaseLog" "steadyCount" "I", Cond.methodLink RX10 261 yX1_endsWithSyncWord, Cond.instanceMethod yX1_endsWithSyncWord, Cond.selects RX1 yX1_endsWithSyncWord yX1_endsWithSyncWord, Cond.code yX1_endsWithSyncWord cX1_endsWithSyncWord 1 (some .boolean), Cond.methodLink RX10 264 yX0_take, Cond.instanceMethod yX0_take, Cond.selects RX0 yX0_take yX0_take, Cond.initialized RX0, Cond.code yX0_take cX0_take 2 none, Cond.fieldLink RX0 11 "Phaselock$Aligner" "state" "I", Cond.fieldLink RX0 21 "Phaselock$Aligner" "position" "I", Cond.fieldLink RX0 24 "Phaselock$Aligner" "matches" "I", Cond.methodLink RX0 30 yX0_verify, Cond.instanceMethod yX0_verify, Cond.selects RX0 yX0_verify yX0_verify, Cond.code yX0_verify cX0_verify 2 none, Cond.fieldLink RX0 27 "Phaselock$Aligner" "misses" "I", Cond.methodLink RX0 34 yX0_watchSync, Cond.instanceMethod yX0_watchSync, Cond.selects RX0 yX0_watchSync yX0_watchSync]
def wsX10_passTick_r10 : List Cond := [Cond.code yX0_watchSync cX0_watchSync 2 none, Cond.fieldLink RX0 15 "Phaselock$Aligner" "frames" "I", Cond.fieldLink RX0 18 "Phaselock$Aligner" "losses" "I"]
def wsX10_passTick : List Cond := .code yX10_passTick cX10_passTick 1 none :: ((wsX10_passTick_r1 ++ (wsX10_passTick_r2 ++ (wsX10_passTick_r3 ++ (wsX10_passTick_r4 ++ (wsX10_passTick_r5 ++ (wsX10_passTick_r6 ++ (wsX10_passTick_r7 ++ (wsX10_passTick_r8 ++ (wsX10_passTick_r9 ++ wsX10_passTick_r10))))))))) ++ wsX100 ++ wsX90 ++ wsX50 ++ wsX40 ++ wsX30 ++ wsX20 ++ wsX60 ++ wsX10 ++ wsX80 ++ wsX70 ++ wsX00)
def wsX10_run_r1 : List Cond := [Cond.classLink RX10 83 "java/lang/IllegalArgumentException", Cond.initialized "java/lang/IllegalArgumentException", Cond.fieldLink RX10 54 "Phaselock" "bits" "LPhaselock$BitLog;", Cond.fieldLink RX10 134 "Phaselock$BitLog" "count" "I", Cond.methodLink RX10 79 yX10_isWithin, Cond.static yX10_isWithin, Cond.initialized RX10, Cond.code yX10_isWithin cX10_isWithin 3 (some .boolean), Cond.methodLink RX10 137 yX10_passTick, Cond.instanceMethod yX10_passTick, Cond.selects RX10 yX10_passTick yX10_passTick, Cond.code yX10_passTick cX10_passTick 1 none, Cond.fieldLink RX10 10 "Phaselock" "transmitter" "LPhaselock$Transmitter;", Cond.fieldLink RX10 19 "Phaselock" "memory" "LPhaselock$LineMemory;", Cond.fieldLink RX10 146 "Phaselock$Transmitter" "value" "I", Cond.fieldLink RX10 26 "Phaselock" "edges" "LPhaselock$EdgeLog;", Cond.fieldLink RX10 40 "Phaselock" "detector" "LPhaselock$PhaseDetector;", Cond.fieldLink RX10 33 "Phaselock" "oscillator" "LPhaselock$Oscillator;", Cond.fieldLink RX10 123 "Phaselock$Oscillator" "phase" "I", Cond.fieldLink RX10 47 "Phaselock" "filter" "LPhaselock$LoopFilter;", Cond.fieldLink RX10 129 "Phaselock$LoopFilter" "control" "I", Cond.methodLink RX10 206 yX9_advance, Cond.instanceMethod yX9_advance, Cond.selects RX9 yX9_advance yX9_advance]
def wsX10_run_r2 : List Cond := [Cond.initialized RX9, Cond.code yX9_advance cX9_advance 1 none, Cond.fieldLink RX9 9 "Phaselock$Transmitter" "phase" "I", Cond.fieldLink RX9 15 "Phaselock$Transmitter" "step" "I", Cond.constant RX9 38 (65536), Cond.methodLink RX9 34 yX9_drawDeviation, Cond.instanceMethod yX9_drawDeviation, Cond.selects RX9 yX9_drawDeviation yX9_drawDeviation, Cond.code yX9_drawDeviation cX9_drawDeviation 2 (some .int), Cond.fieldLink RX9 18 "Phaselock$Transmitter" "jitter" "I", Cond.constantLong RX9 42 (1103515245), Cond.fieldLink RX9 21 "Phaselock$Transmitter" "randomState" "J", Cond.constantLong RX9 44 (12345), Cond.constantLong RX9 46 (2147483648), Cond.constantLong RX9 48 (65536), Cond.methodLink RX9 39 yX9_sendNextBit, Cond.instanceMethod yX9_sendNextBit, Cond.selects RX9 yX9_sendNextBit yX9_sendNextBit, Cond.code yX9_sendNextBit cX9_sendNextBit 2 none, Cond.fieldLink RX9 25 "Phaselock$Transmitter" "number" "I", Cond.fieldLink RX9 28 "Phaselock$Transmitter" "value" "I", Cond.methodLink RX9 50 yX9_shiftRegister, Cond.instanceMethod yX9_shiftRegister, Cond.selects RX9 yX9_shiftRegister yX9_shiftRegister]
def wsX10_run_r3 : List Cond := [Cond.code yX9_shiftRegister cX9_shiftRegister 3 (some .int), Cond.fieldLink RX9 31 "Phaselock$Transmitter" "register" "I", Cond.methodLink RX10 209 yX3_remember, Cond.instanceMethod yX3_remember, Cond.selects RX3 yX3_remember yX3_remember, Cond.initialized RX3, Cond.code yX3_remember cX3_remember 2 none, Cond.fieldLink RX3 8 "Phaselock$LineMemory" "values" "I", Cond.constant RX3 7 (65535), Cond.methodLink RX10 213 yX3_hasChangedSince, Cond.instanceMethod yX3_hasChangedSince, Cond.selects RX3 yX3_hasChangedSince yX3_hasChangedSince, Cond.code yX3_hasChangedSince cX3_hasChangedSince 2 (some .boolean), Cond.methodLink RX10 216 yX2_add, Cond.instanceMethod yX2_add, Cond.selects RX2 yX2_add yX2_add, Cond.initialized RX2, Cond.code yX2_add cX2_add 2 none, Cond.fieldLink RX2 7 "Phaselock$EdgeLog" "ticks" "I", Cond.fieldLink RX2 13 "Phaselock$EdgeLog" "changed" "[Z", Cond.methodLink RX10 220 yX6_watchLine, Cond.instanceMethod yX6_watchLine, Cond.selects RX6 yX6_watchLine yX6_watchLine, Cond.initialized RX6]
def wsX10_run_r4 : List Cond := [Cond.code yX6_watchLine cX6_watchLine 3 none, Cond.constant RX6 39 (32768), Cond.fieldLink RX6 15 "Phaselock$PhaseDetector" "edgeError" "I", Cond.fieldLink RX6 18 "Phaselock$PhaseDetector" "product" "I", Cond.constant RX6 40 (49151), Cond.methodLink RX6 33 yX3_hasChangedSince, Cond.methodLink RX10 224 yX5_advance, Cond.instanceMethod yX5_advance, Cond.selects RX5 yX5_advance yX5_advance, Cond.initialized RX5, Cond.code yX5_advance cX5_advance 3 (some .int), Cond.fieldLink RX5 9 "Phaselock$Oscillator" "phase" "I", Cond.constant RX5 15 (65536), Cond.constant RX5 16 (49152), Cond.constant RX5 21 (32768), Cond.methodLink RX5 17 yX5_hasPassed, Cond.instanceMethod yX5_hasPassed, Cond.selects RX5 yX5_hasPassed yX5_hasPassed, Cond.code yX5_hasPassed cX5_hasPassed 3 (some .boolean), Cond.methodLink RX10 226 yX10_actOnStrobe, Cond.instanceMethod yX10_actOnStrobe, Cond.selects RX10 yX10_actOnStrobe yX10_actOnStrobe, Cond.code yX10_actOnStrobe cX10_actOnStrobe 2 none, Cond.fieldLink RX10 107 "Phaselock$PhaseDetector" "kind" "I"]
def wsX10_run_r5 : List Cond := [Cond.methodLink RX10 149 yX3_findLevel, Cond.instanceMethod yX3_findLevel, Cond.selects RX3 yX3_findLevel yX3_findLevel, Cond.code yX3_findLevel cX3_findLevel 1 (some .int), Cond.methodLink RX3 14 yJ6_bitCount_0f7a4, Cond.static yJ6_bitCount_0f7a4, Cond.initialized RJ6, Cond.code yJ6_bitCount_0f7a4 cJ6_bitCount_0f7a4 1 (some .int), Cond.constant RJ6 265 (1431655765), Cond.constant RJ6 266 (858993459), Cond.constant RJ6 267 (252645135), Cond.methodLink RX10 229 yX6_measureLate, Cond.instanceMethod yX6_measureLate, Cond.selects RX6 yX6_measureLate yX6_measureLate, Cond.code yX6_measureLate cX6_measureLate 2 (some .int), Cond.fieldLink RX6 21 "Phaselock$PhaseDetector" "earlyValue" "I", Cond.methodLink RX6 45 Lib.Math.abs.name, Cond.static Lib.Math.abs.name, Cond.initialized "java/lang/Math", Cond.code Lib.Math.abs.name Lib.Math.abs.code 1 (some .int), Cond.methodLink RX10 232 yX4_takeError, Cond.instanceMethod yX4_takeError, Cond.selects RX4 yX4_takeError yX4_takeError, Cond.initialized RX4]
def wsX10_run_r6 : List Cond := [Cond.code yX4_takeError cX4_takeError 2 none, Cond.fieldLink RX4 16 "Phaselock$LoopFilter" "error" "I", Cond.fieldLink RX4 19 "Phaselock$LoopFilter" "integral" "I", Cond.fieldLink RX4 13 "Phaselock$LoopFilter" "integralGain" "I", Cond.constant RX4 25 (262144), Cond.fieldLink RX4 7 "Phaselock$LoopFilter" "proportionalGain" "I", Cond.fieldLink RX4 22 "Phaselock$LoopFilter" "control" "I", Cond.methodLink RX4 26 yX4_keepWithin, Cond.static yX4_keepWithin, Cond.code yX4_keepWithin cX4_keepWithin 2 (some .int), Cond.methodLink RX4 35 Lib.Math.min.name, Cond.static Lib.Math.min.name, Cond.code Lib.Math.min.name Lib.Math.min.code 2 (some .int), Cond.methodLink RX4 38 Lib.Math.max.name, Cond.static Lib.Math.max.name, Cond.code Lib.Math.max.name Lib.Math.max.code 2 (some .int), Cond.methodLink RX4 30 yJ9_floorDiv_7cf53, Cond.static yJ9_floorDiv_7cf53, Cond.initialized RJ9, Cond.code yJ9_floorDiv_7cf53 cJ9_floorDiv_7cf53 3 (some .int), Cond.methodLink RX10 235 yX6_keepMiddle, Cond.instanceMethod yX6_keepMiddle, Cond.selects RX6 yX6_keepMiddle yX6_keepMiddle, Cond.code yX6_keepMiddle cX6_keepMiddle 3 none]
def wsX10_run_r7 : List Cond := [Cond.fieldLink RX6 24 "Phaselock$PhaseDetector" "middleValue" "I", Cond.fieldLink RX6 27 "Phaselock$PhaseDetector" "middleLevel" "I", Cond.methodLink RX10 239 yX6_keepEarly, Cond.instanceMethod yX6_keepEarly, Cond.selects RX6 yX6_keepEarly yX6_keepEarly, Cond.code yX6_keepEarly cX6_keepEarly 2 none, Cond.methodLink RX10 242 yX10_actOnDataStrobe, Cond.instanceMethod yX10_actOnDataStrobe, Cond.selects RX10 yX10_actOnDataStrobe yX10_actOnDataStrobe, Cond.code yX10_actOnDataStrobe cX10_actOnDataStrobe 4 none, Cond.fieldLink RX10 61 "Phaselock" "slips" "LPhaselock$SlipCounter;", Cond.fieldLink RX10 143 "Phaselock$Transmitter" "number" "I", Cond.fieldLink RX10 68 "Phaselock" "phases" "LPhaselock$PhaseLog;", Cond.fieldLink RX10 153 "Phaselock$Transmitter" "phase" "I", Cond.constant RX10 257 (32768), Cond.fieldLink RX10 75 "Phaselock" "aligner" "LPhaselock$Aligner;", Cond.methodLink RX10 245 yX6_measureAtData, Cond.instanceMethod yX6_measureAtData, Cond.selects RX6 yX6_measureAtData yX6_measureAtData, Cond.code yX6_measureAtData cX6_measureAtData 4 (some .int), Cond.fieldLink RX6 9 "Phaselock$PhaseDetector" "kind" "I", Cond.fieldLink RX6 30 "Phaselock$PhaseDetector" "dataLevel" "I", Cond.methodLink RX6 51 yX6_measureBangBang, Cond.instanceMethod yX6_measureBangBang]
def wsX10_run_r8 : List Cond := [Cond.selects RX6 yX6_measureBangBang yX6_measureBangBang, Cond.code yX6_measureBangBang cX6_measureBangBang 4 (some .int), Cond.fieldLink RX6 55 "Phaselock$BitLog" "count" "I", Cond.methodLink RX6 60 yX1_findBit, Cond.instanceMethod yX1_findBit, Cond.selects RX1 yX1_findBit yX1_findBit, Cond.initialized RX1, Cond.code yX1_findBit cX1_findBit 2 (some .int), Cond.fieldLink RX1 15 "Phaselock$BitLog" "latest32" "I", Cond.methodLink RX10 249 yX6_finishBit, Cond.instanceMethod yX6_finishBit, Cond.selects RX6 yX6_finishBit yX6_finishBit, Cond.code yX6_finishBit cX6_finishBit 2 none, Cond.methodLink RX10 252 yX1_add, Cond.instanceMethod yX1_add, Cond.selects RX1 yX1_add yX1_add, Cond.code yX1_add cX1_add 2 none, Cond.fieldLink RX1 9 "Phaselock$BitLog" "count" "I", Cond.methodLink RX10 254 yX8_compare, Cond.instanceMethod yX8_compare, Cond.selects RX8 yX8_compare yX8_compare, Cond.initialized RX8, Cond.code yX8_compare cX8_compare 3 (some .boolean), Cond.fieldLink RX8 16 "Phaselock$SlipCounter" "hasStrobed" "Z"]
def wsX10_run_r9 : List Cond := [Cond.fieldLink RX8 20 "Phaselock$SlipCounter" "numberBefore" "I", Cond.fieldLink RX8 7 "Phaselock$SlipCounter" "repeated" "I", Cond.fieldLink RX8 13 "Phaselock$SlipCounter" "skipped" "I", Cond.methodLink RX10 258 yX7_add, Cond.instanceMethod yX7_add, Cond.selects RX7 yX7_add yX7_add, Cond.initialized RX7, Cond.code yX7_add cX7_add 4 none, Cond.fieldLink RX7 21 "Phaselock$PhaseLog" "window" "[I", Cond.fieldLink RX7 9 "Phaselock$PhaseLog" "count" "I", Cond.fieldLink RX7 15 "Phaselock$PhaseLog" "latest" "I", Cond.fieldLink RX7 18 "Phaselock$PhaseLog" "steadyCount" "I", Cond.methodLink RX10 261 yX1_endsWithSyncWord, Cond.instanceMethod yX1_endsWithSyncWord, Cond.selects RX1 yX1_endsWithSyncWord yX1_endsWithSyncWord, Cond.code yX1_endsWithSyncWord cX1_endsWithSyncWord 1 (some .boolean), Cond.methodLink RX10 264 yX0_take, Cond.instanceMethod yX0_take, Cond.selects RX0 yX0_take yX0_take, Cond.initialized RX0, Cond.code yX0_take cX0_take 2 none, Cond.fieldLink RX0 11 "Phaselock$Aligner" "state" "I", Cond.fieldLink RX0 21 "Phaselock$Aligner" "position" "I", Cond.fieldLink RX0 24 "Phaselock$Aligner" "matches" "I"]
def wsX10_run_r10 : List Cond := [Cond.methodLink RX0 30 yX0_verify, Cond.instanceMethod yX0_verify, Cond.selects RX0 yX0_verify yX0_verify, Cond.code yX0_verify cX0_verify 2 none, Cond.fieldLink RX0 27 "Phaselock$Aligner" "misses" "I", Cond.methodLink RX0 34 yX0_watchSync, Cond.instanceMethod yX0_watchSync, Cond.selects RX0 yX0_watchSync yX0_watchSync, Cond.code yX0_watchSync cX0_watchSync 2 none, Cond.fieldLink RX0 15 "Phaselock$Aligner" "frames" "I", Cond.fieldLink RX0 18 "Phaselock$Aligner" "losses" "I"]
def wsX10_run : List Cond := .code yX10_run cX10_run 4 (some .int) :: ((wsX10_run_r1 ++ (wsX10_run_r2 ++ (wsX10_run_r3 ++ (wsX10_run_r4 ++ (wsX10_run_r5 ++ (wsX10_run_r6 ++ (wsX10_run_r7 ++ (wsX10_run_r8 ++ (wsX10_run_r9 ++ wsX10_run_r10))))))))) ++ wsX100 ++ wsX10 ++ wsX90 ++ wsX50 ++ wsX40 ++ wsX30 ++ wsX20 ++ wsX60 ++ wsX80 ++ wsX70 ++ wsX00 ++ (vx_atS RX10 87 "java/lang/IllegalArgumentException" ["java/lang/RuntimeException", "java/lang/Exception"]).filter goodWord)
def wsX10_ticks : List Cond := .code yX10_ticks cX10_ticks 1 (some .int) :: ([.fieldLink RX10 26 "Phaselock" "edges" "LPhaselock$EdgeLog;", .fieldLink RX10 140 "Phaselock$EdgeLog" "ticks" "I"] ++ wsX100 ++ wsX20)
def wsX10_sent : List Cond := .code yX10_sent cX10_sent 1 (some .int) :: ([.fieldLink RX10 10 "Phaselock" "transmitter" "LPhaselock$Transmitter;", .fieldLink RX10 143 "Phaselock$Transmitter" "number" "I"] ++ wsX100 ++ wsX90)
def wsX10_line : List Cond := .code yX10_line cX10_line 1 (some .int) :: ([.fieldLink RX10 10 "Phaselock" "transmitter" "LPhaselock$Transmitter;", .fieldLink RX10 146 "Phaselock$Transmitter" "value" "I"] ++ wsX100 ++ wsX90)
def wsX10_level : List Cond := .code yX10_level cX10_level 1 (some .int) :: ([.fieldLink RX10 19 "Phaselock" "memory" "LPhaselock$LineMemory;", .methodLink RX10 149 yX3_findLevel, .instanceMethod yX3_findLevel, .selects RX3 yX3_findLevel yX3_findLevel, .initialized RX3, .code yX3_findLevel cX3_findLevel 1 (some .int), .fieldLink RX3 8 "Phaselock$LineMemory" "values" "I", .methodLink RX3 14 yJ6_bitCount_0f7a4, .static yJ6_bitCount_0f7a4, .initialized RJ6, .code yJ6_bitCount_0f7a4 cJ6_bitCount_0f7a4 1 (some .int), .constant RJ6 265 (1431655765), .constant RJ6 266 (858993459), .constant RJ6 267 (252645135)] ++ wsX100 ++ wsX30)
def wsX10_sender : List Cond := .code yX10_sender cX10_sender 1 (some .int) :: ([.fieldLink RX10 10 "Phaselock" "transmitter" "LPhaselock$Transmitter;", .fieldLink RX10 153 "Phaselock$Transmitter" "phase" "I"] ++ wsX100 ++ wsX90)
def wsX10_receiver : List Cond := .code yX10_receiver cX10_receiver 1 (some .int) :: ([.fieldLink RX10 33 "Phaselock" "oscillator" "LPhaselock$Oscillator;", .fieldLink RX10 123 "Phaselock$Oscillator" "phase" "I"] ++ wsX100 ++ wsX50)
def wsX10_error : List Cond := .code yX10_error cX10_error 1 (some .int) :: ([.fieldLink RX10 47 "Phaselock" "filter" "LPhaselock$LoopFilter;", .fieldLink RX10 154 "Phaselock$LoopFilter" "error" "I"] ++ wsX100 ++ wsX40)
def wsX10_integral : List Cond := .code yX10_integral cX10_integral 1 (some .int) :: ([.fieldLink RX10 47 "Phaselock" "filter" "LPhaselock$LoopFilter;", .fieldLink RX10 126 "Phaselock$LoopFilter" "integral" "I"] ++ wsX100 ++ wsX40)
def wsX10_control : List Cond := .code yX10_control cX10_control 1 (some .int) :: ([.fieldLink RX10 47 "Phaselock" "filter" "LPhaselock$LoopFilter;", .fieldLink RX10 129 "Phaselock$LoopFilter" "control" "I"] ++ wsX100 ++ wsX40)
def wsX10_received : List Cond := .code yX10_received cX10_received 1 (some .int) :: ([.fieldLink RX10 54 "Phaselock" "bits" "LPhaselock$BitLog;", .fieldLink RX10 134 "Phaselock$BitLog" "count" "I"] ++ wsX100 ++ wsX10)
def wsX10_bit : List Cond := .code yX10_bit cX10_bit 2 (some .int) :: ([.classLink RX10 161 "java/lang/IndexOutOfBoundsException", .initialized "java/lang/IndexOutOfBoundsException", .fieldLink RX10 54 "Phaselock" "bits" "LPhaselock$BitLog;", .methodLink RX10 157 yX1_remembers, .instanceMethod yX1_remembers, .selects RX1 yX1_remembers yX1_remembers, .initialized RX1, .code yX1_remembers cX1_remembers 2 (some .boolean), .fieldLink RX1 9 "Phaselock$BitLog" "count" "I", .methodLink RX1 18 Lib.Math.min.name, .static Lib.Math.min.name, .initialized "java/lang/Math", .code Lib.Math.min.name Lib.Math.min.code 2 (some .int), .static yX10_isWithin, .initialized RX10, .code yX10_isWithin cX10_isWithin 3 (some .boolean), .methodLink RX10 166 yX1_findBit, .instanceMethod yX1_findBit, .selects RX1 yX1_findBit yX1_findBit, .code yX1_findBit cX1_findBit 2 (some .int), .fieldLink RX1 15 "Phaselock$BitLog" "latest32" "I"] ++ wsX100 ++ wsX10 ++ (vx_atS RX10 165 "java/lang/IndexOutOfBoundsException" ["java/lang/RuntimeException", "java/lang/Exception"]).filter goodWord)
def wsX10_phase : List Cond := .code yX10_phase cX10_phase 1 (some .int) :: ([.classLink RX10 171 "java/lang/IllegalStateException", .initialized "java/lang/IllegalStateException", .fieldLink RX10 68 "Phaselock" "phases" "LPhaselock$PhaseLog;", .fieldLink RX10 170 "Phaselock$PhaseLog" "count" "I", .fieldLink RX10 176 "Phaselock$PhaseLog" "latest" "I"] ++ wsX100 ++ wsX70 ++ (vx_atS RX10 175 "java/lang/IllegalStateException" ["java/lang/RuntimeException", "java/lang/Exception"]).filter goodWord)
def wsX10_repeated : List Cond := .code yX10_repeated cX10_repeated 1 (some .int) :: ([.fieldLink RX10 61 "Phaselock" "slips" "LPhaselock$SlipCounter;", .fieldLink RX10 179 "Phaselock$SlipCounter" "repeated" "I"] ++ wsX100 ++ wsX80)
def wsX10_skipped : List Cond := .code yX10_skipped cX10_skipped 1 (some .int) :: ([.fieldLink RX10 61 "Phaselock" "slips" "LPhaselock$SlipCounter;", .fieldLink RX10 182 "Phaselock$SlipCounter" "skipped" "I"] ++ wsX100 ++ wsX80)
def wsX10_isLocked : List Cond := .code yX10_isLocked cX10_isLocked 1 (some .boolean) :: ([.fieldLink RX10 68 "Phaselock" "phases" "LPhaselock$PhaseLog;", .methodLink RX10 185 yX7_isSteady, .instanceMethod yX7_isSteady, .selects RX7 yX7_isSteady yX7_isSteady, .initialized RX7, .code yX7_isSteady cX7_isSteady 1 (some .boolean), .fieldLink RX7 18 "Phaselock$PhaseLog" "steadyCount" "I"] ++ wsX100 ++ wsX70)
def wsX10_wander : List Cond := .code yX10_wander cX10_wander 1 (some .int) :: ([.fieldLink RX10 68 "Phaselock" "phases" "LPhaselock$PhaseLog;", .methodLink RX10 189 yX7_sumAbsolutes, .instanceMethod yX7_sumAbsolutes, .selects RX7 yX7_sumAbsolutes yX7_sumAbsolutes, .initialized RX7, .code yX7_sumAbsolutes cX7_sumAbsolutes 3 (some .int), .fieldLink RX7 21 "Phaselock$PhaseLog" "window" "[I", .methodLink RX7 29 Lib.Math.abs.name, .static Lib.Math.abs.name, .initialized "java/lang/Math", .code Lib.Math.abs.name Lib.Math.abs.code 1 (some .int)] ++ wsX100 ++ wsX70)
def wsX10_alignment : List Cond := .code yX10_alignment cX10_alignment 1 (some .int) :: ([.fieldLink RX10 75 "Phaselock" "aligner" "LPhaselock$Aligner;", .fieldLink RX10 192 "Phaselock$Aligner" "state" "I"] ++ wsX100 ++ wsX00)
def wsX10_frames : List Cond := .code yX10_frames cX10_frames 1 (some .int) :: ([.fieldLink RX10 75 "Phaselock" "aligner" "LPhaselock$Aligner;", .fieldLink RX10 195 "Phaselock$Aligner" "frames" "I"] ++ wsX100 ++ wsX00)
def wsX10_losses : List Cond := .code yX10_losses cX10_losses 1 (some .int) :: ([.fieldLink RX10 75 "Phaselock" "aligner" "LPhaselock$Aligner;", .fieldLink RX10 198 "Phaselock$Aligner" "losses" "I"] ++ wsX100 ++ wsX00)
def wsX10_bestPhase : List Cond := .code yX10_bestPhase cX10_bestPhase 5 (some .int) :: ([.fieldLink RX10 26 "Phaselock" "edges" "LPhaselock$EdgeLog;", .methodLink RX10 201 yX2_sumCosts, .instanceMethod yX2_sumCosts, .selects RX2 yX2_sumCosts yX2_sumCosts, .initialized RX2, .code yX2_sumCosts cX2_sumCosts 4 (some .int), .fieldLink RX2 13 "Phaselock$EdgeLog" "changed" "[Z", .methodLink RX2 17 yX2_findDistance, .static yX2_findDistance, .code yX2_findDistance cX2_findDistance 4 (some .int), .methodLink RX2 21 Lib.Math.min.name, .static Lib.Math.min.name, .initialized "java/lang/Math", .code Lib.Math.min.name Lib.Math.min.code 2 (some .int)] ++ wsX100 ++ wsX20)
def wsX10_cost : List Cond := .code yX10_cost cX10_cost 2 (some .int) :: ([.classLink RX10 83 "java/lang/IllegalArgumentException", .initialized "java/lang/IllegalArgumentException", .fieldLink RX10 26 "Phaselock" "edges" "LPhaselock$EdgeLog;", .methodLink RX10 79 yX10_isWithin, .static yX10_isWithin, .initialized RX10, .code yX10_isWithin cX10_isWithin 3 (some .boolean), .methodLink RX10 201 yX2_sumCosts, .instanceMethod yX2_sumCosts, .selects RX2 yX2_sumCosts yX2_sumCosts, .initialized RX2, .code yX2_sumCosts cX2_sumCosts 4 (some .int), .fieldLink RX2 13 "Phaselock$EdgeLog" "changed" "[Z", .methodLink RX2 17 yX2_findDistance, .static yX2_findDistance, .code yX2_findDistance cX2_findDistance 4 (some .int), .methodLink RX2 21 Lib.Math.min.name, .static Lib.Math.min.name, .initialized "java/lang/Math", .code Lib.Math.min.name Lib.Math.min.code 2 (some .int)] ++ wsX100 ++ wsX20 ++ (vx_atS RX10 87 "java/lang/IllegalArgumentException" ["java/lang/RuntimeException", "java/lang/Exception"]).filter goodWord)
def wsJ9_abs_0f7a4 : List Cond := .code yJ9_abs_0f7a4 cJ9_abs_0f7a4 1 (some .int) :: ([])
def wsJ9_max_7cf53 : List Cond := .code yJ9_max_7cf53 cJ9_max_7cf53 2 (some .int) :: ([])
def wsJ9_min_7cf53 : List Cond := .code yJ9_min_7cf53 cJ9_min_7cf53 2 (some .int) :: ([])
def wsL_cell : List Cond := .code yL_cell cL_cell 2 (some .int) :: ([])
def wsL_low : List Cond := .code yL_low cL_low 2 (some .int) :: ([.constant RL 7 (2147483647)])
def wsL_does_r1 : List Cond := [Cond.classLink RL 23 "java/lang/IllegalArgumentException", Cond.constant RL 25 (-99999), Cond.methodLink RL 8 yX10_setOffset, Cond.instanceMethod yX10_setOffset, Cond.selects RX10 yX10_setOffset yX10_setOffset, Cond.initialized RX10, Cond.code yX10_setOffset cX10_setOffset 2 (some .int), Cond.classLink RX10 83 "java/lang/IllegalArgumentException", Cond.initialized "java/lang/IllegalArgumentException", Cond.fieldLink RX10 10 "Phaselock" "transmitter" "LPhaselock$Transmitter;", Cond.fieldLink RX10 90 "Phaselock$Transmitter" "step" "I", Cond.methodLink RX10 79 yX10_isWithin, Cond.static yX10_isWithin, Cond.code yX10_isWithin cX10_isWithin 3 (some .boolean), Cond.methodLink RL 14 yX10_setDetector, Cond.instanceMethod yX10_setDetector, Cond.selects RX10 yX10_setDetector yX10_setDetector, Cond.code yX10_setDetector cX10_setDetector 3 (some .int), Cond.fieldLink RX10 40 "Phaselock" "detector" "LPhaselock$PhaseDetector;", Cond.fieldLink RX10 107 "Phaselock$PhaseDetector" "kind" "I", Cond.methodLink RL 17 yX10_setPhase, Cond.instanceMethod yX10_setPhase, Cond.selects RX10 yX10_setPhase yX10_setPhase, Cond.code yX10_setPhase cX10_setPhase 3 (some .int)]
def wsL_does_r2 : List Cond := [Cond.constant RX10 120 (65535), Cond.fieldLink RX10 33 "Phaselock" "oscillator" "LPhaselock$Oscillator;", Cond.fieldLink RX10 123 "Phaselock$Oscillator" "phase" "I", Cond.methodLink RL 20 yX10_run, Cond.instanceMethod yX10_run, Cond.selects RX10 yX10_run yX10_run, Cond.code yX10_run cX10_run 4 (some .int), Cond.fieldLink RX10 54 "Phaselock" "bits" "LPhaselock$BitLog;", Cond.fieldLink RX10 134 "Phaselock$BitLog" "count" "I", Cond.methodLink RX10 137 yX10_passTick, Cond.instanceMethod yX10_passTick, Cond.selects RX10 yX10_passTick yX10_passTick, Cond.code yX10_passTick cX10_passTick 1 none, Cond.fieldLink RX10 19 "Phaselock" "memory" "LPhaselock$LineMemory;", Cond.fieldLink RX10 146 "Phaselock$Transmitter" "value" "I", Cond.fieldLink RX10 26 "Phaselock" "edges" "LPhaselock$EdgeLog;", Cond.fieldLink RX10 47 "Phaselock" "filter" "LPhaselock$LoopFilter;", Cond.fieldLink RX10 129 "Phaselock$LoopFilter" "control" "I", Cond.methodLink RX10 206 yX9_advance, Cond.instanceMethod yX9_advance, Cond.selects RX9 yX9_advance yX9_advance, Cond.initialized RX9, Cond.code yX9_advance cX9_advance 1 none, Cond.fieldLink RX9 9 "Phaselock$Transmitter" "phase" "I"]
def wsL_does_r3 : List Cond := [Cond.fieldLink RX9 15 "Phaselock$Transmitter" "step" "I", Cond.constant RX9 38 (65536), Cond.methodLink RX9 34 yX9_drawDeviation, Cond.instanceMethod yX9_drawDeviation, Cond.selects RX9 yX9_drawDeviation yX9_drawDeviation, Cond.code yX9_drawDeviation cX9_drawDeviation 2 (some .int), Cond.fieldLink RX9 18 "Phaselock$Transmitter" "jitter" "I", Cond.constantLong RX9 42 (1103515245), Cond.fieldLink RX9 21 "Phaselock$Transmitter" "randomState" "J", Cond.constantLong RX9 44 (12345), Cond.constantLong RX9 46 (2147483648), Cond.constantLong RX9 48 (65536), Cond.methodLink RX9 39 yX9_sendNextBit, Cond.instanceMethod yX9_sendNextBit, Cond.selects RX9 yX9_sendNextBit yX9_sendNextBit, Cond.code yX9_sendNextBit cX9_sendNextBit 2 none, Cond.fieldLink RX9 25 "Phaselock$Transmitter" "number" "I", Cond.fieldLink RX9 28 "Phaselock$Transmitter" "value" "I", Cond.methodLink RX9 50 yX9_shiftRegister, Cond.instanceMethod yX9_shiftRegister, Cond.selects RX9 yX9_shiftRegister yX9_shiftRegister, Cond.code yX9_shiftRegister cX9_shiftRegister 3 (some .int), Cond.fieldLink RX9 31 "Phaselock$Transmitter" "register" "I", Cond.methodLink RX10 209 yX3_remember]
def wsL_does_r4 : List Cond := [Cond.instanceMethod yX3_remember, Cond.selects RX3 yX3_remember yX3_remember, Cond.initialized RX3, Cond.code yX3_remember cX3_remember 2 none, Cond.fieldLink RX3 8 "Phaselock$LineMemory" "values" "I", Cond.constant RX3 7 (65535), Cond.methodLink RX10 213 yX3_hasChangedSince, Cond.instanceMethod yX3_hasChangedSince, Cond.selects RX3 yX3_hasChangedSince yX3_hasChangedSince, Cond.code yX3_hasChangedSince cX3_hasChangedSince 2 (some .boolean), Cond.methodLink RX10 216 yX2_add, Cond.instanceMethod yX2_add, Cond.selects RX2 yX2_add yX2_add, Cond.initialized RX2, Cond.code yX2_add cX2_add 2 none, Cond.fieldLink RX2 7 "Phaselock$EdgeLog" "ticks" "I", Cond.fieldLink RX2 13 "Phaselock$EdgeLog" "changed" "[Z", Cond.methodLink RX10 220 yX6_watchLine, Cond.instanceMethod yX6_watchLine, Cond.selects RX6 yX6_watchLine yX6_watchLine, Cond.initialized RX6, Cond.code yX6_watchLine cX6_watchLine 3 none, Cond.constant RX6 39 (32768), Cond.fieldLink RX6 15 "Phaselock$PhaseDetector" "edgeError" "I"]
def wsL_does_r5 : List Cond := [Cond.fieldLink RX6 18 "Phaselock$PhaseDetector" "product" "I", Cond.constant RX6 40 (49151), Cond.methodLink RX6 33 yX3_hasChangedSince, Cond.methodLink RX10 224 yX5_advance, Cond.instanceMethod yX5_advance, Cond.selects RX5 yX5_advance yX5_advance, Cond.initialized RX5, Cond.code yX5_advance cX5_advance 3 (some .int), Cond.fieldLink RX5 9 "Phaselock$Oscillator" "phase" "I", Cond.constant RX5 15 (65536), Cond.constant RX5 16 (49152), Cond.constant RX5 21 (32768), Cond.methodLink RX5 17 yX5_hasPassed, Cond.instanceMethod yX5_hasPassed, Cond.selects RX5 yX5_hasPassed yX5_hasPassed, Cond.code yX5_hasPassed cX5_hasPassed 3 (some .boolean), Cond.methodLink RX10 226 yX10_actOnStrobe, Cond.instanceMethod yX10_actOnStrobe, Cond.selects RX10 yX10_actOnStrobe yX10_actOnStrobe, Cond.code yX10_actOnStrobe cX10_actOnStrobe 2 none, Cond.methodLink RX10 149 yX3_findLevel, Cond.instanceMethod yX3_findLevel, Cond.selects RX3 yX3_findLevel yX3_findLevel, Cond.code yX3_findLevel cX3_findLevel 1 (some .int)]
def wsL_does_r6 : List Cond := [Cond.methodLink RX3 14 yJ6_bitCount_0f7a4, Cond.static yJ6_bitCount_0f7a4, Cond.initialized RJ6, Cond.code yJ6_bitCount_0f7a4 cJ6_bitCount_0f7a4 1 (some .int), Cond.constant RJ6 265 (1431655765), Cond.constant RJ6 266 (858993459), Cond.constant RJ6 267 (252645135), Cond.methodLink RX10 229 yX6_measureLate, Cond.instanceMethod yX6_measureLate, Cond.selects RX6 yX6_measureLate yX6_measureLate, Cond.code yX6_measureLate cX6_measureLate 2 (some .int), Cond.fieldLink RX6 21 "Phaselock$PhaseDetector" "earlyValue" "I", Cond.methodLink RX6 45 Lib.Math.abs.name, Cond.static Lib.Math.abs.name, Cond.initialized "java/lang/Math", Cond.code Lib.Math.abs.name Lib.Math.abs.code 1 (some .int), Cond.methodLink RX10 232 yX4_takeError, Cond.instanceMethod yX4_takeError, Cond.selects RX4 yX4_takeError yX4_takeError, Cond.initialized RX4, Cond.code yX4_takeError cX4_takeError 2 none, Cond.fieldLink RX4 16 "Phaselock$LoopFilter" "error" "I", Cond.fieldLink RX4 19 "Phaselock$LoopFilter" "integral" "I", Cond.fieldLink RX4 13 "Phaselock$LoopFilter" "integralGain" "I"]
def wsL_does_r7 : List Cond := [Cond.constant RX4 25 (262144), Cond.fieldLink RX4 7 "Phaselock$LoopFilter" "proportionalGain" "I", Cond.fieldLink RX4 22 "Phaselock$LoopFilter" "control" "I", Cond.methodLink RX4 26 yX4_keepWithin, Cond.static yX4_keepWithin, Cond.code yX4_keepWithin cX4_keepWithin 2 (some .int), Cond.methodLink RX4 35 Lib.Math.min.name, Cond.static Lib.Math.min.name, Cond.code Lib.Math.min.name Lib.Math.min.code 2 (some .int), Cond.methodLink RX4 38 Lib.Math.max.name, Cond.static Lib.Math.max.name, Cond.code Lib.Math.max.name Lib.Math.max.code 2 (some .int), Cond.methodLink RX4 30 yJ9_floorDiv_7cf53, Cond.static yJ9_floorDiv_7cf53, Cond.initialized RJ9, Cond.code yJ9_floorDiv_7cf53 cJ9_floorDiv_7cf53 3 (some .int), Cond.methodLink RX10 235 yX6_keepMiddle, Cond.instanceMethod yX6_keepMiddle, Cond.selects RX6 yX6_keepMiddle yX6_keepMiddle, Cond.code yX6_keepMiddle cX6_keepMiddle 3 none, Cond.fieldLink RX6 24 "Phaselock$PhaseDetector" "middleValue" "I", Cond.fieldLink RX6 27 "Phaselock$PhaseDetector" "middleLevel" "I", Cond.methodLink RX10 239 yX6_keepEarly, Cond.instanceMethod yX6_keepEarly]
def wsL_does_r8 : List Cond := [Cond.selects RX6 yX6_keepEarly yX6_keepEarly, Cond.code yX6_keepEarly cX6_keepEarly 2 none, Cond.methodLink RX10 242 yX10_actOnDataStrobe, Cond.instanceMethod yX10_actOnDataStrobe, Cond.selects RX10 yX10_actOnDataStrobe yX10_actOnDataStrobe, Cond.code yX10_actOnDataStrobe cX10_actOnDataStrobe 4 none, Cond.fieldLink RX10 61 "Phaselock" "slips" "LPhaselock$SlipCounter;", Cond.fieldLink RX10 143 "Phaselock$Transmitter" "number" "I", Cond.fieldLink RX10 68 "Phaselock" "phases" "LPhaselock$PhaseLog;", Cond.fieldLink RX10 153 "Phaselock$Transmitter" "phase" "I", Cond.constant RX10 257 (32768), Cond.fieldLink RX10 75 "Phaselock" "aligner" "LPhaselock$Aligner;", Cond.methodLink RX10 245 yX6_measureAtData, Cond.instanceMethod yX6_measureAtData, Cond.selects RX6 yX6_measureAtData yX6_measureAtData, Cond.code yX6_measureAtData cX6_measureAtData 4 (some .int), Cond.fieldLink RX6 9 "Phaselock$PhaseDetector" "kind" "I", Cond.fieldLink RX6 30 "Phaselock$PhaseDetector" "dataLevel" "I", Cond.methodLink RX6 51 yX6_measureBangBang, Cond.instanceMethod yX6_measureBangBang, Cond.selects RX6 yX6_measureBangBang yX6_measureBangBang, Cond.code yX6_measureBangBang cX6_measureBangBang 4 (some .int), Cond.fieldLink RX6 55 "Phaselock$BitLog" "count" "I", Cond.methodLink RX6 60 yX1_findBit]
def wsL_does_r9 : List Cond := [Cond.instanceMethod yX1_findBit, Cond.selects RX1 yX1_findBit yX1_findBit, Cond.initialized RX1, Cond.code yX1_findBit cX1_findBit 2 (some .int), Cond.fieldLink RX1 15 "Phaselock$BitLog" "latest32" "I", Cond.methodLink RX10 249 yX6_finishBit, Cond.instanceMethod yX6_finishBit, Cond.selects RX6 yX6_finishBit yX6_finishBit, Cond.code yX6_finishBit cX6_finishBit 2 none, Cond.methodLink RX10 252 yX1_add, Cond.instanceMethod yX1_add, Cond.selects RX1 yX1_add yX1_add, Cond.code yX1_add cX1_add 2 none, Cond.fieldLink RX1 9 "Phaselock$BitLog" "count" "I", Cond.methodLink RX10 254 yX8_compare, Cond.instanceMethod yX8_compare, Cond.selects RX8 yX8_compare yX8_compare, Cond.initialized RX8, Cond.code yX8_compare cX8_compare 3 (some .boolean), Cond.fieldLink RX8 16 "Phaselock$SlipCounter" "hasStrobed" "Z", Cond.fieldLink RX8 20 "Phaselock$SlipCounter" "numberBefore" "I", Cond.fieldLink RX8 7 "Phaselock$SlipCounter" "repeated" "I", Cond.fieldLink RX8 13 "Phaselock$SlipCounter" "skipped" "I", Cond.methodLink RX10 258 yX7_add]
def wsL_does_r10 : List Cond := [Cond.instanceMethod yX7_add, Cond.selects RX7 yX7_add yX7_add, Cond.initialized RX7, Cond.code yX7_add cX7_add 4 none, Cond.fieldLink RX7 21 "Phaselock$PhaseLog" "window" "[I", Cond.fieldLink RX7 9 "Phaselock$PhaseLog" "count" "I", Cond.fieldLink RX7 15 "Phaselock$PhaseLog" "latest" "I", Cond.fieldLink RX7 18 "Phaselock$PhaseLog" "steadyCount" "I", Cond.methodLink RX10 261 yX1_endsWithSyncWord, Cond.instanceMethod yX1_endsWithSyncWord, Cond.selects RX1 yX1_endsWithSyncWord yX1_endsWithSyncWord, Cond.code yX1_endsWithSyncWord cX1_endsWithSyncWord 1 (some .boolean), Cond.methodLink RX10 264 yX0_take, Cond.instanceMethod yX0_take, Cond.selects RX0 yX0_take yX0_take, Cond.initialized RX0, Cond.code yX0_take cX0_take 2 none, Cond.fieldLink RX0 11 "Phaselock$Aligner" "state" "I", Cond.fieldLink RX0 21 "Phaselock$Aligner" "position" "I", Cond.fieldLink RX0 24 "Phaselock$Aligner" "matches" "I", Cond.methodLink RX0 30 yX0_verify, Cond.instanceMethod yX0_verify, Cond.selects RX0 yX0_verify yX0_verify, Cond.code yX0_verify cX0_verify 2 none]
def wsL_does_r11 : List Cond := [Cond.fieldLink RX0 27 "Phaselock$Aligner" "misses" "I", Cond.methodLink RX0 34 yX0_watchSync, Cond.instanceMethod yX0_watchSync, Cond.selects RX0 yX0_watchSync yX0_watchSync, Cond.code yX0_watchSync cX0_watchSync 2 none, Cond.fieldLink RX0 15 "Phaselock$Aligner" "frames" "I", Cond.fieldLink RX0 18 "Phaselock$Aligner" "losses" "I"]
def wsL_does : List Cond := .codeWith yL_does cL_does 4 (some .int) [(0, 43, 44, 23)] :: ((wsL_does_r1 ++ (wsL_does_r2 ++ (wsL_does_r3 ++ (wsL_does_r4 ++ (wsL_does_r5 ++ (wsL_does_r6 ++ (wsL_does_r7 ++ (wsL_does_r8 ++ (wsL_does_r9 ++ (wsL_does_r10 ++ wsL_does_r11)))))))))) ++ wsX100 ++ wsX90 ++ wsX60 ++ wsX50 ++ wsX10 ++ wsX40 ++ wsX30 ++ wsX20 ++ wsX80 ++ wsX70 ++ wsX00 ++ (vx_atS RX10 87 "java/lang/IllegalArgumentException" ["java/lang/RuntimeException", "java/lang/Exception"]).filter goodWord)
def wsL_jitter : List Cond := .codeWith yL_jitter cL_jitter 4 (some .int) [(0, 6, 9, 23)] :: ([.classLink RL 23 "java/lang/IllegalArgumentException", .constant RL 25 (-99999), .methodLink RL 26 yX10_setJitter, .instanceMethod yX10_setJitter, .selects RX10 yX10_setJitter yX10_setJitter, .initialized RX10, .code yX10_setJitter cX10_setJitter 3 none, .classLink RX10 83 "java/lang/IllegalArgumentException", .initialized "java/lang/IllegalArgumentException", .fieldLink RX10 10 "Phaselock" "transmitter" "LPhaselock$Transmitter;", .fieldLink RX10 98 "Phaselock$Transmitter" "jitter" "I", .fieldLink RX10 101 "Phaselock$Transmitter" "randomState" "J", .methodLink RX10 79 yX10_isWithin, .static yX10_isWithin, .code yX10_isWithin cX10_isWithin 3 (some .boolean)] ++ wsX100 ++ wsX90 ++ (vx_atS RX10 87 "java/lang/IllegalArgumentException" ["java/lang/RuntimeException", "java/lang/Exception"]).filter goodWord)
def wsL_gains : List Cond := .codeWith yL_gains cL_gains 4 (some .int) [(0, 6, 9, 23)] :: ([.classLink RL 23 "java/lang/IllegalArgumentException", .constant RL 25 (-99999), .methodLink RL 30 yX10_setGains, .instanceMethod yX10_setGains, .selects RX10 yX10_setGains yX10_setGains, .initialized RX10, .code yX10_setGains cX10_setGains 3 none, .classLink RX10 83 "java/lang/IllegalArgumentException", .initialized "java/lang/IllegalArgumentException", .fieldLink RX10 47 "Phaselock" "filter" "LPhaselock$LoopFilter;", .fieldLink RX10 114 "Phaselock$LoopFilter" "proportionalGain" "I", .fieldLink RX10 117 "Phaselock$LoopFilter" "integralGain" "I", .methodLink RX10 79 yX10_isWithin, .static yX10_isWithin, .code yX10_isWithin cX10_isWithin 3 (some .boolean)] ++ wsX100 ++ wsX40 ++ (vx_atS RX10 87 "java/lang/IllegalArgumentException" ["java/lang/RuntimeException", "java/lang/Exception"]).filter goodWord)
def wsL_bit_r1 : List Cond := [Cond.classLink RL 36 "java/lang/IndexOutOfBoundsException", Cond.constant RL 25 (-99999), Cond.methodLink RL 33 yX10_bit, Cond.instanceMethod yX10_bit, Cond.selects RX10 yX10_bit yX10_bit, Cond.initialized RX10, Cond.code yX10_bit cX10_bit 2 (some .int), Cond.classLink RX10 161 "java/lang/IndexOutOfBoundsException", Cond.initialized "java/lang/IndexOutOfBoundsException", Cond.fieldLink RX10 54 "Phaselock" "bits" "LPhaselock$BitLog;", Cond.methodLink RX10 157 yX1_remembers, Cond.instanceMethod yX1_remembers, Cond.selects RX1 yX1_remembers yX1_remembers, Cond.initialized RX1, Cond.code yX1_remembers cX1_remembers 2 (some .boolean), Cond.fieldLink RX1 9 "Phaselock$BitLog" "count" "I", Cond.methodLink RX1 18 Lib.Math.min.name, Cond.static Lib.Math.min.name, Cond.initialized "java/lang/Math", Cond.code Lib.Math.min.name Lib.Math.min.code 2 (some .int), Cond.static yX10_isWithin, Cond.code yX10_isWithin cX10_isWithin 3 (some .boolean), Cond.methodLink RX10 166 yX1_findBit, Cond.instanceMethod yX1_findBit]
def wsL_bit_r2 : List Cond := [Cond.selects RX1 yX1_findBit yX1_findBit, Cond.code yX1_findBit cX1_findBit 2 (some .int), Cond.fieldLink RX1 15 "Phaselock$BitLog" "latest32" "I"]
def wsL_bit : List Cond := .codeWith yL_bit cL_bit 3 (some .int) [(0, 5, 6, 36)] :: ((wsL_bit_r1 ++ wsL_bit_r2) ++ wsX100 ++ wsX10 ++ (vx_atS RX10 165 "java/lang/IndexOutOfBoundsException" ["java/lang/RuntimeException", "java/lang/Exception"]).filter goodWord)
def wsL_phase : List Cond := .codeWith yL_phase cL_phase 2 (some .int) [(0, 4, 5, 42)] :: ([.classLink RL 42 "java/lang/IllegalStateException", .constant RL 25 (-99999), .methodLink RL 38 yX10_phase, .instanceMethod yX10_phase, .selects RX10 yX10_phase yX10_phase, .initialized RX10, .code yX10_phase cX10_phase 1 (some .int), .classLink RX10 171 "java/lang/IllegalStateException", .initialized "java/lang/IllegalStateException", .fieldLink RX10 68 "Phaselock" "phases" "LPhaselock$PhaseLog;", .fieldLink RX10 170 "Phaselock$PhaseLog" "count" "I", .fieldLink RX10 176 "Phaselock$PhaseLog" "latest" "I"] ++ wsX100 ++ wsX70 ++ (vx_atS RX10 175 "java/lang/IllegalStateException" ["java/lang/RuntimeException", "java/lang/Exception"]).filter goodWord)
def wsL_act_r1 : List Cond := [Cond.constant RL 7 (2147483647), Cond.constant RL 60 (80000), Cond.constant RL 61 (65536), Cond.methodLink RL 44 yL_low, Cond.static yL_low, Cond.initialized RL, Cond.code yL_low cL_low 2 (some .int), Cond.methodLink RL 50 yL_does, Cond.static yL_does, Cond.codeWith yL_does cL_does 4 (some .int) [(0, 43, 44, 23)], Cond.classLink RL 23 "java/lang/IllegalArgumentException", Cond.constant RL 25 (-99999), Cond.methodLink RL 8 yX10_setOffset, Cond.instanceMethod yX10_setOffset, Cond.selects RX10 yX10_setOffset yX10_setOffset, Cond.initialized RX10, Cond.code yX10_setOffset cX10_setOffset 2 (some .int), Cond.classLink RX10 83 "java/lang/IllegalArgumentException", Cond.initialized "java/lang/IllegalArgumentException", Cond.fieldLink RX10 10 "Phaselock" "transmitter" "LPhaselock$Transmitter;", Cond.fieldLink RX10 90 "Phaselock$Transmitter" "step" "I", Cond.methodLink RX10 79 yX10_isWithin, Cond.static yX10_isWithin, Cond.code yX10_isWithin cX10_isWithin 3 (some .boolean)]
def wsL_act_r2 : List Cond := [Cond.methodLink RL 14 yX10_setDetector, Cond.instanceMethod yX10_setDetector, Cond.selects RX10 yX10_setDetector yX10_setDetector, Cond.code yX10_setDetector cX10_setDetector 3 (some .int), Cond.fieldLink RX10 40 "Phaselock" "detector" "LPhaselock$PhaseDetector;", Cond.fieldLink RX10 107 "Phaselock$PhaseDetector" "kind" "I", Cond.methodLink RL 17 yX10_setPhase, Cond.instanceMethod yX10_setPhase, Cond.selects RX10 yX10_setPhase yX10_setPhase, Cond.code yX10_setPhase cX10_setPhase 3 (some .int), Cond.constant RX10 120 (65535), Cond.fieldLink RX10 33 "Phaselock" "oscillator" "LPhaselock$Oscillator;", Cond.fieldLink RX10 123 "Phaselock$Oscillator" "phase" "I", Cond.methodLink RL 20 yX10_run, Cond.instanceMethod yX10_run, Cond.selects RX10 yX10_run yX10_run, Cond.code yX10_run cX10_run 4 (some .int), Cond.fieldLink RX10 54 "Phaselock" "bits" "LPhaselock$BitLog;", Cond.fieldLink RX10 134 "Phaselock$BitLog" "count" "I", Cond.methodLink RX10 137 yX10_passTick, Cond.instanceMethod yX10_passTick, Cond.selects RX10 yX10_passTick yX10_passTick, Cond.code yX10_passTick cX10_passTick 1 none, Cond.fieldLink RX10 19 "Phaselock" "memory" "LPhaselock$LineMemory;"]
def wsL_act_r3 : List Cond := [Cond.fieldLink RX10 146 "Phaselock$Transmitter" "value" "I", Cond.fieldLink RX10 26 "Phaselock" "edges" "LPhaselock$EdgeLog;", Cond.fieldLink RX10 47 "Phaselock" "filter" "LPhaselock$LoopFilter;", Cond.fieldLink RX10 129 "Phaselock$LoopFilter" "control" "I", Cond.methodLink RX10 206 yX9_advance, Cond.instanceMethod yX9_advance, Cond.selects RX9 yX9_advance yX9_advance, Cond.initialized RX9, Cond.code yX9_advance cX9_advance 1 none, Cond.fieldLink RX9 9 "Phaselock$Transmitter" "phase" "I", Cond.fieldLink RX9 15 "Phaselock$Transmitter" "step" "I", Cond.constant RX9 38 (65536), Cond.methodLink RX9 34 yX9_drawDeviation, Cond.instanceMethod yX9_drawDeviation, Cond.selects RX9 yX9_drawDeviation yX9_drawDeviation, Cond.code yX9_drawDeviation cX9_drawDeviation 2 (some .int), Cond.fieldLink RX9 18 "Phaselock$Transmitter" "jitter" "I", Cond.constantLong RX9 42 (1103515245), Cond.fieldLink RX9 21 "Phaselock$Transmitter" "randomState" "J", Cond.constantLong RX9 44 (12345), Cond.constantLong RX9 46 (2147483648), Cond.constantLong RX9 48 (65536), Cond.methodLink RX9 39 yX9_sendNextBit, Cond.instanceMethod yX9_sendNextBit]
def wsL_act_r4 : List Cond := [Cond.selects RX9 yX9_sendNextBit yX9_sendNextBit, Cond.code yX9_sendNextBit cX9_sendNextBit 2 none, Cond.fieldLink RX9 25 "Phaselock$Transmitter" "number" "I", Cond.fieldLink RX9 28 "Phaselock$Transmitter" "value" "I", Cond.methodLink RX9 50 yX9_shiftRegister, Cond.instanceMethod yX9_shiftRegister, Cond.selects RX9 yX9_shiftRegister yX9_shiftRegister, Cond.code yX9_shiftRegister cX9_shiftRegister 3 (some .int), Cond.fieldLink RX9 31 "Phaselock$Transmitter" "register" "I", Cond.methodLink RX10 209 yX3_remember, Cond.instanceMethod yX3_remember, Cond.selects RX3 yX3_remember yX3_remember, Cond.initialized RX3, Cond.code yX3_remember cX3_remember 2 none, Cond.fieldLink RX3 8 "Phaselock$LineMemory" "values" "I", Cond.constant RX3 7 (65535), Cond.methodLink RX10 213 yX3_hasChangedSince, Cond.instanceMethod yX3_hasChangedSince, Cond.selects RX3 yX3_hasChangedSince yX3_hasChangedSince, Cond.code yX3_hasChangedSince cX3_hasChangedSince 2 (some .boolean), Cond.methodLink RX10 216 yX2_add, Cond.instanceMethod yX2_add, Cond.selects RX2 yX2_add yX2_add, Cond.initialized RX2]
def wsL_act_r5 : List Cond := [Cond.code yX2_add cX2_add 2 none, Cond.fieldLink RX2 7 "Phaselock$EdgeLog" "ticks" "I", Cond.fieldLink RX2 13 "Phaselock$EdgeLog" "changed" "[Z", Cond.methodLink RX10 220 yX6_watchLine, Cond.instanceMethod yX6_watchLine, Cond.selects RX6 yX6_watchLine yX6_watchLine, Cond.initialized RX6, Cond.code yX6_watchLine cX6_watchLine 3 none, Cond.constant RX6 39 (32768), Cond.fieldLink RX6 15 "Phaselock$PhaseDetector" "edgeError" "I", Cond.fieldLink RX6 18 "Phaselock$PhaseDetector" "product" "I", Cond.constant RX6 40 (49151), Cond.methodLink RX6 33 yX3_hasChangedSince, Cond.methodLink RX10 224 yX5_advance, Cond.instanceMethod yX5_advance, Cond.selects RX5 yX5_advance yX5_advance, Cond.initialized RX5, Cond.code yX5_advance cX5_advance 3 (some .int), Cond.fieldLink RX5 9 "Phaselock$Oscillator" "phase" "I", Cond.constant RX5 15 (65536), Cond.constant RX5 16 (49152), Cond.constant RX5 21 (32768), Cond.methodLink RX5 17 yX5_hasPassed, Cond.instanceMethod yX5_hasPassed]
def wsL_act_r6 : List Cond := [Cond.selects RX5 yX5_hasPassed yX5_hasPassed, Cond.code yX5_hasPassed cX5_hasPassed 3 (some .boolean), Cond.methodLink RX10 226 yX10_actOnStrobe, Cond.instanceMethod yX10_actOnStrobe, Cond.selects RX10 yX10_actOnStrobe yX10_actOnStrobe, Cond.code yX10_actOnStrobe cX10_actOnStrobe 2 none, Cond.methodLink RX10 149 yX3_findLevel, Cond.instanceMethod yX3_findLevel, Cond.selects RX3 yX3_findLevel yX3_findLevel, Cond.code yX3_findLevel cX3_findLevel 1 (some .int), Cond.methodLink RX3 14 yJ6_bitCount_0f7a4, Cond.static yJ6_bitCount_0f7a4, Cond.initialized RJ6, Cond.code yJ6_bitCount_0f7a4 cJ6_bitCount_0f7a4 1 (some .int), Cond.constant RJ6 265 (1431655765), Cond.constant RJ6 266 (858993459), Cond.constant RJ6 267 (252645135), Cond.methodLink RX10 229 yX6_measureLate, Cond.instanceMethod yX6_measureLate, Cond.selects RX6 yX6_measureLate yX6_measureLate, Cond.code yX6_measureLate cX6_measureLate 2 (some .int), Cond.fieldLink RX6 21 "Phaselock$PhaseDetector" "earlyValue" "I", Cond.methodLink RX6 45 Lib.Math.abs.name, Cond.static Lib.Math.abs.name]
def wsL_act_r7 : List Cond := [Cond.initialized "java/lang/Math", Cond.code Lib.Math.abs.name Lib.Math.abs.code 1 (some .int), Cond.methodLink RX10 232 yX4_takeError, Cond.instanceMethod yX4_takeError, Cond.selects RX4 yX4_takeError yX4_takeError, Cond.initialized RX4, Cond.code yX4_takeError cX4_takeError 2 none, Cond.fieldLink RX4 16 "Phaselock$LoopFilter" "error" "I", Cond.fieldLink RX4 19 "Phaselock$LoopFilter" "integral" "I", Cond.fieldLink RX4 13 "Phaselock$LoopFilter" "integralGain" "I", Cond.constant RX4 25 (262144), Cond.fieldLink RX4 7 "Phaselock$LoopFilter" "proportionalGain" "I", Cond.fieldLink RX4 22 "Phaselock$LoopFilter" "control" "I", Cond.methodLink RX4 26 yX4_keepWithin, Cond.static yX4_keepWithin, Cond.code yX4_keepWithin cX4_keepWithin 2 (some .int), Cond.methodLink RX4 35 Lib.Math.min.name, Cond.static Lib.Math.min.name, Cond.code Lib.Math.min.name Lib.Math.min.code 2 (some .int), Cond.methodLink RX4 38 Lib.Math.max.name, Cond.static Lib.Math.max.name, Cond.code Lib.Math.max.name Lib.Math.max.code 2 (some .int), Cond.methodLink RX4 30 yJ9_floorDiv_7cf53, Cond.static yJ9_floorDiv_7cf53]
def wsL_act_r8 : List Cond := [Cond.initialized RJ9, Cond.code yJ9_floorDiv_7cf53 cJ9_floorDiv_7cf53 3 (some .int), Cond.methodLink RX10 235 yX6_keepMiddle, Cond.instanceMethod yX6_keepMiddle, Cond.selects RX6 yX6_keepMiddle yX6_keepMiddle, Cond.code yX6_keepMiddle cX6_keepMiddle 3 none, Cond.fieldLink RX6 24 "Phaselock$PhaseDetector" "middleValue" "I", Cond.fieldLink RX6 27 "Phaselock$PhaseDetector" "middleLevel" "I", Cond.methodLink RX10 239 yX6_keepEarly, Cond.instanceMethod yX6_keepEarly, Cond.selects RX6 yX6_keepEarly yX6_keepEarly, Cond.code yX6_keepEarly cX6_keepEarly 2 none, Cond.methodLink RX10 242 yX10_actOnDataStrobe, Cond.instanceMethod yX10_actOnDataStrobe, Cond.selects RX10 yX10_actOnDataStrobe yX10_actOnDataStrobe, Cond.code yX10_actOnDataStrobe cX10_actOnDataStrobe 4 none, Cond.fieldLink RX10 61 "Phaselock" "slips" "LPhaselock$SlipCounter;", Cond.fieldLink RX10 143 "Phaselock$Transmitter" "number" "I", Cond.fieldLink RX10 68 "Phaselock" "phases" "LPhaselock$PhaseLog;", Cond.fieldLink RX10 153 "Phaselock$Transmitter" "phase" "I", Cond.constant RX10 257 (32768), Cond.fieldLink RX10 75 "Phaselock" "aligner" "LPhaselock$Aligner;", Cond.methodLink RX10 245 yX6_measureAtData, Cond.instanceMethod yX6_measureAtData]
def wsL_act_r9 : List Cond := [Cond.selects RX6 yX6_measureAtData yX6_measureAtData, Cond.code yX6_measureAtData cX6_measureAtData 4 (some .int), Cond.fieldLink RX6 9 "Phaselock$PhaseDetector" "kind" "I", Cond.fieldLink RX6 30 "Phaselock$PhaseDetector" "dataLevel" "I", Cond.methodLink RX6 51 yX6_measureBangBang, Cond.instanceMethod yX6_measureBangBang, Cond.selects RX6 yX6_measureBangBang yX6_measureBangBang, Cond.code yX6_measureBangBang cX6_measureBangBang 4 (some .int), Cond.fieldLink RX6 55 "Phaselock$BitLog" "count" "I", Cond.methodLink RX6 60 yX1_findBit, Cond.instanceMethod yX1_findBit, Cond.selects RX1 yX1_findBit yX1_findBit, Cond.initialized RX1, Cond.code yX1_findBit cX1_findBit 2 (some .int), Cond.fieldLink RX1 15 "Phaselock$BitLog" "latest32" "I", Cond.methodLink RX10 249 yX6_finishBit, Cond.instanceMethod yX6_finishBit, Cond.selects RX6 yX6_finishBit yX6_finishBit, Cond.code yX6_finishBit cX6_finishBit 2 none, Cond.methodLink RX10 252 yX1_add, Cond.instanceMethod yX1_add, Cond.selects RX1 yX1_add yX1_add, Cond.code yX1_add cX1_add 2 none, Cond.fieldLink RX1 9 "Phaselock$BitLog" "count" "I"]
def wsL_act_r10 : List Cond := [Cond.methodLink RX10 254 yX8_compare, Cond.instanceMethod yX8_compare, Cond.selects RX8 yX8_compare yX8_compare, Cond.initialized RX8, Cond.code yX8_compare cX8_compare 3 (some .boolean), Cond.fieldLink RX8 16 "Phaselock$SlipCounter" "hasStrobed" "Z", Cond.fieldLink RX8 20 "Phaselock$SlipCounter" "numberBefore" "I", Cond.fieldLink RX8 7 "Phaselock$SlipCounter" "repeated" "I", Cond.fieldLink RX8 13 "Phaselock$SlipCounter" "skipped" "I", Cond.methodLink RX10 258 yX7_add, Cond.instanceMethod yX7_add, Cond.selects RX7 yX7_add yX7_add, Cond.initialized RX7, Cond.code yX7_add cX7_add 4 none, Cond.fieldLink RX7 21 "Phaselock$PhaseLog" "window" "[I", Cond.fieldLink RX7 9 "Phaselock$PhaseLog" "count" "I", Cond.fieldLink RX7 15 "Phaselock$PhaseLog" "latest" "I", Cond.fieldLink RX7 18 "Phaselock$PhaseLog" "steadyCount" "I", Cond.methodLink RX10 261 yX1_endsWithSyncWord, Cond.instanceMethod yX1_endsWithSyncWord, Cond.selects RX1 yX1_endsWithSyncWord yX1_endsWithSyncWord, Cond.code yX1_endsWithSyncWord cX1_endsWithSyncWord 1 (some .boolean), Cond.methodLink RX10 264 yX0_take, Cond.instanceMethod yX0_take]
def wsL_act_r11 : List Cond := [Cond.selects RX0 yX0_take yX0_take, Cond.initialized RX0, Cond.code yX0_take cX0_take 2 none, Cond.fieldLink RX0 11 "Phaselock$Aligner" "state" "I", Cond.fieldLink RX0 21 "Phaselock$Aligner" "position" "I", Cond.fieldLink RX0 24 "Phaselock$Aligner" "matches" "I", Cond.methodLink RX0 30 yX0_verify, Cond.instanceMethod yX0_verify, Cond.selects RX0 yX0_verify yX0_verify, Cond.code yX0_verify cX0_verify 2 none, Cond.fieldLink RX0 27 "Phaselock$Aligner" "misses" "I", Cond.methodLink RX0 34 yX0_watchSync, Cond.instanceMethod yX0_watchSync, Cond.selects RX0 yX0_watchSync yX0_watchSync, Cond.code yX0_watchSync cX0_watchSync 2 none, Cond.fieldLink RX0 15 "Phaselock$Aligner" "frames" "I", Cond.fieldLink RX0 18 "Phaselock$Aligner" "losses" "I", Cond.methodLink RL 54 yL_jitter, Cond.static yL_jitter, Cond.codeWith yL_jitter cL_jitter 4 (some .int) [(0, 6, 9, 23)], Cond.methodLink RL 26 yX10_setJitter, Cond.instanceMethod yX10_setJitter, Cond.selects RX10 yX10_setJitter yX10_setJitter, Cond.code yX10_setJitter cX10_setJitter 3 none]
def wsL_act_r12 : List Cond := [Cond.fieldLink RX10 98 "Phaselock$Transmitter" "jitter" "I", Cond.fieldLink RX10 101 "Phaselock$Transmitter" "randomState" "J", Cond.methodLink RL 57 yL_gains, Cond.static yL_gains, Cond.codeWith yL_gains cL_gains 4 (some .int) [(0, 6, 9, 23)], Cond.methodLink RL 30 yX10_setGains, Cond.instanceMethod yX10_setGains, Cond.selects RX10 yX10_setGains yX10_setGains, Cond.code yX10_setGains cX10_setGains 3 none, Cond.fieldLink RX10 114 "Phaselock$LoopFilter" "proportionalGain" "I", Cond.fieldLink RX10 117 "Phaselock$LoopFilter" "integralGain" "I", Cond.methodLink RL 62 yX10_release, Cond.instanceMethod yX10_release, Cond.selects RX10 yX10_release yX10_release, Cond.code yX10_release cX10_release 1 none, Cond.fieldLink RX10 126 "Phaselock$LoopFilter" "integral" "I"]
def wsL_act : List Cond := .code yL_act cL_act 4 (some .int) :: ((wsL_act_r1 ++ (wsL_act_r2 ++ (wsL_act_r3 ++ (wsL_act_r4 ++ (wsL_act_r5 ++ (wsL_act_r6 ++ (wsL_act_r7 ++ (wsL_act_r8 ++ (wsL_act_r9 ++ (wsL_act_r10 ++ (wsL_act_r11 ++ wsL_act_r12))))))))))) ++ wsX100 ++ wsX90 ++ wsX60 ++ wsX50 ++ wsX10 ++ wsX40 ++ wsX30 ++ wsX20 ++ wsX80 ++ wsX70 ++ wsX00 ++ (vx_atS RX10 87 "java/lang/IllegalArgumentException" ["java/lang/RuntimeException", "java/lang/Exception"]).filter goodWord)
def wsL_areAlike_r1 : List Cond := [Cond.methodLink RL 65 yX10_ticks, Cond.instanceMethod yX10_ticks, Cond.selects RX10 yX10_ticks yX10_ticks, Cond.initialized RX10, Cond.code yX10_ticks cX10_ticks 1 (some .int), Cond.fieldLink RX10 26 "Phaselock" "edges" "LPhaselock$EdgeLog;", Cond.fieldLink RX10 140 "Phaselock$EdgeLog" "ticks" "I", Cond.methodLink RL 68 yX10_sent, Cond.instanceMethod yX10_sent, Cond.selects RX10 yX10_sent yX10_sent, Cond.code yX10_sent cX10_sent 1 (some .int), Cond.fieldLink RX10 10 "Phaselock" "transmitter" "LPhaselock$Transmitter;", Cond.fieldLink RX10 143 "Phaselock$Transmitter" "number" "I", Cond.methodLink RL 71 yX10_sender, Cond.instanceMethod yX10_sender, Cond.selects RX10 yX10_sender yX10_sender, Cond.code yX10_sender cX10_sender 1 (some .int), Cond.fieldLink RX10 153 "Phaselock$Transmitter" "phase" "I", Cond.methodLink RL 74 yX10_receiver, Cond.instanceMethod yX10_receiver, Cond.selects RX10 yX10_receiver yX10_receiver, Cond.code yX10_receiver cX10_receiver 1 (some .int), Cond.fieldLink RX10 33 "Phaselock" "oscillator" "LPhaselock$Oscillator;", Cond.fieldLink RX10 123 "Phaselock$Oscillator" "phase" "I"]
def wsL_areAlike_r2 : List Cond := [Cond.methodLink RL 77 yX10_error, Cond.instanceMethod yX10_error, Cond.selects RX10 yX10_error yX10_error, Cond.code yX10_error cX10_error 1 (some .int), Cond.fieldLink RX10 47 "Phaselock" "filter" "LPhaselock$LoopFilter;", Cond.fieldLink RX10 154 "Phaselock$LoopFilter" "error" "I", Cond.methodLink RL 80 yX10_integral, Cond.instanceMethod yX10_integral, Cond.selects RX10 yX10_integral yX10_integral, Cond.code yX10_integral cX10_integral 1 (some .int), Cond.fieldLink RX10 126 "Phaselock$LoopFilter" "integral" "I", Cond.methodLink RL 83 yX10_control, Cond.instanceMethod yX10_control, Cond.selects RX10 yX10_control yX10_control, Cond.code yX10_control cX10_control 1 (some .int), Cond.fieldLink RX10 129 "Phaselock$LoopFilter" "control" "I", Cond.methodLink RL 86 yX10_received, Cond.instanceMethod yX10_received, Cond.selects RX10 yX10_received yX10_received, Cond.code yX10_received cX10_received 1 (some .int), Cond.fieldLink RX10 54 "Phaselock" "bits" "LPhaselock$BitLog;", Cond.fieldLink RX10 134 "Phaselock$BitLog" "count" "I", Cond.methodLink RL 89 yX10_repeated, Cond.instanceMethod yX10_repeated]
def wsL_areAlike_r3 : List Cond := [Cond.selects RX10 yX10_repeated yX10_repeated, Cond.code yX10_repeated cX10_repeated 1 (some .int), Cond.fieldLink RX10 61 "Phaselock" "slips" "LPhaselock$SlipCounter;", Cond.fieldLink RX10 179 "Phaselock$SlipCounter" "repeated" "I", Cond.methodLink RL 92 yX10_skipped, Cond.instanceMethod yX10_skipped, Cond.selects RX10 yX10_skipped yX10_skipped, Cond.code yX10_skipped cX10_skipped 1 (some .int), Cond.fieldLink RX10 182 "Phaselock$SlipCounter" "skipped" "I", Cond.methodLink RL 95 yX10_wander, Cond.instanceMethod yX10_wander, Cond.selects RX10 yX10_wander yX10_wander, Cond.code yX10_wander cX10_wander 1 (some .int), Cond.fieldLink RX10 68 "Phaselock" "phases" "LPhaselock$PhaseLog;", Cond.methodLink RX10 189 yX7_sumAbsolutes, Cond.instanceMethod yX7_sumAbsolutes, Cond.selects RX7 yX7_sumAbsolutes yX7_sumAbsolutes, Cond.initialized RX7, Cond.code yX7_sumAbsolutes cX7_sumAbsolutes 3 (some .int), Cond.fieldLink RX7 21 "Phaselock$PhaseLog" "window" "[I", Cond.methodLink RX7 29 Lib.Math.abs.name, Cond.static Lib.Math.abs.name, Cond.initialized "java/lang/Math", Cond.code Lib.Math.abs.name Lib.Math.abs.code 1 (some .int)]
def wsL_areAlike_r4 : List Cond := [Cond.methodLink RL 98 yX10_alignment, Cond.instanceMethod yX10_alignment, Cond.selects RX10 yX10_alignment yX10_alignment, Cond.code yX10_alignment cX10_alignment 1 (some .int), Cond.fieldLink RX10 75 "Phaselock" "aligner" "LPhaselock$Aligner;", Cond.fieldLink RX10 192 "Phaselock$Aligner" "state" "I", Cond.methodLink RL 101 yX10_frames, Cond.instanceMethod yX10_frames, Cond.selects RX10 yX10_frames yX10_frames, Cond.code yX10_frames cX10_frames 1 (some .int), Cond.fieldLink RX10 195 "Phaselock$Aligner" "frames" "I", Cond.methodLink RL 104 yX10_losses, Cond.instanceMethod yX10_losses, Cond.selects RX10 yX10_losses yX10_losses, Cond.code yX10_losses cX10_losses 1 (some .int), Cond.fieldLink RX10 198 "Phaselock$Aligner" "losses" "I", Cond.methodLink RL 107 yL_bit, Cond.static yL_bit, Cond.initialized RL, Cond.codeWith yL_bit cL_bit 3 (some .int) [(0, 5, 6, 36)], Cond.classLink RL 36 "java/lang/IndexOutOfBoundsException", Cond.constant RL 25 (-99999), Cond.methodLink RL 33 yX10_bit, Cond.instanceMethod yX10_bit]
def wsL_areAlike_r5 : List Cond := [Cond.selects RX10 yX10_bit yX10_bit, Cond.code yX10_bit cX10_bit 2 (some .int), Cond.classLink RX10 161 "java/lang/IndexOutOfBoundsException", Cond.initialized "java/lang/IndexOutOfBoundsException", Cond.methodLink RX10 157 yX1_remembers, Cond.instanceMethod yX1_remembers, Cond.selects RX1 yX1_remembers yX1_remembers, Cond.initialized RX1, Cond.code yX1_remembers cX1_remembers 2 (some .boolean), Cond.fieldLink RX1 9 "Phaselock$BitLog" "count" "I", Cond.methodLink RX1 18 Lib.Math.min.name, Cond.static Lib.Math.min.name, Cond.code Lib.Math.min.name Lib.Math.min.code 2 (some .int), Cond.static yX10_isWithin, Cond.code yX10_isWithin cX10_isWithin 3 (some .boolean), Cond.methodLink RX10 166 yX1_findBit, Cond.instanceMethod yX1_findBit, Cond.selects RX1 yX1_findBit yX1_findBit, Cond.code yX1_findBit cX1_findBit 2 (some .int), Cond.fieldLink RX1 15 "Phaselock$BitLog" "latest32" "I", Cond.methodLink RL 110 yX10_cost, Cond.instanceMethod yX10_cost, Cond.selects RX10 yX10_cost yX10_cost, Cond.code yX10_cost cX10_cost 2 (some .int)]
def wsL_areAlike_r6 : List Cond := [Cond.classLink RX10 83 "java/lang/IllegalArgumentException", Cond.initialized "java/lang/IllegalArgumentException", Cond.methodLink RX10 79 yX10_isWithin, Cond.methodLink RX10 201 yX2_sumCosts, Cond.instanceMethod yX2_sumCosts, Cond.selects RX2 yX2_sumCosts yX2_sumCosts, Cond.initialized RX2, Cond.code yX2_sumCosts cX2_sumCosts 4 (some .int), Cond.fieldLink RX2 13 "Phaselock$EdgeLog" "changed" "[Z", Cond.methodLink RX2 17 yX2_findDistance, Cond.static yX2_findDistance, Cond.code yX2_findDistance cX2_findDistance 4 (some .int), Cond.methodLink RX2 21 Lib.Math.min.name, Cond.methodLink RL 113 yL_phase, Cond.static yL_phase, Cond.codeWith yL_phase cL_phase 2 (some .int) [(0, 4, 5, 42)], Cond.classLink RL 42 "java/lang/IllegalStateException", Cond.methodLink RL 38 yX10_phase, Cond.instanceMethod yX10_phase, Cond.selects RX10 yX10_phase yX10_phase, Cond.code yX10_phase cX10_phase 1 (some .int), Cond.classLink RX10 171 "java/lang/IllegalStateException", Cond.initialized "java/lang/IllegalStateException", Cond.fieldLink RX10 170 "Phaselock$PhaseLog" "count" "I"]
def wsL_areAlike_r7 : List Cond := [Cond.fieldLink RX10 176 "Phaselock$PhaseLog" "latest" "I"]
def wsL_areAlike : List Cond := .code yL_areAlike cL_areAlike 4 (some .boolean) :: ((wsL_areAlike_r1 ++ (wsL_areAlike_r2 ++ (wsL_areAlike_r3 ++ (wsL_areAlike_r4 ++ (wsL_areAlike_r5 ++ (wsL_areAlike_r6 ++ wsL_areAlike_r7)))))) ++ wsX100 ++ wsX20 ++ wsX90 ++ wsX50 ++ wsX40 ++ wsX10 ++ wsX80 ++ wsX70 ++ wsX00 ++ (vx_atS RX10 165 "java/lang/IndexOutOfBoundsException" ["java/lang/RuntimeException", "java/lang/Exception"]).filter goodWord ++ (vx_atS RX10 87 "java/lang/IllegalArgumentException" ["java/lang/RuntimeException", "java/lang/Exception"]).filter goodWord ++ (vx_atS RX10 175 "java/lang/IllegalStateException" ["java/lang/RuntimeException", "java/lang/Exception"]).filter goodWord)
def wsL_isLineSo_r1 : List Cond := [Cond.constant RL 61 (65536), Cond.constant RL 122 (-262144), Cond.constant RL 123 (262144), Cond.methodLink RL 116 yX10_line, Cond.instanceMethod yX10_line, Cond.selects RX10 yX10_line yX10_line, Cond.initialized RX10, Cond.code yX10_line cX10_line 1 (some .int), Cond.fieldLink RX10 10 "Phaselock" "transmitter" "LPhaselock$Transmitter;", Cond.fieldLink RX10 146 "Phaselock$Transmitter" "value" "I", Cond.methodLink RL 119 yX10_level, Cond.instanceMethod yX10_level, Cond.selects RX10 yX10_level yX10_level, Cond.code yX10_level cX10_level 1 (some .int), Cond.fieldLink RX10 19 "Phaselock" "memory" "LPhaselock$LineMemory;", Cond.methodLink RX10 149 yX3_findLevel, Cond.instanceMethod yX3_findLevel, Cond.selects RX3 yX3_findLevel yX3_findLevel, Cond.initialized RX3, Cond.code yX3_findLevel cX3_findLevel 1 (some .int), Cond.fieldLink RX3 8 "Phaselock$LineMemory" "values" "I", Cond.methodLink RX3 14 yJ6_bitCount_0f7a4, Cond.static yJ6_bitCount_0f7a4, Cond.initialized RJ6]
def wsL_isLineSo_r2 : List Cond := [Cond.code yJ6_bitCount_0f7a4 cJ6_bitCount_0f7a4 1 (some .int), Cond.constant RJ6 265 (1431655765), Cond.constant RJ6 266 (858993459), Cond.constant RJ6 267 (252645135), Cond.methodLink RL 71 yX10_sender, Cond.instanceMethod yX10_sender, Cond.selects RX10 yX10_sender yX10_sender, Cond.code yX10_sender cX10_sender 1 (some .int), Cond.fieldLink RX10 153 "Phaselock$Transmitter" "phase" "I", Cond.methodLink RL 74 yX10_receiver, Cond.instanceMethod yX10_receiver, Cond.selects RX10 yX10_receiver yX10_receiver, Cond.code yX10_receiver cX10_receiver 1 (some .int), Cond.fieldLink RX10 33 "Phaselock" "oscillator" "LPhaselock$Oscillator;", Cond.fieldLink RX10 123 "Phaselock$Oscillator" "phase" "I", Cond.methodLink RL 80 yX10_integral, Cond.instanceMethod yX10_integral, Cond.selects RX10 yX10_integral yX10_integral, Cond.code yX10_integral cX10_integral 1 (some .int), Cond.fieldLink RX10 47 "Phaselock" "filter" "LPhaselock$LoopFilter;", Cond.fieldLink RX10 126 "Phaselock$LoopFilter" "integral" "I", Cond.methodLink RL 83 yX10_control, Cond.instanceMethod yX10_control, Cond.selects RX10 yX10_control yX10_control]
def wsL_isLineSo_r3 : List Cond := [Cond.code yX10_control cX10_control 1 (some .int), Cond.fieldLink RX10 129 "Phaselock$LoopFilter" "control" "I", Cond.methodLink RL 77 yX10_error, Cond.instanceMethod yX10_error, Cond.selects RX10 yX10_error yX10_error, Cond.code yX10_error cX10_error 1 (some .int), Cond.fieldLink RX10 154 "Phaselock$LoopFilter" "error" "I", Cond.methodLink RL 65 yX10_ticks, Cond.instanceMethod yX10_ticks, Cond.selects RX10 yX10_ticks yX10_ticks, Cond.code yX10_ticks cX10_ticks 1 (some .int), Cond.fieldLink RX10 26 "Phaselock" "edges" "LPhaselock$EdgeLog;", Cond.fieldLink RX10 140 "Phaselock$EdgeLog" "ticks" "I", Cond.methodLink RL 68 yX10_sent, Cond.instanceMethod yX10_sent, Cond.selects RX10 yX10_sent yX10_sent, Cond.code yX10_sent cX10_sent 1 (some .int), Cond.fieldLink RX10 143 "Phaselock$Transmitter" "number" "I"]
def wsL_isLineSo : List Cond := .code yL_isLineSo cL_isLineSo 2 (some .boolean) :: ((wsL_isLineSo_r1 ++ (wsL_isLineSo_r2 ++ wsL_isLineSo_r3)) ++ wsX100 ++ wsX90 ++ wsX30 ++ wsX50 ++ wsX40 ++ wsX20)
def wsL_areBitsSo_r1 : List Cond := [Cond.constant RL 25 (-99999), Cond.constant RL 124 (1048576), Cond.constant RL 129 (524288), Cond.methodLink RL 86 yX10_received, Cond.instanceMethod yX10_received, Cond.selects RX10 yX10_received yX10_received, Cond.initialized RX10, Cond.code yX10_received cX10_received 1 (some .int), Cond.fieldLink RX10 54 "Phaselock" "bits" "LPhaselock$BitLog;", Cond.fieldLink RX10 134 "Phaselock$BitLog" "count" "I", Cond.methodLink RL 65 yX10_ticks, Cond.instanceMethod yX10_ticks, Cond.selects RX10 yX10_ticks yX10_ticks, Cond.code yX10_ticks cX10_ticks 1 (some .int), Cond.fieldLink RX10 26 "Phaselock" "edges" "LPhaselock$EdgeLog;", Cond.fieldLink RX10 140 "Phaselock$EdgeLog" "ticks" "I", Cond.methodLink RL 89 yX10_repeated, Cond.instanceMethod yX10_repeated, Cond.selects RX10 yX10_repeated yX10_repeated, Cond.code yX10_repeated cX10_repeated 1 (some .int), Cond.fieldLink RX10 61 "Phaselock" "slips" "LPhaselock$SlipCounter;", Cond.fieldLink RX10 179 "Phaselock$SlipCounter" "repeated" "I", Cond.methodLink RL 92 yX10_skipped, Cond.instanceMethod yX10_skipped]
def wsL_areBitsSo_r2 : List Cond := [Cond.selects RX10 yX10_skipped yX10_skipped, Cond.code yX10_skipped cX10_skipped 1 (some .int), Cond.fieldLink RX10 182 "Phaselock$SlipCounter" "skipped" "I", Cond.methodLink RL 68 yX10_sent, Cond.instanceMethod yX10_sent, Cond.selects RX10 yX10_sent yX10_sent, Cond.code yX10_sent cX10_sent 1 (some .int), Cond.fieldLink RX10 10 "Phaselock" "transmitter" "LPhaselock$Transmitter;", Cond.fieldLink RX10 143 "Phaselock$Transmitter" "number" "I", Cond.methodLink RL 113 yL_phase, Cond.static yL_phase, Cond.initialized RL, Cond.codeWith yL_phase cL_phase 2 (some .int) [(0, 4, 5, 42)], Cond.classLink RL 42 "java/lang/IllegalStateException", Cond.methodLink RL 38 yX10_phase, Cond.instanceMethod yX10_phase, Cond.selects RX10 yX10_phase yX10_phase, Cond.code yX10_phase cX10_phase 1 (some .int), Cond.classLink RX10 171 "java/lang/IllegalStateException", Cond.initialized "java/lang/IllegalStateException", Cond.fieldLink RX10 68 "Phaselock" "phases" "LPhaselock$PhaseLog;", Cond.fieldLink RX10 170 "Phaselock$PhaseLog" "count" "I", Cond.fieldLink RX10 176 "Phaselock$PhaseLog" "latest" "I", Cond.methodLink RL 95 yX10_wander]
def wsL_areBitsSo_r3 : List Cond := [Cond.instanceMethod yX10_wander, Cond.selects RX10 yX10_wander yX10_wander, Cond.code yX10_wander cX10_wander 1 (some .int), Cond.methodLink RX10 189 yX7_sumAbsolutes, Cond.instanceMethod yX7_sumAbsolutes, Cond.selects RX7 yX7_sumAbsolutes yX7_sumAbsolutes, Cond.initialized RX7, Cond.code yX7_sumAbsolutes cX7_sumAbsolutes 3 (some .int), Cond.fieldLink RX7 21 "Phaselock$PhaseLog" "window" "[I", Cond.methodLink RX7 29 Lib.Math.abs.name, Cond.static Lib.Math.abs.name, Cond.initialized "java/lang/Math", Cond.code Lib.Math.abs.name Lib.Math.abs.code 1 (some .int), Cond.methodLink RL 107 yL_bit, Cond.static yL_bit, Cond.codeWith yL_bit cL_bit 3 (some .int) [(0, 5, 6, 36)], Cond.classLink RL 36 "java/lang/IndexOutOfBoundsException", Cond.methodLink RL 33 yX10_bit, Cond.instanceMethod yX10_bit, Cond.selects RX10 yX10_bit yX10_bit, Cond.code yX10_bit cX10_bit 2 (some .int), Cond.classLink RX10 161 "java/lang/IndexOutOfBoundsException", Cond.initialized "java/lang/IndexOutOfBoundsException", Cond.methodLink RX10 157 yX1_remembers]
def wsL_areBitsSo_r4 : List Cond := [Cond.instanceMethod yX1_remembers, Cond.selects RX1 yX1_remembers yX1_remembers, Cond.initialized RX1, Cond.code yX1_remembers cX1_remembers 2 (some .boolean), Cond.fieldLink RX1 9 "Phaselock$BitLog" "count" "I", Cond.methodLink RX1 18 Lib.Math.min.name, Cond.static Lib.Math.min.name, Cond.code Lib.Math.min.name Lib.Math.min.code 2 (some .int), Cond.static yX10_isWithin, Cond.code yX10_isWithin cX10_isWithin 3 (some .boolean), Cond.methodLink RX10 166 yX1_findBit, Cond.instanceMethod yX1_findBit, Cond.selects RX1 yX1_findBit yX1_findBit, Cond.code yX1_findBit cX1_findBit 2 (some .int), Cond.fieldLink RX1 15 "Phaselock$BitLog" "latest32" "I", Cond.methodLink RL 125 yX10_isLocked, Cond.instanceMethod yX10_isLocked, Cond.selects RX10 yX10_isLocked yX10_isLocked, Cond.code yX10_isLocked cX10_isLocked 1 (some .boolean), Cond.methodLink RX10 185 yX7_isSteady, Cond.instanceMethod yX7_isSteady, Cond.selects RX7 yX7_isSteady yX7_isSteady, Cond.code yX7_isSteady cX7_isSteady 1 (some .boolean), Cond.fieldLink RX7 18 "Phaselock$PhaseLog" "steadyCount" "I"]
def wsL_areBitsSo_r5 : List Cond := [Cond.methodLink RL 98 yX10_alignment, Cond.instanceMethod yX10_alignment, Cond.selects RX10 yX10_alignment yX10_alignment, Cond.code yX10_alignment cX10_alignment 1 (some .int), Cond.fieldLink RX10 75 "Phaselock" "aligner" "LPhaselock$Aligner;", Cond.fieldLink RX10 192 "Phaselock$Aligner" "state" "I", Cond.methodLink RL 101 yX10_frames, Cond.instanceMethod yX10_frames, Cond.selects RX10 yX10_frames yX10_frames, Cond.code yX10_frames cX10_frames 1 (some .int), Cond.fieldLink RX10 195 "Phaselock$Aligner" "frames" "I", Cond.methodLink RL 104 yX10_losses, Cond.instanceMethod yX10_losses, Cond.selects RX10 yX10_losses yX10_losses, Cond.code yX10_losses cX10_losses 1 (some .int), Cond.fieldLink RX10 198 "Phaselock$Aligner" "losses" "I"]
def wsL_areBitsSo : List Cond := .code yL_areBitsSo cL_areBitsSo 5 (some .boolean) :: ((wsL_areBitsSo_r1 ++ (wsL_areBitsSo_r2 ++ (wsL_areBitsSo_r3 ++ (wsL_areBitsSo_r4 ++ wsL_areBitsSo_r5)))) ++ wsX100 ++ wsX10 ++ wsX20 ++ wsX80 ++ wsX90 ++ wsX70 ++ wsX00 ++ (vx_atS RX10 175 "java/lang/IllegalStateException" ["java/lang/RuntimeException", "java/lang/Exception"]).filter goodWord ++ (vx_atS RX10 165 "java/lang/IndexOutOfBoundsException" ["java/lang/RuntimeException", "java/lang/Exception"]).filter goodWord)
def wsL_areCostsSo_r1 : List Cond := [Cond.methodLink RL 110 yX10_cost, Cond.instanceMethod yX10_cost, Cond.selects RX10 yX10_cost yX10_cost, Cond.initialized RX10, Cond.code yX10_cost cX10_cost 2 (some .int), Cond.classLink RX10 83 "java/lang/IllegalArgumentException", Cond.initialized "java/lang/IllegalArgumentException", Cond.fieldLink RX10 26 "Phaselock" "edges" "LPhaselock$EdgeLog;", Cond.methodLink RX10 79 yX10_isWithin, Cond.static yX10_isWithin, Cond.code yX10_isWithin cX10_isWithin 3 (some .boolean), Cond.methodLink RX10 201 yX2_sumCosts, Cond.instanceMethod yX2_sumCosts, Cond.selects RX2 yX2_sumCosts yX2_sumCosts, Cond.initialized RX2, Cond.code yX2_sumCosts cX2_sumCosts 4 (some .int), Cond.fieldLink RX2 13 "Phaselock$EdgeLog" "changed" "[Z", Cond.methodLink RX2 17 yX2_findDistance, Cond.static yX2_findDistance, Cond.code yX2_findDistance cX2_findDistance 4 (some .int), Cond.methodLink RX2 21 Lib.Math.min.name, Cond.static Lib.Math.min.name, Cond.initialized "java/lang/Math", Cond.code Lib.Math.min.name Lib.Math.min.code 2 (some .int)]
def wsL_areCostsSo_r2 : List Cond := [Cond.methodLink RL 130 yX10_bestPhase, Cond.instanceMethod yX10_bestPhase, Cond.selects RX10 yX10_bestPhase yX10_bestPhase, Cond.code yX10_bestPhase cX10_bestPhase 5 (some .int)]
def wsL_areCostsSo : List Cond := .code yL_areCostsSo cL_areCostsSo 5 (some .boolean) :: ((wsL_areCostsSo_r1 ++ wsL_areCostsSo_r2) ++ wsX100 ++ wsX20 ++ (vx_atS RX10 87 "java/lang/IllegalArgumentException" ["java/lang/RuntimeException", "java/lang/Exception"]).filter goodWord)
def wsL_law0_r1 : List Cond := [Cond.classLink RL 9 RX10, Cond.instantiable RX10 10, Cond.initialized RX10, Cond.constant RL 25 (-99999), Cond.methodLink RL 133 yX10_init, Cond.instanceMethod yX10_init, Cond.code yX10_init cX10_init 1 none, Cond.methodLink RX10 1 objectInit, Cond.instanceMethod objectInit, Cond.code objectInit ⟨#[0xb1]⟩ 1 none, Cond.classLink RX10 7 RX9, Cond.instantiable RX9 7, Cond.initialized RX9, Cond.fieldLink RX10 10 "Phaselock" "transmitter" "LPhaselock$Transmitter;", Cond.classLink RX10 16 RX3, Cond.instantiable RX3 1, Cond.initialized RX3, Cond.fieldLink RX10 19 "Phaselock" "memory" "LPhaselock$LineMemory;", Cond.classLink RX10 23 RX2, Cond.instantiable RX2 2, Cond.initialized RX2, Cond.fieldLink RX10 26 "Phaselock" "edges" "LPhaselock$EdgeLog;", Cond.classLink RX10 30 RX5, Cond.instantiable RX5 1]
def wsL_law0_r2 : List Cond := [Cond.initialized RX5, Cond.fieldLink RX10 33 "Phaselock" "oscillator" "LPhaselock$Oscillator;", Cond.classLink RX10 37 RX6, Cond.instantiable RX6 7, Cond.initialized RX6, Cond.fieldLink RX10 40 "Phaselock" "detector" "LPhaselock$PhaseDetector;", Cond.classLink RX10 44 RX4, Cond.instantiable RX4 5, Cond.initialized RX4, Cond.fieldLink RX10 47 "Phaselock" "filter" "LPhaselock$LoopFilter;", Cond.classLink RX10 51 RX1, Cond.instantiable RX1 2, Cond.initialized RX1, Cond.fieldLink RX10 54 "Phaselock" "bits" "LPhaselock$BitLog;", Cond.classLink RX10 58 RX8, Cond.instantiable RX8 4, Cond.initialized RX8, Cond.fieldLink RX10 61 "Phaselock" "slips" "LPhaselock$SlipCounter;", Cond.classLink RX10 65 RX7, Cond.instantiable RX7 4, Cond.initialized RX7, Cond.fieldLink RX10 68 "Phaselock" "phases" "LPhaselock$PhaseLog;", Cond.classLink RX10 72 RX0, Cond.instantiable RX0 6]
def wsL_law0_r3 : List Cond := [Cond.initialized RX0, Cond.fieldLink RX10 75 "Phaselock" "aligner" "LPhaselock$Aligner;", Cond.instanceMethod yX9_init, Cond.code yX9_init cX9_init 1 none, Cond.methodLink RX9 3 objectInit, Cond.fieldLink RX9 9 "Phaselock$Transmitter" "phase" "I", Cond.fieldLink RX9 15 "Phaselock$Transmitter" "step" "I", Cond.fieldLink RX9 18 "Phaselock$Transmitter" "jitter" "I", Cond.fieldLink RX9 21 "Phaselock$Transmitter" "randomState" "J", Cond.fieldLink RX9 25 "Phaselock$Transmitter" "number" "I", Cond.fieldLink RX9 28 "Phaselock$Transmitter" "value" "I", Cond.fieldLink RX9 31 "Phaselock$Transmitter" "register" "I", Cond.instanceMethod yX3_init, Cond.code yX3_init cX3_init 1 none, Cond.methodLink RX3 1 objectInit, Cond.constant RX3 7 (65535), Cond.fieldLink RX3 8 "Phaselock$LineMemory" "values" "I", Cond.instanceMethod yX2_init, Cond.code yX2_init cX2_init 1 none, Cond.methodLink RX2 1 objectInit, Cond.fieldLink RX2 7 "Phaselock$EdgeLog" "ticks" "I", Cond.arrayClass .boolean, Cond.fieldLink RX2 13 "Phaselock$EdgeLog" "changed" "[Z", Cond.instanceMethod yX5_init]
def wsL_law0_r4 : List Cond := [Cond.code yX5_init cX5_init 1 none, Cond.methodLink RX5 3 objectInit, Cond.fieldLink RX5 9 "Phaselock$Oscillator" "phase" "I", Cond.instanceMethod yX6_init, Cond.code yX6_init cX6_init 1 none, Cond.methodLink RX6 3 objectInit, Cond.fieldLink RX6 9 "Phaselock$PhaseDetector" "kind" "I", Cond.fieldLink RX6 15 "Phaselock$PhaseDetector" "edgeError" "I", Cond.fieldLink RX6 18 "Phaselock$PhaseDetector" "product" "I", Cond.fieldLink RX6 21 "Phaselock$PhaseDetector" "earlyValue" "I", Cond.fieldLink RX6 24 "Phaselock$PhaseDetector" "middleValue" "I", Cond.fieldLink RX6 27 "Phaselock$PhaseDetector" "middleLevel" "I", Cond.fieldLink RX6 30 "Phaselock$PhaseDetector" "dataLevel" "I", Cond.instanceMethod yX4_init, Cond.code yX4_init cX4_init 1 none, Cond.methodLink RX4 1 objectInit, Cond.fieldLink RX4 7 "Phaselock$LoopFilter" "proportionalGain" "I", Cond.fieldLink RX4 13 "Phaselock$LoopFilter" "integralGain" "I", Cond.fieldLink RX4 16 "Phaselock$LoopFilter" "error" "I", Cond.fieldLink RX4 19 "Phaselock$LoopFilter" "integral" "I", Cond.fieldLink RX4 22 "Phaselock$LoopFilter" "control" "I", Cond.instanceMethod yX1_init, Cond.code yX1_init cX1_init 1 none, Cond.methodLink RX1 3 objectInit]
def wsL_law0_r5 : List Cond := [Cond.fieldLink RX1 9 "Phaselock$BitLog" "count" "I", Cond.fieldLink RX1 15 "Phaselock$BitLog" "latest32" "I", Cond.instanceMethod yX8_init, Cond.code yX8_init cX8_init 1 none, Cond.methodLink RX8 1 objectInit, Cond.fieldLink RX8 7 "Phaselock$SlipCounter" "repeated" "I", Cond.fieldLink RX8 13 "Phaselock$SlipCounter" "skipped" "I", Cond.fieldLink RX8 16 "Phaselock$SlipCounter" "hasStrobed" "Z", Cond.fieldLink RX8 20 "Phaselock$SlipCounter" "numberBefore" "I", Cond.instanceMethod yX7_init, Cond.code yX7_init cX7_init 1 none, Cond.methodLink RX7 3 objectInit, Cond.fieldLink RX7 9 "Phaselock$PhaseLog" "count" "I", Cond.fieldLink RX7 15 "Phaselock$PhaseLog" "latest" "I", Cond.fieldLink RX7 18 "Phaselock$PhaseLog" "steadyCount" "I", Cond.arrayClass .int, Cond.fieldLink RX7 21 "Phaselock$PhaseLog" "window" "[I", Cond.instanceMethod yX0_init, Cond.code yX0_init cX0_init 1 none, Cond.methodLink RX0 3 objectInit, Cond.fieldLink RX0 11 "Phaselock$Aligner" "state" "I", Cond.fieldLink RX0 15 "Phaselock$Aligner" "frames" "I", Cond.fieldLink RX0 18 "Phaselock$Aligner" "losses" "I", Cond.fieldLink RX0 21 "Phaselock$Aligner" "position" "I"]
def wsL_law0_r6 : List Cond := [Cond.fieldLink RX0 24 "Phaselock$Aligner" "matches" "I", Cond.fieldLink RX0 27 "Phaselock$Aligner" "misses" "I", Cond.methodLink RL 134 yL_cell, Cond.static yL_cell, Cond.initialized RL, Cond.code yL_cell cL_cell 2 (some .int), Cond.methodLink RL 138 yL_act, Cond.static yL_act, Cond.code yL_act cL_act 4 (some .int), Cond.constant RL 7 (2147483647), Cond.constant RL 60 (80000), Cond.constant RL 61 (65536), Cond.methodLink RL 44 yL_low, Cond.static yL_low, Cond.code yL_low cL_low 2 (some .int), Cond.methodLink RL 50 yL_does, Cond.static yL_does, Cond.codeWith yL_does cL_does 4 (some .int) [(0, 43, 44, 23)], Cond.classLink RL 23 "java/lang/IllegalArgumentException", Cond.methodLink RL 8 yX10_setOffset, Cond.instanceMethod yX10_setOffset, Cond.selects RX10 yX10_setOffset yX10_setOffset, Cond.code yX10_setOffset cX10_setOffset 2 (some .int), Cond.classLink RX10 83 "java/lang/IllegalArgumentException"]
def wsL_law0_r7 : List Cond := [Cond.initialized "java/lang/IllegalArgumentException", Cond.fieldLink RX10 90 "Phaselock$Transmitter" "step" "I", Cond.methodLink RX10 79 yX10_isWithin, Cond.static yX10_isWithin, Cond.code yX10_isWithin cX10_isWithin 3 (some .boolean), Cond.methodLink RL 14 yX10_setDetector, Cond.instanceMethod yX10_setDetector, Cond.selects RX10 yX10_setDetector yX10_setDetector, Cond.code yX10_setDetector cX10_setDetector 3 (some .int), Cond.fieldLink RX10 107 "Phaselock$PhaseDetector" "kind" "I", Cond.methodLink RL 17 yX10_setPhase, Cond.instanceMethod yX10_setPhase, Cond.selects RX10 yX10_setPhase yX10_setPhase, Cond.code yX10_setPhase cX10_setPhase 3 (some .int), Cond.constant RX10 120 (65535), Cond.fieldLink RX10 123 "Phaselock$Oscillator" "phase" "I", Cond.methodLink RL 20 yX10_run, Cond.instanceMethod yX10_run, Cond.selects RX10 yX10_run yX10_run, Cond.code yX10_run cX10_run 4 (some .int), Cond.fieldLink RX10 134 "Phaselock$BitLog" "count" "I", Cond.methodLink RX10 137 yX10_passTick, Cond.instanceMethod yX10_passTick, Cond.selects RX10 yX10_passTick yX10_passTick]
def wsL_law0_r8 : List Cond := [Cond.code yX10_passTick cX10_passTick 1 none, Cond.fieldLink RX10 146 "Phaselock$Transmitter" "value" "I", Cond.fieldLink RX10 129 "Phaselock$LoopFilter" "control" "I", Cond.methodLink RX10 206 yX9_advance, Cond.instanceMethod yX9_advance, Cond.selects RX9 yX9_advance yX9_advance, Cond.code yX9_advance cX9_advance 1 none, Cond.constant RX9 38 (65536), Cond.methodLink RX9 34 yX9_drawDeviation, Cond.instanceMethod yX9_drawDeviation, Cond.selects RX9 yX9_drawDeviation yX9_drawDeviation, Cond.code yX9_drawDeviation cX9_drawDeviation 2 (some .int), Cond.constantLong RX9 42 (1103515245), Cond.constantLong RX9 44 (12345), Cond.constantLong RX9 46 (2147483648), Cond.constantLong RX9 48 (65536), Cond.methodLink RX9 39 yX9_sendNextBit, Cond.instanceMethod yX9_sendNextBit, Cond.selects RX9 yX9_sendNextBit yX9_sendNextBit, Cond.code yX9_sendNextBit cX9_sendNextBit 2 none, Cond.methodLink RX9 50 yX9_shiftRegister, Cond.instanceMethod yX9_shiftRegister, Cond.selects RX9 yX9_shiftRegister yX9_shiftRegister, Cond.code yX9_shiftRegister cX9_shiftRegister 3 (some .int)]
def wsL_law0_r9 : List Cond := [Cond.methodLink RX10 209 yX3_remember, Cond.instanceMethod yX3_remember, Cond.selects RX3 yX3_remember yX3_remember, Cond.code yX3_remember cX3_remember 2 none, Cond.methodLink RX10 213 yX3_hasChangedSince, Cond.instanceMethod yX3_hasChangedSince, Cond.selects RX3 yX3_hasChangedSince yX3_hasChangedSince, Cond.code yX3_hasChangedSince cX3_hasChangedSince 2 (some .boolean), Cond.methodLink RX10 216 yX2_add, Cond.instanceMethod yX2_add, Cond.selects RX2 yX2_add yX2_add, Cond.code yX2_add cX2_add 2 none, Cond.methodLink RX10 220 yX6_watchLine, Cond.instanceMethod yX6_watchLine, Cond.selects RX6 yX6_watchLine yX6_watchLine, Cond.code yX6_watchLine cX6_watchLine 3 none, Cond.constant RX6 39 (32768), Cond.constant RX6 40 (49151), Cond.methodLink RX6 33 yX3_hasChangedSince, Cond.methodLink RX10 224 yX5_advance, Cond.instanceMethod yX5_advance, Cond.selects RX5 yX5_advance yX5_advance, Cond.code yX5_advance cX5_advance 3 (some .int), Cond.constant RX5 15 (65536)]
def wsL_law0_r10 : List Cond := [Cond.constant RX5 16 (49152), Cond.constant RX5 21 (32768), Cond.methodLink RX5 17 yX5_hasPassed, Cond.instanceMethod yX5_hasPassed, Cond.selects RX5 yX5_hasPassed yX5_hasPassed, Cond.code yX5_hasPassed cX5_hasPassed 3 (some .boolean), Cond.methodLink RX10 226 yX10_actOnStrobe, Cond.instanceMethod yX10_actOnStrobe, Cond.selects RX10 yX10_actOnStrobe yX10_actOnStrobe, Cond.code yX10_actOnStrobe cX10_actOnStrobe 2 none, Cond.methodLink RX10 149 yX3_findLevel, Cond.instanceMethod yX3_findLevel, Cond.selects RX3 yX3_findLevel yX3_findLevel, Cond.code yX3_findLevel cX3_findLevel 1 (some .int), Cond.methodLink RX3 14 yJ6_bitCount_0f7a4, Cond.static yJ6_bitCount_0f7a4, Cond.initialized RJ6, Cond.code yJ6_bitCount_0f7a4 cJ6_bitCount_0f7a4 1 (some .int), Cond.constant RJ6 265 (1431655765), Cond.constant RJ6 266 (858993459), Cond.constant RJ6 267 (252645135), Cond.methodLink RX10 229 yX6_measureLate, Cond.instanceMethod yX6_measureLate, Cond.selects RX6 yX6_measureLate yX6_measureLate]
def wsL_law0_r11 : List Cond := [Cond.code yX6_measureLate cX6_measureLate 2 (some .int), Cond.methodLink RX6 45 Lib.Math.abs.name, Cond.static Lib.Math.abs.name, Cond.initialized "java/lang/Math", Cond.code Lib.Math.abs.name Lib.Math.abs.code 1 (some .int), Cond.methodLink RX10 232 yX4_takeError, Cond.instanceMethod yX4_takeError, Cond.selects RX4 yX4_takeError yX4_takeError, Cond.code yX4_takeError cX4_takeError 2 none, Cond.constant RX4 25 (262144), Cond.methodLink RX4 26 yX4_keepWithin, Cond.static yX4_keepWithin, Cond.code yX4_keepWithin cX4_keepWithin 2 (some .int), Cond.methodLink RX4 35 Lib.Math.min.name, Cond.static Lib.Math.min.name, Cond.code Lib.Math.min.name Lib.Math.min.code 2 (some .int), Cond.methodLink RX4 38 Lib.Math.max.name, Cond.static Lib.Math.max.name, Cond.code Lib.Math.max.name Lib.Math.max.code 2 (some .int), Cond.methodLink RX4 30 yJ9_floorDiv_7cf53, Cond.static yJ9_floorDiv_7cf53, Cond.initialized RJ9, Cond.code yJ9_floorDiv_7cf53 cJ9_floorDiv_7cf53 3 (some .int), Cond.methodLink RX10 235 yX6_keepMiddle]
def wsL_law0_r12 : List Cond := [Cond.instanceMethod yX6_keepMiddle, Cond.selects RX6 yX6_keepMiddle yX6_keepMiddle, Cond.code yX6_keepMiddle cX6_keepMiddle 3 none, Cond.methodLink RX10 239 yX6_keepEarly, Cond.instanceMethod yX6_keepEarly, Cond.selects RX6 yX6_keepEarly yX6_keepEarly, Cond.code yX6_keepEarly cX6_keepEarly 2 none, Cond.methodLink RX10 242 yX10_actOnDataStrobe, Cond.instanceMethod yX10_actOnDataStrobe, Cond.selects RX10 yX10_actOnDataStrobe yX10_actOnDataStrobe, Cond.code yX10_actOnDataStrobe cX10_actOnDataStrobe 4 none, Cond.fieldLink RX10 143 "Phaselock$Transmitter" "number" "I", Cond.fieldLink RX10 153 "Phaselock$Transmitter" "phase" "I", Cond.constant RX10 257 (32768), Cond.methodLink RX10 245 yX6_measureAtData, Cond.instanceMethod yX6_measureAtData, Cond.selects RX6 yX6_measureAtData yX6_measureAtData, Cond.code yX6_measureAtData cX6_measureAtData 4 (some .int), Cond.methodLink RX6 51 yX6_measureBangBang, Cond.instanceMethod yX6_measureBangBang, Cond.selects RX6 yX6_measureBangBang yX6_measureBangBang, Cond.code yX6_measureBangBang cX6_measureBangBang 4 (some .int), Cond.fieldLink RX6 55 "Phaselock$BitLog" "count" "I", Cond.methodLink RX6 60 yX1_findBit]
def wsL_law0_r13 : List Cond := [Cond.instanceMethod yX1_findBit, Cond.selects RX1 yX1_findBit yX1_findBit, Cond.code yX1_findBit cX1_findBit 2 (some .int), Cond.methodLink RX10 249 yX6_finishBit, Cond.instanceMethod yX6_finishBit, Cond.selects RX6 yX6_finishBit yX6_finishBit, Cond.code yX6_finishBit cX6_finishBit 2 none, Cond.methodLink RX10 252 yX1_add, Cond.instanceMethod yX1_add, Cond.selects RX1 yX1_add yX1_add, Cond.code yX1_add cX1_add 2 none, Cond.methodLink RX10 254 yX8_compare, Cond.instanceMethod yX8_compare, Cond.selects RX8 yX8_compare yX8_compare, Cond.code yX8_compare cX8_compare 3 (some .boolean), Cond.methodLink RX10 258 yX7_add, Cond.instanceMethod yX7_add, Cond.selects RX7 yX7_add yX7_add, Cond.code yX7_add cX7_add 4 none, Cond.methodLink RX10 261 yX1_endsWithSyncWord, Cond.instanceMethod yX1_endsWithSyncWord, Cond.selects RX1 yX1_endsWithSyncWord yX1_endsWithSyncWord, Cond.code yX1_endsWithSyncWord cX1_endsWithSyncWord 1 (some .boolean), Cond.methodLink RX10 264 yX0_take]
def wsL_law0_r14 : List Cond := [Cond.instanceMethod yX0_take, Cond.selects RX0 yX0_take yX0_take, Cond.code yX0_take cX0_take 2 none, Cond.methodLink RX0 30 yX0_verify, Cond.instanceMethod yX0_verify, Cond.selects RX0 yX0_verify yX0_verify, Cond.code yX0_verify cX0_verify 2 none, Cond.methodLink RX0 34 yX0_watchSync, Cond.instanceMethod yX0_watchSync, Cond.selects RX0 yX0_watchSync yX0_watchSync, Cond.code yX0_watchSync cX0_watchSync 2 none, Cond.methodLink RL 54 yL_jitter, Cond.static yL_jitter, Cond.codeWith yL_jitter cL_jitter 4 (some .int) [(0, 6, 9, 23)], Cond.methodLink RL 26 yX10_setJitter, Cond.instanceMethod yX10_setJitter, Cond.selects RX10 yX10_setJitter yX10_setJitter, Cond.code yX10_setJitter cX10_setJitter 3 none, Cond.fieldLink RX10 98 "Phaselock$Transmitter" "jitter" "I", Cond.fieldLink RX10 101 "Phaselock$Transmitter" "randomState" "J", Cond.methodLink RL 57 yL_gains, Cond.static yL_gains, Cond.codeWith yL_gains cL_gains 4 (some .int) [(0, 6, 9, 23)], Cond.methodLink RL 30 yX10_setGains]
def wsL_law0_r15 : List Cond := [Cond.instanceMethod yX10_setGains, Cond.selects RX10 yX10_setGains yX10_setGains, Cond.code yX10_setGains cX10_setGains 3 none, Cond.fieldLink RX10 114 "Phaselock$LoopFilter" "proportionalGain" "I", Cond.fieldLink RX10 117 "Phaselock$LoopFilter" "integralGain" "I", Cond.methodLink RL 62 yX10_release, Cond.instanceMethod yX10_release, Cond.selects RX10 yX10_release yX10_release, Cond.code yX10_release cX10_release 1 none, Cond.fieldLink RX10 126 "Phaselock$LoopFilter" "integral" "I", Cond.methodLink RL 141 yL_areAlike, Cond.static yL_areAlike, Cond.code yL_areAlike cL_areAlike 4 (some .boolean), Cond.methodLink RL 65 yX10_ticks, Cond.instanceMethod yX10_ticks, Cond.selects RX10 yX10_ticks yX10_ticks, Cond.code yX10_ticks cX10_ticks 1 (some .int), Cond.fieldLink RX10 140 "Phaselock$EdgeLog" "ticks" "I", Cond.methodLink RL 68 yX10_sent, Cond.instanceMethod yX10_sent, Cond.selects RX10 yX10_sent yX10_sent, Cond.code yX10_sent cX10_sent 1 (some .int), Cond.methodLink RL 71 yX10_sender, Cond.instanceMethod yX10_sender]
def wsL_law0_r16 : List Cond := [Cond.selects RX10 yX10_sender yX10_sender, Cond.code yX10_sender cX10_sender 1 (some .int), Cond.methodLink RL 74 yX10_receiver, Cond.instanceMethod yX10_receiver, Cond.selects RX10 yX10_receiver yX10_receiver, Cond.code yX10_receiver cX10_receiver 1 (some .int), Cond.methodLink RL 77 yX10_error, Cond.instanceMethod yX10_error, Cond.selects RX10 yX10_error yX10_error, Cond.code yX10_error cX10_error 1 (some .int), Cond.fieldLink RX10 154 "Phaselock$LoopFilter" "error" "I", Cond.methodLink RL 80 yX10_integral, Cond.instanceMethod yX10_integral, Cond.selects RX10 yX10_integral yX10_integral, Cond.code yX10_integral cX10_integral 1 (some .int), Cond.methodLink RL 83 yX10_control, Cond.instanceMethod yX10_control, Cond.selects RX10 yX10_control yX10_control, Cond.code yX10_control cX10_control 1 (some .int), Cond.methodLink RL 86 yX10_received, Cond.instanceMethod yX10_received, Cond.selects RX10 yX10_received yX10_received, Cond.code yX10_received cX10_received 1 (some .int), Cond.methodLink RL 89 yX10_repeated]
def wsL_law0_r17 : List Cond := [Cond.instanceMethod yX10_repeated, Cond.selects RX10 yX10_repeated yX10_repeated, Cond.code yX10_repeated cX10_repeated 1 (some .int), Cond.fieldLink RX10 179 "Phaselock$SlipCounter" "repeated" "I", Cond.methodLink RL 92 yX10_skipped, Cond.instanceMethod yX10_skipped, Cond.selects RX10 yX10_skipped yX10_skipped, Cond.code yX10_skipped cX10_skipped 1 (some .int), Cond.fieldLink RX10 182 "Phaselock$SlipCounter" "skipped" "I", Cond.methodLink RL 95 yX10_wander, Cond.instanceMethod yX10_wander, Cond.selects RX10 yX10_wander yX10_wander, Cond.code yX10_wander cX10_wander 1 (some .int), Cond.methodLink RX10 189 yX7_sumAbsolutes, Cond.instanceMethod yX7_sumAbsolutes, Cond.selects RX7 yX7_sumAbsolutes yX7_sumAbsolutes, Cond.code yX7_sumAbsolutes cX7_sumAbsolutes 3 (some .int), Cond.methodLink RX7 29 Lib.Math.abs.name, Cond.methodLink RL 98 yX10_alignment, Cond.instanceMethod yX10_alignment, Cond.selects RX10 yX10_alignment yX10_alignment, Cond.code yX10_alignment cX10_alignment 1 (some .int), Cond.fieldLink RX10 192 "Phaselock$Aligner" "state" "I", Cond.methodLink RL 101 yX10_frames]
def wsL_law0_r18 : List Cond := [Cond.instanceMethod yX10_frames, Cond.selects RX10 yX10_frames yX10_frames, Cond.code yX10_frames cX10_frames 1 (some .int), Cond.fieldLink RX10 195 "Phaselock$Aligner" "frames" "I", Cond.methodLink RL 104 yX10_losses, Cond.instanceMethod yX10_losses, Cond.selects RX10 yX10_losses yX10_losses, Cond.code yX10_losses cX10_losses 1 (some .int), Cond.fieldLink RX10 198 "Phaselock$Aligner" "losses" "I", Cond.methodLink RL 107 yL_bit, Cond.static yL_bit, Cond.codeWith yL_bit cL_bit 3 (some .int) [(0, 5, 6, 36)], Cond.classLink RL 36 "java/lang/IndexOutOfBoundsException", Cond.methodLink RL 33 yX10_bit, Cond.instanceMethod yX10_bit, Cond.selects RX10 yX10_bit yX10_bit, Cond.code yX10_bit cX10_bit 2 (some .int), Cond.classLink RX10 161 "java/lang/IndexOutOfBoundsException", Cond.initialized "java/lang/IndexOutOfBoundsException", Cond.methodLink RX10 157 yX1_remembers, Cond.instanceMethod yX1_remembers, Cond.selects RX1 yX1_remembers yX1_remembers, Cond.code yX1_remembers cX1_remembers 2 (some .boolean), Cond.methodLink RX1 18 Lib.Math.min.name]
def wsL_law0_r19 : List Cond := [Cond.methodLink RX10 166 yX1_findBit, Cond.methodLink RL 110 yX10_cost, Cond.instanceMethod yX10_cost, Cond.selects RX10 yX10_cost yX10_cost, Cond.code yX10_cost cX10_cost 2 (some .int), Cond.methodLink RX10 201 yX2_sumCosts, Cond.instanceMethod yX2_sumCosts, Cond.selects RX2 yX2_sumCosts yX2_sumCosts, Cond.code yX2_sumCosts cX2_sumCosts 4 (some .int), Cond.methodLink RX2 17 yX2_findDistance, Cond.static yX2_findDistance, Cond.code yX2_findDistance cX2_findDistance 4 (some .int), Cond.methodLink RX2 21 Lib.Math.min.name, Cond.methodLink RL 113 yL_phase, Cond.static yL_phase, Cond.codeWith yL_phase cL_phase 2 (some .int) [(0, 4, 5, 42)], Cond.classLink RL 42 "java/lang/IllegalStateException", Cond.methodLink RL 38 yX10_phase, Cond.instanceMethod yX10_phase, Cond.selects RX10 yX10_phase yX10_phase, Cond.code yX10_phase cX10_phase 1 (some .int), Cond.classLink RX10 171 "java/lang/IllegalStateException", Cond.initialized "java/lang/IllegalStateException", Cond.fieldLink RX10 170 "Phaselock$PhaseLog" "count" "I"]
def wsL_law0_r20 : List Cond := [Cond.fieldLink RX10 176 "Phaselock$PhaseLog" "latest" "I", Cond.methodLink RL 145 yL_isLineSo, Cond.static yL_isLineSo, Cond.code yL_isLineSo cL_isLineSo 2 (some .boolean), Cond.constant RL 122 (-262144), Cond.constant RL 123 (262144), Cond.methodLink RL 116 yX10_line, Cond.instanceMethod yX10_line, Cond.selects RX10 yX10_line yX10_line, Cond.code yX10_line cX10_line 1 (some .int), Cond.methodLink RL 119 yX10_level, Cond.instanceMethod yX10_level, Cond.selects RX10 yX10_level yX10_level, Cond.code yX10_level cX10_level 1 (some .int), Cond.methodLink RL 149 yL_areBitsSo, Cond.static yL_areBitsSo, Cond.code yL_areBitsSo cL_areBitsSo 5 (some .boolean), Cond.constant RL 124 (1048576), Cond.constant RL 129 (524288), Cond.methodLink RL 125 yX10_isLocked, Cond.instanceMethod yX10_isLocked, Cond.selects RX10 yX10_isLocked yX10_isLocked, Cond.code yX10_isLocked cX10_isLocked 1 (some .boolean), Cond.methodLink RX10 185 yX7_isSteady]
def wsL_law0_r21 : List Cond := [Cond.instanceMethod yX7_isSteady, Cond.selects RX7 yX7_isSteady yX7_isSteady, Cond.code yX7_isSteady cX7_isSteady 1 (some .boolean), Cond.methodLink RL 152 yL_areCostsSo, Cond.static yL_areCostsSo, Cond.code yL_areCostsSo cL_areCostsSo 5 (some .boolean), Cond.methodLink RL 130 yX10_bestPhase, Cond.instanceMethod yX10_bestPhase, Cond.selects RX10 yX10_bestPhase yX10_bestPhase, Cond.code yX10_bestPhase cX10_bestPhase 5 (some .int)]
def wsL_law0 : List Cond := (wsL_law0_r1 ++ (wsL_law0_r2 ++ (wsL_law0_r3 ++ (wsL_law0_r4 ++ (wsL_law0_r5 ++ (wsL_law0_r6 ++ (wsL_law0_r7 ++ (wsL_law0_r8 ++ (wsL_law0_r9 ++ (wsL_law0_r10 ++ (wsL_law0_r11 ++ (wsL_law0_r12 ++ (wsL_law0_r13 ++ (wsL_law0_r14 ++ (wsL_law0_r15 ++ (wsL_law0_r16 ++ (wsL_law0_r17 ++ (wsL_law0_r18 ++ (wsL_law0_r19 ++ (wsL_law0_r20 ++ wsL_law0_r21)))))))))))))))))))) ++ wsX100 ++ wsX90 ++ wsX30 ++ wsX20 ++ wsX50 ++ wsX60 ++ wsX40 ++ wsX10 ++ wsX80 ++ wsX70 ++ wsX00 ++ ([] : List Cond)
def wsL_law : List Cond := wsL_law0 ++ (vx_atS RX10 87 "java/lang/IllegalArgumentException" ["java/lang/RuntimeException", "java/lang/Exception"]).filter goodWord ++ (vx_atS RX10 165 "java/lang/IndexOutOfBoundsException" ["java/lang/RuntimeException", "java/lang/Exception"]).filter goodWord ++ (vx_atS RX10 175 "java/lang/IllegalStateException" ["java/lang/RuntimeException", "java/lang/Exception"]).filter goodWord
end
section
theorem mem_r {big : List Cond} (ws : List Cond) (ps : List Nat) (hp : ws = ps.filterMap (fun i => big[i]?)) : ∀ w ∈ ws, w ∈ big := by
  intro w hw
  rw [hp] at hw
  obtain ⟨i, -, hi⟩ := List.mem_filterMap.mp hw
  exact List.mem_of_getElem? hi
theorem mem_ap {big a b : List Cond} (ha : ∀ w ∈ a, w ∈ big) (hb : ∀ w ∈ b, w ∈ big) : ∀ w ∈ a ++ b, w ∈ big := fun w h => (List.mem_append.mp h).elim (ha w) (hb w)
set_option maxRecDepth 20000 in
theorem wl_r1 : ∀ w ∈ wsL_law0_r1, w ∈ lw_tbl := mem_r _ [31, 32, 12, 540, 33, 34, 35, 36, 37, 38, 39, 40, 13, 252, 73, 74, 14, 253, 84, 85, 15, 254, 99, 100] (by decide +kernel)
set_option maxRecDepth 20000 in
theorem wl_r2 : ∀ w ∈ wsL_law0_r2, w ∈ lw_tbl := mem_r _ [16, 255, 110, 111, 17, 256, 139, 140, 18, 257, 166, 167, 19, 258, 181, 182, 20, 259, 202, 203, 21, 260, 224, 225] (by decide +kernel)
set_option maxRecDepth 20000 in
theorem wl_r3 : ∀ w ∈ wsL_law0_r3, w ∈ lw_tbl := mem_r _ [22, 261, 42, 43, 44, 45, 47, 49, 51, 53, 55, 57, 76, 77, 78, 79, 80, 87, 88, 89, 90, 98, 92, 102] (by decide +kernel)
set_option maxRecDepth 20000 in
theorem wl_r4 : ∀ w ∈ wsL_law0_r4, w ∈ lw_tbl := mem_r _ [103, 104, 105, 113, 114, 115, 116, 118, 119, 120, 121, 122, 123, 142, 143, 144, 145, 147, 149, 151, 153, 169, 170, 171] (by decide +kernel)
set_option maxRecDepth 20000 in
theorem wl_r5 : ∀ w ∈ wsL_law0_r5, w ∈ lw_tbl := mem_r _ [172, 175, 184, 185, 186, 187, 189, 191, 192, 205, 206, 207, 208, 210, 212, 223, 213, 227, 228, 229, 230, 232, 234, 236] (by decide +kernel)
set_option maxRecDepth 20000 in
theorem wl_r6 : ∀ w ∈ wsL_law0_r6, w ∈ lw_tbl := mem_r _ [237, 238, 283, 284, 11, 285, 286, 287, 288, 292, 559, 560, 289, 290, 291, 293, 294, 295, 296, 297, 298, 299, 300, 304] (by decide +kernel)
set_option maxRecDepth 20000 in
theorem wl_r7 : ∀ w ∈ wsL_law0_r7, w ∈ lw_tbl := mem_r _ [26, 48, 301, 302, 303, 372, 373, 374, 375, 117, 377, 378, 379, 380, 381, 106, 383, 384, 385, 386, 174, 388, 390, 1] (by decide +kernel)
set_option maxRecDepth 20000 in
theorem wl_r8 : ∀ w ∈ wsL_law0_r8, w ∈ lw_tbl := mem_r _ [391, 56, 154, 392, 393, 394, 395, 404, 396, 398, 2, 399, 400, 401, 402, 403, 405, 407, 3, 408, 409, 411, 4, 412] (by decide +kernel)
set_option maxRecDepth 20000 in
theorem wl_r9 : ∀ w ∈ wsL_law0_r9, w ∈ lw_tbl := mem_r _ [413, 414, 415, 416, 417, 418, 419, 420, 421, 422, 423, 424, 425, 426, 427, 428, 430, 431, 429, 433, 434, 435, 436, 437] (by decide +kernel)
set_option maxRecDepth 20000 in
theorem wl_r10 : ∀ w ∈ wsL_law0_r10, w ∈ lw_tbl := mem_r _ [438, 443, 439, 441, 5, 442, 444, 446, 6, 447, 448, 449, 450, 451, 452, 453, 27, 454, 455, 456, 457, 458, 459, 460] (by decide +kernel)
set_option maxRecDepth 20000 in
theorem wl_r11 : ∀ w ∈ wsL_law0_r11, w ∈ lw_tbl := mem_r _ [461, 462, 463, 28, 464, 465, 466, 467, 468, 469, 470, 471, 472, 473, 474, 475, 476, 477, 478, 479, 480, 28, 481, 482] (by decide +kernel)
set_option maxRecDepth 20000 in
theorem wl_r12 : ∀ w ∈ wsL_law0_r12, w ∈ lw_tbl := mem_r _ [483, 484, 485, 486, 487, 488, 489, 490, 492, 7, 493, 54, 46, 518, 494, 495, 496, 497, 498, 500, 8, 501, 173, 502] (by decide +kernel)
set_option maxRecDepth 20000 in
theorem wl_r13 : ∀ w ∈ wsL_law0_r13, w ∈ lw_tbl := mem_r _ [503, 504, 505, 506, 507, 508, 509, 510, 511, 512, 513, 514, 515, 516, 517, 519, 520, 521, 522, 524, 525, 526, 527, 528] (by decide +kernel)
set_option maxRecDepth 20000 in
theorem wl_r14 : ∀ w ∈ wsL_law0_r14, w ∈ lw_tbl := mem_r _ [529, 530, 531, 532, 534, 9, 535, 536, 538, 10, 539, 541, 542, 543, 544, 545, 546, 547, 50, 52, 550, 551, 552, 553] (by decide +kernel)
set_option maxRecDepth 20000 in
theorem wl_r15 : ∀ w ∈ wsL_law0_r15, w ∈ lw_tbl := mem_r _ [554, 555, 556, 146, 148, 561, 562, 563, 564, 152, 565, 566, 567, 568, 569, 570, 571, 91, 572, 573, 574, 575, 576, 577] (by decide +kernel)
set_option maxRecDepth 20000 in
theorem wl_r16 : ∀ w ∈ wsL_law0_r16, w ∈ lw_tbl := mem_r _ [578, 579, 580, 581, 582, 583, 584, 585, 586, 587, 150, 588, 589, 590, 591, 592, 593, 594, 595, 596, 597, 598, 599, 600] (by decide +kernel)
set_option maxRecDepth 20000 in
theorem wl_r17 : ∀ w ∈ wsL_law0_r17, w ∈ lw_tbl := mem_r _ [601, 602, 603, 188, 604, 605, 606, 607, 190, 608, 609, 610, 611, 612, 613, 614, 615, 616, 617, 618, 619, 620, 231, 621] (by decide +kernel)
set_option maxRecDepth 20000 in
theorem wl_r18 : ∀ w ∈ wsL_law0_r18, w ∈ lw_tbl := mem_r _ [622, 623, 624, 233, 625, 626, 627, 628, 235, 629, 630, 631, 632, 633, 634, 635, 636, 643, 29, 637, 638, 639, 640, 641] (by decide +kernel)
set_option maxRecDepth 20000 in
theorem wl_r19 : ∀ w ∈ wsL_law0_r19, w ∈ lw_tbl := mem_r _ [659, 660, 661, 662, 663, 665, 666, 667, 668, 669, 670, 671, 672, 673, 674, 675, 676, 677, 678, 679, 680, 681, 30, 209] (by decide +kernel)
set_option maxRecDepth 20000 in
theorem wl_r20 : ∀ w ∈ wsL_law0_r20, w ∈ lw_tbl := mem_r _ [211, 697, 698, 699, 708, 709, 700, 701, 702, 703, 704, 705, 706, 707, 710, 711, 712, 713, 722, 714, 715, 716, 717, 718] (by decide +kernel)
set_option maxRecDepth 20000 in
theorem wl_r21 : ∀ w ∈ wsL_law0_r21, w ∈ lw_tbl := mem_r _ [719, 720, 721, 723, 724, 725, 726, 727, 728, 729] (by decide +kernel)
set_option maxRecDepth 20000 in
theorem wl_X0 : ∀ w ∈ wsX00, w ∈ lw_tbl := mem_r _ [239, 241, 243, 245, 247, 249] (by decide +kernel)
set_option maxRecDepth 20000 in
theorem wl_X1 : ∀ w ∈ wsX10, w ∈ lw_tbl := mem_r _ [176, 178] (by decide +kernel)
set_option maxRecDepth 20000 in
theorem wl_X10 : ∀ w ∈ wsX100, w ∈ lw_tbl := mem_r _ [262, 264, 266, 268, 270, 272, 274, 276, 278, 280] (by decide +kernel)
set_option maxRecDepth 20000 in
theorem wl_X2 : ∀ w ∈ wsX20, w ∈ lw_tbl := mem_r _ [93, 95] (by decide +kernel)
set_option maxRecDepth 20000 in
theorem wl_X3 : ∀ w ∈ wsX30, w ∈ lw_tbl := mem_r _ [81] (by decide +kernel)
set_option maxRecDepth 20000 in
theorem wl_X4 : ∀ w ∈ wsX40, w ∈ lw_tbl := mem_r _ [155, 157, 159, 161, 163] (by decide +kernel)
set_option maxRecDepth 20000 in
theorem wl_X5 : ∀ w ∈ wsX50, w ∈ lw_tbl := mem_r _ [107] (by decide +kernel)
set_option maxRecDepth 20000 in
theorem wl_X6 : ∀ w ∈ wsX60, w ∈ lw_tbl := mem_r _ [124, 126, 128, 130, 132, 134, 136] (by decide +kernel)
set_option maxRecDepth 20000 in
theorem wl_X7 : ∀ w ∈ wsX70, w ∈ lw_tbl := mem_r _ [214, 216, 218, 220] (by decide +kernel)
set_option maxRecDepth 20000 in
theorem wl_X8 : ∀ w ∈ wsX80, w ∈ lw_tbl := mem_r _ [193, 195, 197, 199] (by decide +kernel)
set_option maxRecDepth 20000 in
theorem wl_X9 : ∀ w ∈ wsX90, w ∈ lw_tbl := mem_r _ [58, 60, 62, 64, 66, 68, 70] (by decide +kernel)
theorem wsL_law_in0 : ∀ w ∈ wsL_law0, w ∈ lw_tbl := mem_ap (mem_ap (mem_ap (mem_ap (mem_ap (mem_ap (mem_ap (mem_ap (mem_ap (mem_ap (mem_ap (mem_ap (mem_ap (wl_r1) (mem_ap (wl_r2) (mem_ap (wl_r3) (mem_ap (wl_r4) (mem_ap (wl_r5) (mem_ap (wl_r6) (mem_ap (wl_r7) (mem_ap (wl_r8) (mem_ap (wl_r9) (mem_ap (wl_r10) (mem_ap (wl_r11) (mem_ap (wl_r12) (mem_ap (wl_r13) (mem_ap (wl_r14) (mem_ap (wl_r15) (mem_ap (wl_r16) (mem_ap (wl_r17) (mem_ap (wl_r18) (mem_ap (wl_r19) (mem_ap (wl_r20) (wl_r21))))))))))))))))))))) (wl_X10)) (wl_X9)) (wl_X3)) (wl_X2)) (wl_X5)) (wl_X6)) (wl_X4)) (wl_X1)) (wl_X8)) (wl_X7)) (wl_X0)) (fun _ h => nomatch h)
theorem wsL_law_x0 : ∀ w ∈ (vx_atS RX10 87 "java/lang/IllegalArgumentException" ["java/lang/RuntimeException", "java/lang/Exception"]).filter goodWord, w ∈ lw_tbl := by decide +kernel
theorem wsL_law_x1 : ∀ w ∈ (vx_atS RX10 165 "java/lang/IndexOutOfBoundsException" ["java/lang/RuntimeException", "java/lang/Exception"]).filter goodWord, w ∈ lw_tbl := by decide +kernel
theorem wsL_law_x2 : ∀ w ∈ (vx_atS RX10 175 "java/lang/IllegalStateException" ["java/lang/RuntimeException", "java/lang/Exception"]).filter goodWord, w ∈ lw_tbl := by decide +kernel
theorem wsL_law_in : ∀ w ∈ wsL_law, w ∈ lw_tbl := fun w h => (List.mem_append.mp h).elim (fun h => (List.mem_append.mp h).elim (fun h => (List.mem_append.mp h).elim (fun h => wsL_law_in0 w h) (fun h => wsL_law_x0 w h)) (fun h => wsL_law_x1 w h)) (fun h => wsL_law_x2 w h)
theorem inlX0 : ∀ w ∈ wsX00, w ∈ wsL_law := fun _ h => List.mem_append_left _ (List.mem_append_left _ (List.mem_append_left _ (List.mem_append_left _ (List.mem_append_right _ h))))
theorem inX0 : ∀ w ∈ wsX00, w ∈ lw_tbl := fun w h => wsL_law_in w (inlX0 w h)
theorem inlX1 : ∀ w ∈ wsX10, w ∈ wsL_law := fun _ h => List.mem_append_left _ (List.mem_append_left _ (List.mem_append_left _ (List.mem_append_left _ (List.mem_append_left _ (List.mem_append_left _ (List.mem_append_left _ (List.mem_append_right _ h)))))))
theorem inX1 : ∀ w ∈ wsX10, w ∈ lw_tbl := fun w h => wsL_law_in w (inlX1 w h)
theorem inlX2 : ∀ w ∈ wsX20, w ∈ wsL_law := fun _ h => List.mem_append_left _ (List.mem_append_left _ (List.mem_append_left _ (List.mem_append_left _ (List.mem_append_left _ (List.mem_append_left _ (List.mem_append_left _ (List.mem_append_left _ (List.mem_append_left _ (List.mem_append_left _ (List.mem_append_left _ (List.mem_append_right _ h)))))))))))
theorem inX2 : ∀ w ∈ wsX20, w ∈ lw_tbl := fun w h => wsL_law_in w (inlX2 w h)
theorem inlX3 : ∀ w ∈ wsX30, w ∈ wsL_law := fun _ h => List.mem_append_left _ (List.mem_append_left _ (List.mem_append_left _ (List.mem_append_left _ (List.mem_append_left _ (List.mem_append_left _ (List.mem_append_left _ (List.mem_append_left _ (List.mem_append_left _ (List.mem_append_left _ (List.mem_append_left _ (List.mem_append_left _ (List.mem_append_right _ h))))))))))))
theorem inX3 : ∀ w ∈ wsX30, w ∈ lw_tbl := fun w h => wsL_law_in w (inlX3 w h)
theorem inlX4 : ∀ w ∈ wsX40, w ∈ wsL_law := fun _ h => List.mem_append_left _ (List.mem_append_left _ (List.mem_append_left _ (List.mem_append_left _ (List.mem_append_left _ (List.mem_append_left _ (List.mem_append_left _ (List.mem_append_left _ (List.mem_append_right _ h))))))))
theorem inX4 : ∀ w ∈ wsX40, w ∈ lw_tbl := fun w h => wsL_law_in w (inlX4 w h)
theorem inlX5 : ∀ w ∈ wsX50, w ∈ wsL_law := fun _ h => List.mem_append_left _ (List.mem_append_left _ (List.mem_append_left _ (List.mem_append_left _ (List.mem_append_left _ (List.mem_append_left _ (List.mem_append_left _ (List.mem_append_left _ (List.mem_append_left _ (List.mem_append_left _ (List.mem_append_right _ h))))))))))
theorem inX5 : ∀ w ∈ wsX50, w ∈ lw_tbl := fun w h => wsL_law_in w (inlX5 w h)
theorem inlX6 : ∀ w ∈ wsX60, w ∈ wsL_law := fun _ h => List.mem_append_left _ (List.mem_append_left _ (List.mem_append_left _ (List.mem_append_left _ (List.mem_append_left _ (List.mem_append_left _ (List.mem_append_left _ (List.mem_append_left _ (List.mem_append_left _ (List.mem_append_right _ h)))))))))
theorem inX6 : ∀ w ∈ wsX60, w ∈ lw_tbl := fun w h => wsL_law_in w (inlX6 w h)
theorem inlX7 : ∀ w ∈ wsX70, w ∈ wsL_law := fun _ h => List.mem_append_left _ (List.mem_append_left _ (List.mem_append_left _ (List.mem_append_left _ (List.mem_append_left _ (List.mem_append_right _ h)))))
theorem inX7 : ∀ w ∈ wsX70, w ∈ lw_tbl := fun w h => wsL_law_in w (inlX7 w h)
theorem inlX8 : ∀ w ∈ wsX80, w ∈ wsL_law := fun _ h => List.mem_append_left _ (List.mem_append_left _ (List.mem_append_left _ (List.mem_append_left _ (List.mem_append_left _ (List.mem_append_left _ (List.mem_append_right _ h))))))
theorem inX8 : ∀ w ∈ wsX80, w ∈ lw_tbl := fun w h => wsL_law_in w (inlX8 w h)
theorem inlX9 : ∀ w ∈ wsX90, w ∈ wsL_law := fun _ h => List.mem_append_left _ (List.mem_append_left _ (List.mem_append_left _ (List.mem_append_left _ (List.mem_append_left _ (List.mem_append_left _ (List.mem_append_left _ (List.mem_append_left _ (List.mem_append_left _ (List.mem_append_left _ (List.mem_append_left _ (List.mem_append_left _ (List.mem_append_left _ (List.mem_append_right _ h)))))))))))))
theorem inX9 : ∀ w ∈ wsX90, w ∈ lw_tbl := fun w h => wsL_law_in w (inlX9 w h)
theorem inlX10 : ∀ w ∈ wsX100, w ∈ wsL_law := fun _ h => List.mem_append_left _ (List.mem_append_left _ (List.mem_append_left _ (List.mem_append_left _ (List.mem_append_left _ (List.mem_append_left _ (List.mem_append_left _ (List.mem_append_left _ (List.mem_append_left _ (List.mem_append_left _ (List.mem_append_left _ (List.mem_append_left _ (List.mem_append_left _ (List.mem_append_left _ (List.mem_append_right _ h))))))))))))))
theorem inX10 : ∀ w ∈ wsX100, w ∈ lw_tbl := fun w h => wsL_law_in w (inlX10 w h)
theorem inX11 : ∀ w ∈ wsX110, w ∈ lw_tbl := by decide +kernel
theorem inJ6 : ∀ w ∈ wsJ60, w ∈ lw_tbl := by decide +kernel
theorem inJ9 : ∀ w ∈ wsJ90, w ∈ lw_tbl := by decide +kernel
theorem inJ0 : ∀ w ∈ wsJ00, w ∈ lw_tbl := by decide +kernel
end
section
theorem dX0_init_0 : decode cX0_init 0 = .ok (.aload_n 0, 1) := by decide +kernel
theorem dX0_init_1 : decode cX0_init 1 = .ok (.invokespecial 3, 3) := by decide +kernel
theorem dX0_init_4 : decode cX0_init 4 = .ok (.aload_n 0, 1) := by decide +kernel
theorem dX0_init_5 : decode cX0_init 5 = .ok (.iconst 0, 1) := by decide +kernel
theorem dX0_init_6 : decode cX0_init 6 = .ok (.putfield 11, 3) := by decide +kernel
theorem dX0_init_9 : decode cX0_init 9 = .ok (.aload_n 0, 1) := by decide +kernel
theorem dX0_init_10 : decode cX0_init 10 = .ok (.iconst 0, 1) := by decide +kernel
theorem dX0_init_11 : decode cX0_init 11 = .ok (.putfield 15, 3) := by decide +kernel
theorem dX0_init_14 : decode cX0_init 14 = .ok (.aload_n 0, 1) := by decide +kernel
theorem dX0_init_15 : decode cX0_init 15 = .ok (.iconst 0, 1) := by decide +kernel
theorem dX0_init_16 : decode cX0_init 16 = .ok (.putfield 18, 3) := by decide +kernel
theorem dX0_init_19 : decode cX0_init 19 = .ok (.aload_n 0, 1) := by decide +kernel
theorem dX0_init_20 : decode cX0_init 20 = .ok (.iconst 0, 1) := by decide +kernel
theorem dX0_init_21 : decode cX0_init 21 = .ok (.putfield 21, 3) := by decide +kernel
theorem dX0_init_24 : decode cX0_init 24 = .ok (.aload_n 0, 1) := by decide +kernel
theorem dX0_init_25 : decode cX0_init 25 = .ok (.iconst 0, 1) := by decide +kernel
theorem dX0_init_26 : decode cX0_init 26 = .ok (.putfield 24, 3) := by decide +kernel
theorem dX0_init_29 : decode cX0_init 29 = .ok (.aload_n 0, 1) := by decide +kernel
theorem dX0_init_30 : decode cX0_init 30 = .ok (.iconst 0, 1) := by decide +kernel
theorem dX0_init_31 : decode cX0_init 31 = .ok (.putfield 27, 3) := by decide +kernel
theorem dX0_init_34 : decode cX0_init 34 = .ok (.return_, 1) := by decide +kernel
theorem dX1_init_0 : decode cX1_init 0 = .ok (.aload_n 0, 1) := by decide +kernel
theorem dX1_init_1 : decode cX1_init 1 = .ok (.invokespecial 3, 3) := by decide +kernel
theorem dX1_init_4 : decode cX1_init 4 = .ok (.aload_n 0, 1) := by decide +kernel
theorem dX1_init_5 : decode cX1_init 5 = .ok (.iconst 0, 1) := by decide +kernel
theorem dX1_init_6 : decode cX1_init 6 = .ok (.putfield 9, 3) := by decide +kernel
theorem dX1_init_9 : decode cX1_init 9 = .ok (.aload_n 0, 1) := by decide +kernel
theorem dX1_init_10 : decode cX1_init 10 = .ok (.iconst 0, 1) := by decide +kernel
theorem dX1_init_11 : decode cX1_init 11 = .ok (.putfield 15, 3) := by decide +kernel
theorem dX1_init_14 : decode cX1_init 14 = .ok (.return_, 1) := by decide +kernel
set_option maxRecDepth 20000 in
theorem ggX1_remembers_X10_isWithin : GoodIn wsX1_remembers wsX10_isWithin := goodIn_r _ [8] (by decide +kernel) (by decide +kernel)
set_option maxRecDepth 20000 in
theorem gX1_remembers_X10_isWithin_n24 : GoodIn wsX1_remembers (wsX10_isWithin) := ggX1_remembers_X10_isWithin
theorem dX1_remembers_0 : decode cX1_remembers 0 = .ok (.iload_n 1, 1) := by decide +kernel
theorem dX1_remembers_1 : decode cX1_remembers 1 = .ok (.iconst 1, 1) := by decide +kernel
theorem dX1_remembers_2 : decode cX1_remembers 2 = .ok (.bipush 32, 2) := by decide +kernel
theorem dX1_remembers_4 : decode cX1_remembers 4 = .ok (.aload_n 0, 1) := by decide +kernel
theorem dX1_remembers_5 : decode cX1_remembers 5 = .ok (.getfield 9, 3) := by decide +kernel
theorem dX1_remembers_8 : decode cX1_remembers 8 = .ok (.invokestatic 18, 3) := by decide +kernel
theorem dX1_remembers_11 : decode cX1_remembers 11 = .ok (.invokestatic 24, 3) := by decide +kernel
theorem dX1_remembers_14 : decode cX1_remembers 14 = .ok (.ireturn, 1) := by decide +kernel
theorem dX1_findBit_0 : decode cX1_findBit 0 = .ok (.aload_n 0, 1) := by decide +kernel
theorem dX1_findBit_1 : decode cX1_findBit 1 = .ok (.getfield 15, 3) := by decide +kernel
theorem dX1_findBit_4 : decode cX1_findBit 4 = .ok (.iload_n 1, 1) := by decide +kernel
theorem dX1_findBit_5 : decode cX1_findBit 5 = .ok (.iconst 1, 1) := by decide +kernel
theorem dX1_findBit_6 : decode cX1_findBit 6 = .ok (.isub, 1) := by decide +kernel
theorem dX1_findBit_7 : decode cX1_findBit 7 = .ok (.iushr, 1) := by decide +kernel
theorem dX1_findBit_8 : decode cX1_findBit 8 = .ok (.iconst 1, 1) := by decide +kernel
theorem dX1_findBit_9 : decode cX1_findBit 9 = .ok (.iand, 1) := by decide +kernel
theorem dX1_findBit_10 : decode cX1_findBit 10 = .ok (.ireturn, 1) := by decide +kernel
theorem dX2_init_0 : decode cX2_init 0 = .ok (.aload_n 0, 1) := by decide +kernel
theorem dX2_init_1 : decode cX2_init 1 = .ok (.invokespecial 1, 3) := by decide +kernel
theorem dX2_init_4 : decode cX2_init 4 = .ok (.aload_n 0, 1) := by decide +kernel
theorem dX2_init_5 : decode cX2_init 5 = .ok (.iconst 0, 1) := by decide +kernel
theorem dX2_init_6 : decode cX2_init 6 = .ok (.putfield 7, 3) := by decide +kernel
theorem dX2_init_9 : decode cX2_init 9 = .ok (.aload_n 0, 1) := by decide +kernel
theorem dX2_init_10 : decode cX2_init 10 = .ok (.sipush 256, 3) := by decide +kernel
theorem dX2_init_13 : decode cX2_init 13 = .ok (.newarray .boolean, 2) := by decide +kernel
theorem dX2_init_15 : decode cX2_init 15 = .ok (.putfield 13, 3) := by decide +kernel
theorem dX2_init_18 : decode cX2_init 18 = .ok (.return_, 1) := by decide +kernel
set_option maxRecDepth 20000 in
theorem ggX2_sumCosts_X2_findDistance : GoodIn wsX2_sumCosts wsX2_findDistance := goodIn_r _ [5, 6, 7, 8, 9] (by decide +kernel) (by decide +kernel)
set_option maxRecDepth 20000 in
theorem gX2_sumCosts_X2_findDistance : GoodIn wsX2_sumCosts (va_wsS RX2 17 yX2_findDistance wsX2_findDistance) := goodIn_app (goodIn_of _ (by decide +kernel)) ggX2_sumCosts_X2_findDistance
theorem dX2_sumCosts_0 : decode cX2_sumCosts 0 = .ok (.iconst 0, 1) := by decide +kernel
theorem dX2_sumCosts_1 : decode cX2_sumCosts 1 = .ok (.istore_n 2, 1) := by decide +kernel
theorem dX2_sumCosts_2 : decode cX2_sumCosts 2 = .ok (.iconst 0, 1) := by decide +kernel
theorem dX2_sumCosts_3 : decode cX2_sumCosts 3 = .ok (.istore_n 3, 1) := by decide +kernel
theorem dX2_sumCosts_4 : decode cX2_sumCosts 4 = .ok (.iload_n 3, 1) := by decide +kernel
theorem dX2_sumCosts_5 : decode cX2_sumCosts 5 = .ok (.sipush 256, 3) := by decide +kernel
theorem dX2_sumCosts_8 : decode cX2_sumCosts 8 = .ok (.if_icmp .ge 29, 3) := by decide +kernel
theorem dX2_sumCosts_11 : decode cX2_sumCosts 11 = .ok (.aload_n 0, 1) := by decide +kernel
theorem dX2_sumCosts_12 : decode cX2_sumCosts 12 = .ok (.getfield 13, 3) := by decide +kernel
theorem dX2_sumCosts_15 : decode cX2_sumCosts 15 = .ok (.iload_n 3, 1) := by decide +kernel
theorem dX2_sumCosts_16 : decode cX2_sumCosts 16 = .ok (.baload, 1) := by decide +kernel
theorem dX2_sumCosts_17 : decode cX2_sumCosts 17 = .ok (.ifCond .eq 14, 3) := by decide +kernel
theorem dX2_sumCosts_20 : decode cX2_sumCosts 20 = .ok (.iload_n 2, 1) := by decide +kernel
theorem dX2_sumCosts_21 : decode cX2_sumCosts 21 = .ok (.bipush 8, 2) := by decide +kernel
theorem dX2_sumCosts_23 : decode cX2_sumCosts 23 = .ok (.iload_n 1, 1) := by decide +kernel
theorem dX2_sumCosts_24 : decode cX2_sumCosts 24 = .ok (.iload_n 3, 1) := by decide +kernel
theorem dX2_sumCosts_25 : decode cX2_sumCosts 25 = .ok (.invokestatic 17, 3) := by decide +kernel
theorem dX2_sumCosts_28 : decode cX2_sumCosts 28 = .ok (.isub, 1) := by decide +kernel
theorem dX2_sumCosts_29 : decode cX2_sumCosts 29 = .ok (.iadd, 1) := by decide +kernel
theorem dX2_sumCosts_30 : decode cX2_sumCosts 30 = .ok (.istore_n 2, 1) := by decide +kernel
theorem dX2_sumCosts_31 : decode cX2_sumCosts 31 = .ok (.iinc 3 1, 3) := by decide +kernel
theorem dX2_sumCosts_34 : decode cX2_sumCosts 34 = .ok (.goto (-30), 3) := by decide +kernel
theorem dX2_sumCosts_37 : decode cX2_sumCosts 37 = .ok (.iload_n 2, 1) := by decide +kernel
theorem dX2_sumCosts_38 : decode cX2_sumCosts 38 = .ok (.ireturn, 1) := by decide +kernel
theorem dX2_findDistance_0 : decode cX2_findDistance 0 = .ok (.iload_n 0, 1) := by decide +kernel
theorem dX2_findDistance_1 : decode cX2_findDistance 1 = .ok (.iload_n 1, 1) := by decide +kernel
theorem dX2_findDistance_2 : decode cX2_findDistance 2 = .ok (.isub, 1) := by decide +kernel
theorem dX2_findDistance_3 : decode cX2_findDistance 3 = .ok (.bipush 15, 2) := by decide +kernel
theorem dX2_findDistance_5 : decode cX2_findDistance 5 = .ok (.iand, 1) := by decide +kernel
theorem dX2_findDistance_6 : decode cX2_findDistance 6 = .ok (.istore_n 2, 1) := by decide +kernel
theorem dX2_findDistance_7 : decode cX2_findDistance 7 = .ok (.iload_n 1, 1) := by decide +kernel
theorem dX2_findDistance_8 : decode cX2_findDistance 8 = .ok (.iload_n 0, 1) := by decide +kernel
theorem dX2_findDistance_9 : decode cX2_findDistance 9 = .ok (.isub, 1) := by decide +kernel
theorem dX2_findDistance_10 : decode cX2_findDistance 10 = .ok (.bipush 15, 2) := by decide +kernel
theorem dX2_findDistance_12 : decode cX2_findDistance 12 = .ok (.iand, 1) := by decide +kernel
theorem dX2_findDistance_13 : decode cX2_findDistance 13 = .ok (.istore_n 3, 1) := by decide +kernel
theorem dX2_findDistance_14 : decode cX2_findDistance 14 = .ok (.iload_n 2, 1) := by decide +kernel
theorem dX2_findDistance_15 : decode cX2_findDistance 15 = .ok (.iload_n 3, 1) := by decide +kernel
theorem dX2_findDistance_16 : decode cX2_findDistance 16 = .ok (.invokestatic 21, 3) := by decide +kernel
theorem dX2_findDistance_19 : decode cX2_findDistance 19 = .ok (.ireturn, 1) := by decide +kernel
theorem dX3_init_0 : decode cX3_init 0 = .ok (.aload_n 0, 1) := by decide +kernel
theorem dX3_init_1 : decode cX3_init 1 = .ok (.invokespecial 1, 3) := by decide +kernel
theorem dX3_init_4 : decode cX3_init 4 = .ok (.aload_n 0, 1) := by decide +kernel
theorem dX3_init_5 : decode cX3_init 5 = .ok (.ldc 7, 2) := by decide +kernel
theorem dX3_init_7 : decode cX3_init 7 = .ok (.putfield 8, 3) := by decide +kernel
theorem dX3_init_10 : decode cX3_init 10 = .ok (.return_, 1) := by decide +kernel
set_option maxRecDepth 20000 in
theorem ggX3_findLevel_J6_bitCount_0f7a4 : GoodIn wsX3_findLevel wsJ6_bitCount_0f7a4 := goodIn_r _ [5, 6, 7, 8] (by decide +kernel) (by decide +kernel)
set_option maxRecDepth 20000 in
theorem gX3_findLevel_J6_bitCount_0f7a4 : GoodIn wsX3_findLevel (va_wsS RX3 14 yJ6_bitCount_0f7a4 wsJ6_bitCount_0f7a4) := goodIn_app (goodIn_of _ (by decide +kernel)) ggX3_findLevel_J6_bitCount_0f7a4
theorem dX3_findLevel_0 : decode cX3_findLevel 0 = .ok (.iconst 2, 1) := by decide +kernel
theorem dX3_findLevel_1 : decode cX3_findLevel 1 = .ok (.aload_n 0, 1) := by decide +kernel
theorem dX3_findLevel_2 : decode cX3_findLevel 2 = .ok (.getfield 8, 3) := by decide +kernel
theorem dX3_findLevel_5 : decode cX3_findLevel 5 = .ok (.sipush 255, 3) := by decide +kernel
theorem dX3_findLevel_8 : decode cX3_findLevel 8 = .ok (.iand, 1) := by decide +kernel
theorem dX3_findLevel_9 : decode cX3_findLevel 9 = .ok (.invokestatic 14, 3) := by decide +kernel
theorem dX3_findLevel_12 : decode cX3_findLevel 12 = .ok (.imul, 1) := by decide +kernel
theorem dX3_findLevel_13 : decode cX3_findLevel 13 = .ok (.bipush 8, 2) := by decide +kernel
theorem dX3_findLevel_15 : decode cX3_findLevel 15 = .ok (.isub, 1) := by decide +kernel
theorem dX3_findLevel_16 : decode cX3_findLevel 16 = .ok (.ireturn, 1) := by decide +kernel
theorem dX4_init_0 : decode cX4_init 0 = .ok (.aload_n 0, 1) := by decide +kernel
theorem dX4_init_1 : decode cX4_init 1 = .ok (.invokespecial 1, 3) := by decide +kernel
theorem dX4_init_4 : decode cX4_init 4 = .ok (.aload_n 0, 1) := by decide +kernel
theorem dX4_init_5 : decode cX4_init 5 = .ok (.bipush 8, 2) := by decide +kernel
theorem dX4_init_7 : decode cX4_init 7 = .ok (.putfield 7, 3) := by decide +kernel
theorem dX4_init_10 : decode cX4_init 10 = .ok (.aload_n 0, 1) := by decide +kernel
theorem dX4_init_11 : decode cX4_init 11 = .ok (.iconst 1, 1) := by decide +kernel
theorem dX4_init_12 : decode cX4_init 12 = .ok (.putfield 13, 3) := by decide +kernel
theorem dX4_init_15 : decode cX4_init 15 = .ok (.aload_n 0, 1) := by decide +kernel
theorem dX4_init_16 : decode cX4_init 16 = .ok (.iconst 0, 1) := by decide +kernel
theorem dX4_init_17 : decode cX4_init 17 = .ok (.putfield 16, 3) := by decide +kernel
theorem dX4_init_20 : decode cX4_init 20 = .ok (.aload_n 0, 1) := by decide +kernel
theorem dX4_init_21 : decode cX4_init 21 = .ok (.iconst 0, 1) := by decide +kernel
theorem dX4_init_22 : decode cX4_init 22 = .ok (.putfield 19, 3) := by decide +kernel
theorem dX4_init_25 : decode cX4_init 25 = .ok (.aload_n 0, 1) := by decide +kernel
theorem dX4_init_26 : decode cX4_init 26 = .ok (.iconst 0, 1) := by decide +kernel
theorem dX4_init_27 : decode cX4_init 27 = .ok (.putfield 22, 3) := by decide +kernel
theorem dX4_init_30 : decode cX4_init 30 = .ok (.return_, 1) := by decide +kernel
theorem dX5_init_0 : decode cX5_init 0 = .ok (.aload_n 0, 1) := by decide +kernel
theorem dX5_init_1 : decode cX5_init 1 = .ok (.invokespecial 3, 3) := by decide +kernel
theorem dX5_init_4 : decode cX5_init 4 = .ok (.aload_n 0, 1) := by decide +kernel
theorem dX5_init_5 : decode cX5_init 5 = .ok (.iconst 0, 1) := by decide +kernel
theorem dX5_init_6 : decode cX5_init 6 = .ok (.putfield 9, 3) := by decide +kernel
theorem dX5_init_9 : decode cX5_init 9 = .ok (.return_, 1) := by decide +kernel
theorem dX6_init_0 : decode cX6_init 0 = .ok (.aload_n 0, 1) := by decide +kernel
theorem dX6_init_1 : decode cX6_init 1 = .ok (.invokespecial 3, 3) := by decide +kernel
theorem dX6_init_4 : decode cX6_init 4 = .ok (.aload_n 0, 1) := by decide +kernel
theorem dX6_init_5 : decode cX6_init 5 = .ok (.iconst 0, 1) := by decide +kernel
theorem dX6_init_6 : decode cX6_init 6 = .ok (.putfield 9, 3) := by decide +kernel
theorem dX6_init_9 : decode cX6_init 9 = .ok (.aload_n 0, 1) := by decide +kernel
theorem dX6_init_10 : decode cX6_init 10 = .ok (.iconst 0, 1) := by decide +kernel
theorem dX6_init_11 : decode cX6_init 11 = .ok (.putfield 15, 3) := by decide +kernel
theorem dX6_init_14 : decode cX6_init 14 = .ok (.aload_n 0, 1) := by decide +kernel
theorem dX6_init_15 : decode cX6_init 15 = .ok (.iconst 0, 1) := by decide +kernel
theorem dX6_init_16 : decode cX6_init 16 = .ok (.putfield 18, 3) := by decide +kernel
theorem dX6_init_19 : decode cX6_init 19 = .ok (.aload_n 0, 1) := by decide +kernel
theorem dX6_init_20 : decode cX6_init 20 = .ok (.iconst 0, 1) := by decide +kernel
theorem dX6_init_21 : decode cX6_init 21 = .ok (.putfield 21, 3) := by decide +kernel
theorem dX6_init_24 : decode cX6_init 24 = .ok (.aload_n 0, 1) := by decide +kernel
theorem dX6_init_25 : decode cX6_init 25 = .ok (.iconst 0, 1) := by decide +kernel
theorem dX6_init_26 : decode cX6_init 26 = .ok (.putfield 24, 3) := by decide +kernel
theorem dX6_init_29 : decode cX6_init 29 = .ok (.aload_n 0, 1) := by decide +kernel
theorem dX6_init_30 : decode cX6_init 30 = .ok (.iconst 0, 1) := by decide +kernel
theorem dX6_init_31 : decode cX6_init 31 = .ok (.putfield 27, 3) := by decide +kernel
theorem dX6_init_34 : decode cX6_init 34 = .ok (.aload_n 0, 1) := by decide +kernel
theorem dX6_init_35 : decode cX6_init 35 = .ok (.iconst 0, 1) := by decide +kernel
theorem dX6_init_36 : decode cX6_init 36 = .ok (.putfield 30, 3) := by decide +kernel
theorem dX6_init_39 : decode cX6_init 39 = .ok (.return_, 1) := by decide +kernel
theorem dX7_init_0 : decode cX7_init 0 = .ok (.aload_n 0, 1) := by decide +kernel
theorem dX7_init_1 : decode cX7_init 1 = .ok (.invokespecial 3, 3) := by decide +kernel
theorem dX7_init_4 : decode cX7_init 4 = .ok (.aload_n 0, 1) := by decide +kernel
theorem dX7_init_5 : decode cX7_init 5 = .ok (.iconst 0, 1) := by decide +kernel
theorem dX7_init_6 : decode cX7_init 6 = .ok (.putfield 9, 3) := by decide +kernel
theorem dX7_init_9 : decode cX7_init 9 = .ok (.aload_n 0, 1) := by decide +kernel
theorem dX7_init_10 : decode cX7_init 10 = .ok (.iconst 0, 1) := by decide +kernel
theorem dX7_init_11 : decode cX7_init 11 = .ok (.putfield 15, 3) := by decide +kernel
theorem dX7_init_14 : decode cX7_init 14 = .ok (.aload_n 0, 1) := by decide +kernel
theorem dX7_init_15 : decode cX7_init 15 = .ok (.iconst 0, 1) := by decide +kernel
theorem dX7_init_16 : decode cX7_init 16 = .ok (.putfield 18, 3) := by decide +kernel
theorem dX7_init_19 : decode cX7_init 19 = .ok (.aload_n 0, 1) := by decide +kernel
theorem dX7_init_20 : decode cX7_init 20 = .ok (.bipush 32, 2) := by decide +kernel
theorem dX7_init_22 : decode cX7_init 22 = .ok (.newarray .int, 2) := by decide +kernel
theorem dX7_init_24 : decode cX7_init 24 = .ok (.putfield 21, 3) := by decide +kernel
theorem dX7_init_27 : decode cX7_init 27 = .ok (.return_, 1) := by decide +kernel
theorem dX7_isSteady_0 : decode cX7_isSteady 0 = .ok (.aload_n 0, 1) := by decide +kernel
theorem dX7_isSteady_1 : decode cX7_isSteady 1 = .ok (.getfield 18, 3) := by decide +kernel
theorem dX7_isSteady_4 : decode cX7_isSteady 4 = .ok (.bipush 32, 2) := by decide +kernel
theorem dX7_isSteady_6 : decode cX7_isSteady 6 = .ok (.if_icmp .lt 7, 3) := by decide +kernel
theorem dX7_isSteady_9 : decode cX7_isSteady 9 = .ok (.iconst 1, 1) := by decide +kernel
theorem dX7_isSteady_10 : decode cX7_isSteady 10 = .ok (.goto 4, 3) := by decide +kernel
theorem dX7_isSteady_13 : decode cX7_isSteady 13 = .ok (.iconst 0, 1) := by decide +kernel
theorem dX7_isSteady_14 : decode cX7_isSteady 14 = .ok (.ireturn, 1) := by decide +kernel
theorem dX7_sumAbsolutes_0 : decode cX7_sumAbsolutes 0 = .ok (.iconst 0, 1) := by decide +kernel
theorem dX7_sumAbsolutes_1 : decode cX7_sumAbsolutes 1 = .ok (.istore_n 1, 1) := by decide +kernel
theorem dX7_sumAbsolutes_2 : decode cX7_sumAbsolutes 2 = .ok (.iconst 0, 1) := by decide +kernel
theorem dX7_sumAbsolutes_3 : decode cX7_sumAbsolutes 3 = .ok (.istore_n 2, 1) := by decide +kernel
theorem dX7_sumAbsolutes_4 : decode cX7_sumAbsolutes 4 = .ok (.iload_n 2, 1) := by decide +kernel
theorem dX7_sumAbsolutes_5 : decode cX7_sumAbsolutes 5 = .ok (.bipush 32, 2) := by decide +kernel
theorem dX7_sumAbsolutes_7 : decode cX7_sumAbsolutes 7 = .ok (.if_icmp .ge 21, 3) := by decide +kernel
theorem dX7_sumAbsolutes_10 : decode cX7_sumAbsolutes 10 = .ok (.iload_n 1, 1) := by decide +kernel
theorem dX7_sumAbsolutes_11 : decode cX7_sumAbsolutes 11 = .ok (.aload_n 0, 1) := by decide +kernel
theorem dX7_sumAbsolutes_12 : decode cX7_sumAbsolutes 12 = .ok (.getfield 21, 3) := by decide +kernel
theorem dX7_sumAbsolutes_15 : decode cX7_sumAbsolutes 15 = .ok (.iload_n 2, 1) := by decide +kernel
theorem dX7_sumAbsolutes_16 : decode cX7_sumAbsolutes 16 = .ok (.iaload, 1) := by decide +kernel
theorem dX7_sumAbsolutes_17 : decode cX7_sumAbsolutes 17 = .ok (.invokestatic 29, 3) := by decide +kernel
theorem dX7_sumAbsolutes_20 : decode cX7_sumAbsolutes 20 = .ok (.iadd, 1) := by decide +kernel
theorem dX7_sumAbsolutes_21 : decode cX7_sumAbsolutes 21 = .ok (.istore_n 1, 1) := by decide +kernel
theorem dX7_sumAbsolutes_22 : decode cX7_sumAbsolutes 22 = .ok (.iinc 2 1, 3) := by decide +kernel
theorem dX7_sumAbsolutes_25 : decode cX7_sumAbsolutes 25 = .ok (.goto (-21), 3) := by decide +kernel
theorem dX7_sumAbsolutes_28 : decode cX7_sumAbsolutes 28 = .ok (.iload_n 1, 1) := by decide +kernel
theorem dX7_sumAbsolutes_29 : decode cX7_sumAbsolutes 29 = .ok (.ireturn, 1) := by decide +kernel
theorem dX8_init_0 : decode cX8_init 0 = .ok (.aload_n 0, 1) := by decide +kernel
theorem dX8_init_1 : decode cX8_init 1 = .ok (.invokespecial 1, 3) := by decide +kernel
theorem dX8_init_4 : decode cX8_init 4 = .ok (.aload_n 0, 1) := by decide +kernel
theorem dX8_init_5 : decode cX8_init 5 = .ok (.iconst 0, 1) := by decide +kernel
theorem dX8_init_6 : decode cX8_init 6 = .ok (.putfield 7, 3) := by decide +kernel
theorem dX8_init_9 : decode cX8_init 9 = .ok (.aload_n 0, 1) := by decide +kernel
theorem dX8_init_10 : decode cX8_init 10 = .ok (.iconst 0, 1) := by decide +kernel
theorem dX8_init_11 : decode cX8_init 11 = .ok (.putfield 13, 3) := by decide +kernel
theorem dX8_init_14 : decode cX8_init 14 = .ok (.aload_n 0, 1) := by decide +kernel
theorem dX8_init_15 : decode cX8_init 15 = .ok (.iconst 0, 1) := by decide +kernel
theorem dX8_init_16 : decode cX8_init 16 = .ok (.putfield 16, 3) := by decide +kernel
theorem dX8_init_19 : decode cX8_init 19 = .ok (.aload_n 0, 1) := by decide +kernel
theorem dX8_init_20 : decode cX8_init 20 = .ok (.iconst 0, 1) := by decide +kernel
theorem dX8_init_21 : decode cX8_init 21 = .ok (.putfield 20, 3) := by decide +kernel
theorem dX8_init_24 : decode cX8_init 24 = .ok (.return_, 1) := by decide +kernel
theorem dX9_init_0 : decode cX9_init 0 = .ok (.aload_n 0, 1) := by decide +kernel
theorem dX9_init_1 : decode cX9_init 1 = .ok (.invokespecial 3, 3) := by decide +kernel
theorem dX9_init_4 : decode cX9_init 4 = .ok (.aload_n 0, 1) := by decide +kernel
theorem dX9_init_5 : decode cX9_init 5 = .ok (.iconst 0, 1) := by decide +kernel
theorem dX9_init_6 : decode cX9_init 6 = .ok (.putfield 9, 3) := by decide +kernel
theorem dX9_init_9 : decode cX9_init 9 = .ok (.aload_n 0, 1) := by decide +kernel
theorem dX9_init_10 : decode cX9_init 10 = .ok (.sipush 4096, 3) := by decide +kernel
theorem dX9_init_13 : decode cX9_init 13 = .ok (.putfield 15, 3) := by decide +kernel
theorem dX9_init_16 : decode cX9_init 16 = .ok (.aload_n 0, 1) := by decide +kernel
theorem dX9_init_17 : decode cX9_init 17 = .ok (.iconst 0, 1) := by decide +kernel
theorem dX9_init_18 : decode cX9_init 18 = .ok (.putfield 18, 3) := by decide +kernel
theorem dX9_init_21 : decode cX9_init 21 = .ok (.aload_n 0, 1) := by decide +kernel
theorem dX9_init_22 : decode cX9_init 22 = .ok (.lconst 1, 1) := by decide +kernel
theorem dX9_init_23 : decode cX9_init 23 = .ok (.putfield 21, 3) := by decide +kernel
theorem dX9_init_26 : decode cX9_init 26 = .ok (.aload_n 0, 1) := by decide +kernel
theorem dX9_init_27 : decode cX9_init 27 = .ok (.iconst 0, 1) := by decide +kernel
theorem dX9_init_28 : decode cX9_init 28 = .ok (.putfield 25, 3) := by decide +kernel
theorem dX9_init_31 : decode cX9_init 31 = .ok (.aload_n 0, 1) := by decide +kernel
theorem dX9_init_32 : decode cX9_init 32 = .ok (.iconst 1, 1) := by decide +kernel
theorem dX9_init_33 : decode cX9_init 33 = .ok (.putfield 28, 3) := by decide +kernel
theorem dX9_init_36 : decode cX9_init 36 = .ok (.aload_n 0, 1) := by decide +kernel
theorem dX9_init_37 : decode cX9_init 37 = .ok (.bipush 127, 2) := by decide +kernel
theorem dX9_init_39 : decode cX9_init 39 = .ok (.putfield 31, 3) := by decide +kernel
theorem dX9_init_42 : decode cX9_init 42 = .ok (.return_, 1) := by decide +kernel
set_option maxRecDepth 20000 in
theorem ggX10_init_X9_init : GoodIn wsX10_init wsX9_init := goodIn_r _ [45, 46, 2, 3, 47, 48, 49, 50, 51, 52, 53, 116, 117, 118, 119, 120, 121, 122] (by decide +kernel) (by decide +kernel)
set_option maxRecDepth 20000 in
theorem gX10_init_X9_init_n9 : GoodIn wsX10_init (wsX9_init) := ggX10_init_X9_init
set_option maxRecDepth 20000 in
theorem ggX10_init_X3_init : GoodIn wsX10_init wsX3_init := goodIn_r _ [55, 56, 2, 3, 57, 58, 133] (by decide +kernel) (by decide +kernel)
set_option maxRecDepth 20000 in
theorem gX10_init_X3_init_n18 : GoodIn wsX10_init (wsX3_init) := ggX10_init_X3_init
set_option maxRecDepth 20000 in
theorem ggX10_init_X2_init : GoodIn wsX10_init wsX2_init := goodIn_r _ [60, 61, 2, 3, 62, 63, 64, 134, 135] (by decide +kernel) (by decide +kernel)
set_option maxRecDepth 20000 in
theorem gX10_init_X2_init_n25 : GoodIn wsX10_init (wsX2_init) := ggX10_init_X2_init
set_option maxRecDepth 20000 in
theorem ggX10_init_X5_init : GoodIn wsX10_init wsX5_init := goodIn_r _ [66, 67, 2, 3, 68, 136] (by decide +kernel) (by decide +kernel)
set_option maxRecDepth 20000 in
theorem gX10_init_X5_init_n32 : GoodIn wsX10_init (wsX5_init) := ggX10_init_X5_init
set_option maxRecDepth 20000 in
theorem ggX10_init_X6_init : GoodIn wsX10_init wsX6_init := goodIn_r _ [70, 71, 2, 3, 72, 73, 74, 75, 76, 77, 78, 137, 138, 139, 140, 141, 142, 143] (by decide +kernel) (by decide +kernel)
set_option maxRecDepth 20000 in
theorem gX10_init_X6_init_n39 : GoodIn wsX10_init (wsX6_init) := ggX10_init_X6_init
set_option maxRecDepth 20000 in
theorem ggX10_init_X4_init : GoodIn wsX10_init wsX4_init := goodIn_r _ [80, 81, 2, 3, 82, 83, 84, 85, 86, 144, 145, 146, 147, 148] (by decide +kernel) (by decide +kernel)
set_option maxRecDepth 20000 in
theorem gX10_init_X4_init_n46 : GoodIn wsX10_init (wsX4_init) := ggX10_init_X4_init
set_option maxRecDepth 20000 in
theorem ggX10_init_X1_init : GoodIn wsX10_init wsX1_init := goodIn_r _ [88, 89, 2, 3, 90, 91, 149, 150] (by decide +kernel) (by decide +kernel)
set_option maxRecDepth 20000 in
theorem gX10_init_X1_init_n53 : GoodIn wsX10_init (wsX1_init) := ggX10_init_X1_init
set_option maxRecDepth 20000 in
theorem ggX10_init_X8_init : GoodIn wsX10_init wsX8_init := goodIn_r _ [93, 94, 2, 3, 95, 96, 97, 98, 151, 152, 153, 154] (by decide +kernel) (by decide +kernel)
set_option maxRecDepth 20000 in
theorem gX10_init_X8_init_n60 : GoodIn wsX10_init (wsX8_init) := ggX10_init_X8_init
set_option maxRecDepth 20000 in
theorem ggX10_init_X7_init : GoodIn wsX10_init wsX7_init := goodIn_r _ [100, 101, 2, 3, 102, 103, 104, 105, 106, 155, 156, 157, 158] (by decide +kernel) (by decide +kernel)
set_option maxRecDepth 20000 in
theorem gX10_init_X7_init_n67 : GoodIn wsX10_init (wsX7_init) := ggX10_init_X7_init
set_option maxRecDepth 20000 in
theorem ggX10_init_X0_init : GoodIn wsX10_init wsX0_init := goodIn_r _ [108, 109, 2, 3, 110, 111, 112, 113, 114, 115, 159, 160, 161, 162, 163, 164] (by decide +kernel) (by decide +kernel)
set_option maxRecDepth 20000 in
theorem gX10_init_X0_init_n74 : GoodIn wsX10_init (wsX0_init) := ggX10_init_X0_init
theorem dX10_init_0 : decode cX10_init 0 = .ok (.aload_n 0, 1) := by decide +kernel
theorem dX10_init_1 : decode cX10_init 1 = .ok (.invokespecial 1, 3) := by decide +kernel
theorem dX10_init_4 : decode cX10_init 4 = .ok (.aload_n 0, 1) := by decide +kernel
theorem dX10_init_5 : decode cX10_init 5 = .ok (.new 7, 3) := by decide +kernel
theorem dX10_init_8 : decode cX10_init 8 = .ok (.dup, 1) := by decide +kernel
theorem dX10_init_9 : decode cX10_init 9 = .ok (.invokespecial 9, 3) := by decide +kernel
theorem dX10_init_12 : decode cX10_init 12 = .ok (.putfield 10, 3) := by decide +kernel
theorem dX10_init_15 : decode cX10_init 15 = .ok (.aload_n 0, 1) := by decide +kernel
theorem dX10_init_16 : decode cX10_init 16 = .ok (.new 16, 3) := by decide +kernel
theorem dX10_init_19 : decode cX10_init 19 = .ok (.dup, 1) := by decide +kernel
theorem dX10_init_20 : decode cX10_init 20 = .ok (.invokespecial 18, 3) := by decide +kernel
theorem dX10_init_23 : decode cX10_init 23 = .ok (.putfield 19, 3) := by decide +kernel
theorem dX10_init_26 : decode cX10_init 26 = .ok (.aload_n 0, 1) := by decide +kernel
theorem dX10_init_27 : decode cX10_init 27 = .ok (.new 23, 3) := by decide +kernel
theorem dX10_init_30 : decode cX10_init 30 = .ok (.dup, 1) := by decide +kernel
theorem dX10_init_31 : decode cX10_init 31 = .ok (.invokespecial 25, 3) := by decide +kernel
theorem dX10_init_34 : decode cX10_init 34 = .ok (.putfield 26, 3) := by decide +kernel
theorem dX10_init_37 : decode cX10_init 37 = .ok (.aload_n 0, 1) := by decide +kernel
theorem dX10_init_38 : decode cX10_init 38 = .ok (.new 30, 3) := by decide +kernel
theorem dX10_init_41 : decode cX10_init 41 = .ok (.dup, 1) := by decide +kernel
theorem dX10_init_42 : decode cX10_init 42 = .ok (.invokespecial 32, 3) := by decide +kernel
theorem dX10_init_45 : decode cX10_init 45 = .ok (.putfield 33, 3) := by decide +kernel
theorem dX10_init_48 : decode cX10_init 48 = .ok (.aload_n 0, 1) := by decide +kernel
theorem dX10_init_49 : decode cX10_init 49 = .ok (.new 37, 3) := by decide +kernel
theorem dX10_init_52 : decode cX10_init 52 = .ok (.dup, 1) := by decide +kernel
theorem dX10_init_53 : decode cX10_init 53 = .ok (.invokespecial 39, 3) := by decide +kernel
theorem dX10_init_56 : decode cX10_init 56 = .ok (.putfield 40, 3) := by decide +kernel
theorem dX10_init_59 : decode cX10_init 59 = .ok (.aload_n 0, 1) := by decide +kernel
theorem dX10_init_60 : decode cX10_init 60 = .ok (.new 44, 3) := by decide +kernel
theorem dX10_init_63 : decode cX10_init 63 = .ok (.dup, 1) := by decide +kernel
theorem dX10_init_64 : decode cX10_init 64 = .ok (.invokespecial 46, 3) := by decide +kernel
theorem dX10_init_67 : decode cX10_init 67 = .ok (.putfield 47, 3) := by decide +kernel
theorem dX10_init_70 : decode cX10_init 70 = .ok (.aload_n 0, 1) := by decide +kernel
theorem dX10_init_71 : decode cX10_init 71 = .ok (.new 51, 3) := by decide +kernel
theorem dX10_init_74 : decode cX10_init 74 = .ok (.dup, 1) := by decide +kernel
theorem dX10_init_75 : decode cX10_init 75 = .ok (.invokespecial 53, 3) := by decide +kernel
theorem dX10_init_78 : decode cX10_init 78 = .ok (.putfield 54, 3) := by decide +kernel
theorem dX10_init_81 : decode cX10_init 81 = .ok (.aload_n 0, 1) := by decide +kernel
theorem dX10_init_82 : decode cX10_init 82 = .ok (.new 58, 3) := by decide +kernel
theorem dX10_init_85 : decode cX10_init 85 = .ok (.dup, 1) := by decide +kernel
theorem dX10_init_86 : decode cX10_init 86 = .ok (.invokespecial 60, 3) := by decide +kernel
theorem dX10_init_89 : decode cX10_init 89 = .ok (.putfield 61, 3) := by decide +kernel
theorem dX10_init_92 : decode cX10_init 92 = .ok (.aload_n 0, 1) := by decide +kernel
theorem dX10_init_93 : decode cX10_init 93 = .ok (.new 65, 3) := by decide +kernel
theorem dX10_init_96 : decode cX10_init 96 = .ok (.dup, 1) := by decide +kernel
theorem dX10_init_97 : decode cX10_init 97 = .ok (.invokespecial 67, 3) := by decide +kernel
theorem dX10_init_100 : decode cX10_init 100 = .ok (.putfield 68, 3) := by decide +kernel
theorem dX10_init_103 : decode cX10_init 103 = .ok (.aload_n 0, 1) := by decide +kernel
theorem dX10_init_104 : decode cX10_init 104 = .ok (.new 72, 3) := by decide +kernel
theorem dX10_init_107 : decode cX10_init 107 = .ok (.dup, 1) := by decide +kernel
theorem dX10_init_108 : decode cX10_init 108 = .ok (.invokespecial 74, 3) := by decide +kernel
theorem dX10_init_111 : decode cX10_init 111 = .ok (.putfield 75, 3) := by decide +kernel
theorem dX10_init_114 : decode cX10_init 114 = .ok (.return_, 1) := by decide +kernel
theorem dX10_release_0 : decode cX10_release 0 = .ok (.aload_n 0, 1) := by decide +kernel
theorem dX10_release_1 : decode cX10_release 1 = .ok (.getfield 47, 3) := by decide +kernel
theorem dX10_release_4 : decode cX10_release 4 = .ok (.iconst 0, 1) := by decide +kernel
theorem dX10_release_5 : decode cX10_release 5 = .ok (.putfield 126, 3) := by decide +kernel
theorem dX10_release_8 : decode cX10_release 8 = .ok (.aload_n 0, 1) := by decide +kernel
theorem dX10_release_9 : decode cX10_release 9 = .ok (.getfield 47, 3) := by decide +kernel
theorem dX10_release_12 : decode cX10_release 12 = .ok (.iconst 0, 1) := by decide +kernel
theorem dX10_release_13 : decode cX10_release 13 = .ok (.putfield 129, 3) := by decide +kernel
theorem dX10_release_16 : decode cX10_release 16 = .ok (.return_, 1) := by decide +kernel
theorem dX10_ticks_0 : decode cX10_ticks 0 = .ok (.aload_n 0, 1) := by decide +kernel
theorem dX10_ticks_1 : decode cX10_ticks 1 = .ok (.getfield 26, 3) := by decide +kernel
theorem dX10_ticks_4 : decode cX10_ticks 4 = .ok (.getfield 140, 3) := by decide +kernel
theorem dX10_ticks_7 : decode cX10_ticks 7 = .ok (.ireturn, 1) := by decide +kernel
theorem dX10_sent_0 : decode cX10_sent 0 = .ok (.aload_n 0, 1) := by decide +kernel
theorem dX10_sent_1 : decode cX10_sent 1 = .ok (.getfield 10, 3) := by decide +kernel
theorem dX10_sent_4 : decode cX10_sent 4 = .ok (.getfield 143, 3) := by decide +kernel
theorem dX10_sent_7 : decode cX10_sent 7 = .ok (.ireturn, 1) := by decide +kernel
theorem dX10_line_0 : decode cX10_line 0 = .ok (.aload_n 0, 1) := by decide +kernel
theorem dX10_line_1 : decode cX10_line 1 = .ok (.getfield 10, 3) := by decide +kernel
theorem dX10_line_4 : decode cX10_line 4 = .ok (.getfield 146, 3) := by decide +kernel
theorem dX10_line_7 : decode cX10_line 7 = .ok (.ireturn, 1) := by decide +kernel
set_option maxRecDepth 20000 in
theorem ggX10_level_X3_findLevel : GoodIn wsX10_level wsX3_findLevel := goodIn_r _ [6, 7, 8, 9, 10, 11, 12, 13, 14, 25] (by decide +kernel) (by decide +kernel)
set_option maxRecDepth 20000 in
theorem gX10_level_X3_findLevel : GoodIn wsX10_level (wsV RX10 149 RX3 yX3_findLevel wsX3_findLevel) := goodIn_app (goodIn_of _ (by decide +kernel)) ggX10_level_X3_findLevel
theorem dX10_level_0 : decode cX10_level 0 = .ok (.aload_n 0, 1) := by decide +kernel
theorem dX10_level_1 : decode cX10_level 1 = .ok (.getfield 19, 3) := by decide +kernel
theorem dX10_level_4 : decode cX10_level 4 = .ok (.invokevirtual 149, 3) := by decide +kernel
theorem dX10_level_7 : decode cX10_level 7 = .ok (.ireturn, 1) := by decide +kernel
theorem dX10_sender_0 : decode cX10_sender 0 = .ok (.aload_n 0, 1) := by decide +kernel
theorem dX10_sender_1 : decode cX10_sender 1 = .ok (.getfield 10, 3) := by decide +kernel
theorem dX10_sender_4 : decode cX10_sender 4 = .ok (.getfield 153, 3) := by decide +kernel
theorem dX10_sender_7 : decode cX10_sender 7 = .ok (.ireturn, 1) := by decide +kernel
theorem dX10_receiver_0 : decode cX10_receiver 0 = .ok (.aload_n 0, 1) := by decide +kernel
theorem dX10_receiver_1 : decode cX10_receiver 1 = .ok (.getfield 33, 3) := by decide +kernel
theorem dX10_receiver_4 : decode cX10_receiver 4 = .ok (.getfield 123, 3) := by decide +kernel
theorem dX10_receiver_7 : decode cX10_receiver 7 = .ok (.ireturn, 1) := by decide +kernel
theorem dX10_error_0 : decode cX10_error 0 = .ok (.aload_n 0, 1) := by decide +kernel
theorem dX10_error_1 : decode cX10_error 1 = .ok (.getfield 47, 3) := by decide +kernel
theorem dX10_error_4 : decode cX10_error 4 = .ok (.getfield 154, 3) := by decide +kernel
theorem dX10_error_7 : decode cX10_error 7 = .ok (.ireturn, 1) := by decide +kernel
theorem dX10_integral_0 : decode cX10_integral 0 = .ok (.aload_n 0, 1) := by decide +kernel
theorem dX10_integral_1 : decode cX10_integral 1 = .ok (.getfield 47, 3) := by decide +kernel
theorem dX10_integral_4 : decode cX10_integral 4 = .ok (.getfield 126, 3) := by decide +kernel
theorem dX10_integral_7 : decode cX10_integral 7 = .ok (.ireturn, 1) := by decide +kernel
theorem dX10_control_0 : decode cX10_control 0 = .ok (.aload_n 0, 1) := by decide +kernel
theorem dX10_control_1 : decode cX10_control 1 = .ok (.getfield 47, 3) := by decide +kernel
theorem dX10_control_4 : decode cX10_control 4 = .ok (.getfield 129, 3) := by decide +kernel
theorem dX10_control_7 : decode cX10_control 7 = .ok (.ireturn, 1) := by decide +kernel
theorem dX10_received_0 : decode cX10_received 0 = .ok (.aload_n 0, 1) := by decide +kernel
theorem dX10_received_1 : decode cX10_received 1 = .ok (.getfield 54, 3) := by decide +kernel
theorem dX10_received_4 : decode cX10_received 4 = .ok (.getfield 134, 3) := by decide +kernel
theorem dX10_received_7 : decode cX10_received 7 = .ok (.ireturn, 1) := by decide +kernel
set_option maxRecDepth 20000 in
theorem ggX10_bit_X1_remembers : GoodIn wsX10_bit wsX1_remembers := goodIn_r _ [8, 9, 10, 11, 12, 13, 14, 15, 16, 32, 33] (by decide +kernel) (by decide +kernel)
set_option maxRecDepth 20000 in
theorem gX10_bit_X1_remembers : GoodIn wsX10_bit (wsV RX10 157 RX1 yX1_remembers wsX1_remembers) := goodIn_app (goodIn_of _ (by decide +kernel)) ggX10_bit_X1_remembers
set_option maxRecDepth 20000 in
theorem ggX10_bit_X1_findBit : GoodIn wsX10_bit wsX1_findBit := goodIn_r _ [20, 21, 32, 33] (by decide +kernel) (by decide +kernel)
set_option maxRecDepth 20000 in
theorem gX10_bit_X1_findBit : GoodIn wsX10_bit (wsV RX10 166 RX1 yX1_findBit wsX1_findBit) := goodIn_app (goodIn_of _ (by decide +kernel)) ggX10_bit_X1_findBit
theorem dX10_bit_0 : decode cX10_bit 0 = .ok (.aload_n 0, 1) := by decide +kernel
theorem dX10_bit_1 : decode cX10_bit 1 = .ok (.getfield 54, 3) := by decide +kernel
theorem dX10_bit_4 : decode cX10_bit 4 = .ok (.iload_n 1, 1) := by decide +kernel
theorem dX10_bit_5 : decode cX10_bit 5 = .ok (.invokevirtual 157, 3) := by decide +kernel
theorem dX10_bit_8 : decode cX10_bit 8 = .ok (.ifCond .ne 13, 3) := by decide +kernel
theorem dX10_bit_11 : decode cX10_bit 11 = .ok (.new 161, 3) := by decide +kernel
theorem dX10_bit_14 : decode cX10_bit 14 = .ok (.dup, 1) := by decide +kernel
theorem dX10_bit_15 : decode cX10_bit 15 = .ok (.ldc 163, 2) := by decide +kernel
theorem dX10_bit_17 : decode cX10_bit 17 = .ok (.invokespecial 165, 3) := by decide +kernel
theorem dX10_bit_20 : decode cX10_bit 20 = .ok (.athrow, 1) := by decide +kernel
theorem dX10_bit_21 : decode cX10_bit 21 = .ok (.aload_n 0, 1) := by decide +kernel
theorem dX10_bit_22 : decode cX10_bit 22 = .ok (.getfield 54, 3) := by decide +kernel
theorem dX10_bit_25 : decode cX10_bit 25 = .ok (.iload_n 1, 1) := by decide +kernel
theorem dX10_bit_26 : decode cX10_bit 26 = .ok (.invokevirtual 166, 3) := by decide +kernel
theorem dX10_bit_29 : decode cX10_bit 29 = .ok (.ireturn, 1) := by decide +kernel
theorem dX10_phase_0 : decode cX10_phase 0 = .ok (.aload_n 0, 1) := by decide +kernel
theorem dX10_phase_1 : decode cX10_phase 1 = .ok (.getfield 68, 3) := by decide +kernel
theorem dX10_phase_4 : decode cX10_phase 4 = .ok (.getfield 170, 3) := by decide +kernel
theorem dX10_phase_7 : decode cX10_phase 7 = .ok (.ifCond .ne 13, 3) := by decide +kernel
theorem dX10_phase_10 : decode cX10_phase 10 = .ok (.new 171, 3) := by decide +kernel
theorem dX10_phase_13 : decode cX10_phase 13 = .ok (.dup, 1) := by decide +kernel
theorem dX10_phase_14 : decode cX10_phase 14 = .ok (.ldc 173, 2) := by decide +kernel
theorem dX10_phase_16 : decode cX10_phase 16 = .ok (.invokespecial 175, 3) := by decide +kernel
theorem dX10_phase_19 : decode cX10_phase 19 = .ok (.athrow, 1) := by decide +kernel
theorem dX10_phase_20 : decode cX10_phase 20 = .ok (.aload_n 0, 1) := by decide +kernel
theorem dX10_phase_21 : decode cX10_phase 21 = .ok (.getfield 68, 3) := by decide +kernel
theorem dX10_phase_24 : decode cX10_phase 24 = .ok (.getfield 176, 3) := by decide +kernel
theorem dX10_phase_27 : decode cX10_phase 27 = .ok (.ireturn, 1) := by decide +kernel
theorem dX10_repeated_0 : decode cX10_repeated 0 = .ok (.aload_n 0, 1) := by decide +kernel
theorem dX10_repeated_1 : decode cX10_repeated 1 = .ok (.getfield 61, 3) := by decide +kernel
theorem dX10_repeated_4 : decode cX10_repeated 4 = .ok (.getfield 179, 3) := by decide +kernel
theorem dX10_repeated_7 : decode cX10_repeated 7 = .ok (.ireturn, 1) := by decide +kernel
theorem dX10_skipped_0 : decode cX10_skipped 0 = .ok (.aload_n 0, 1) := by decide +kernel
theorem dX10_skipped_1 : decode cX10_skipped 1 = .ok (.getfield 61, 3) := by decide +kernel
theorem dX10_skipped_4 : decode cX10_skipped 4 = .ok (.getfield 182, 3) := by decide +kernel
theorem dX10_skipped_7 : decode cX10_skipped 7 = .ok (.ireturn, 1) := by decide +kernel
set_option maxRecDepth 20000 in
theorem ggX10_isLocked_X7_isSteady : GoodIn wsX10_isLocked wsX7_isSteady := goodIn_r _ [6, 7, 18, 19, 20, 21] (by decide +kernel) (by decide +kernel)
set_option maxRecDepth 20000 in
theorem gX10_isLocked_X7_isSteady : GoodIn wsX10_isLocked (wsV RX10 185 RX7 yX7_isSteady wsX7_isSteady) := goodIn_app (goodIn_of _ (by decide +kernel)) ggX10_isLocked_X7_isSteady
theorem dX10_isLocked_0 : decode cX10_isLocked 0 = .ok (.aload_n 0, 1) := by decide +kernel
theorem dX10_isLocked_1 : decode cX10_isLocked 1 = .ok (.getfield 68, 3) := by decide +kernel
theorem dX10_isLocked_4 : decode cX10_isLocked 4 = .ok (.invokevirtual 185, 3) := by decide +kernel
theorem dX10_isLocked_7 : decode cX10_isLocked 7 = .ok (.ireturn, 1) := by decide +kernel
set_option maxRecDepth 20000 in
theorem ggX10_wander_X7_sumAbsolutes : GoodIn wsX10_wander wsX7_sumAbsolutes := goodIn_r _ [6, 7, 8, 9, 10, 11, 22, 23, 24, 25] (by decide +kernel) (by decide +kernel)
set_option maxRecDepth 20000 in
theorem gX10_wander_X7_sumAbsolutes : GoodIn wsX10_wander (wsV RX10 189 RX7 yX7_sumAbsolutes wsX7_sumAbsolutes) := goodIn_app (goodIn_of _ (by decide +kernel)) ggX10_wander_X7_sumAbsolutes
theorem dX10_wander_0 : decode cX10_wander 0 = .ok (.aload_n 0, 1) := by decide +kernel
theorem dX10_wander_1 : decode cX10_wander 1 = .ok (.getfield 68, 3) := by decide +kernel
theorem dX10_wander_4 : decode cX10_wander 4 = .ok (.invokevirtual 189, 3) := by decide +kernel
theorem dX10_wander_7 : decode cX10_wander 7 = .ok (.ireturn, 1) := by decide +kernel
theorem dX10_alignment_0 : decode cX10_alignment 0 = .ok (.aload_n 0, 1) := by decide +kernel
theorem dX10_alignment_1 : decode cX10_alignment 1 = .ok (.getfield 75, 3) := by decide +kernel
theorem dX10_alignment_4 : decode cX10_alignment 4 = .ok (.getfield 192, 3) := by decide +kernel
theorem dX10_alignment_7 : decode cX10_alignment 7 = .ok (.ireturn, 1) := by decide +kernel
theorem dX10_frames_0 : decode cX10_frames 0 = .ok (.aload_n 0, 1) := by decide +kernel
theorem dX10_frames_1 : decode cX10_frames 1 = .ok (.getfield 75, 3) := by decide +kernel
theorem dX10_frames_4 : decode cX10_frames 4 = .ok (.getfield 195, 3) := by decide +kernel
theorem dX10_frames_7 : decode cX10_frames 7 = .ok (.ireturn, 1) := by decide +kernel
theorem dX10_losses_0 : decode cX10_losses 0 = .ok (.aload_n 0, 1) := by decide +kernel
theorem dX10_losses_1 : decode cX10_losses 1 = .ok (.getfield 75, 3) := by decide +kernel
theorem dX10_losses_4 : decode cX10_losses 4 = .ok (.getfield 198, 3) := by decide +kernel
theorem dX10_losses_7 : decode cX10_losses 7 = .ok (.ireturn, 1) := by decide +kernel
set_option maxRecDepth 20000 in
theorem ggX10_bestPhase_X2_sumCosts : GoodIn wsX10_bestPhase wsX2_sumCosts := goodIn_r _ [6, 7, 8, 9, 5, 10, 11, 12, 13, 14, 25, 26] (by decide +kernel) (by decide +kernel)
set_option maxRecDepth 20000 in
theorem gX10_bestPhase_X2_sumCosts : GoodIn wsX10_bestPhase (wsV RX10 201 RX2 yX2_sumCosts wsX2_sumCosts) := goodIn_app (goodIn_of _ (by decide +kernel)) ggX10_bestPhase_X2_sumCosts
theorem dX10_bestPhase_0 : decode cX10_bestPhase 0 = .ok (.iconst 0, 1) := by decide +kernel
theorem dX10_bestPhase_1 : decode cX10_bestPhase 1 = .ok (.istore_n 1, 1) := by decide +kernel
theorem dX10_bestPhase_2 : decode cX10_bestPhase 2 = .ok (.aload_n 0, 1) := by decide +kernel
theorem dX10_bestPhase_3 : decode cX10_bestPhase 3 = .ok (.getfield 26, 3) := by decide +kernel
theorem dX10_bestPhase_6 : decode cX10_bestPhase 6 = .ok (.iconst 0, 1) := by decide +kernel
theorem dX10_bestPhase_7 : decode cX10_bestPhase 7 = .ok (.invokevirtual 201, 3) := by decide +kernel
theorem dX10_bestPhase_10 : decode cX10_bestPhase 10 = .ok (.istore_n 2, 1) := by decide +kernel
theorem dX10_bestPhase_11 : decode cX10_bestPhase 11 = .ok (.iconst 1, 1) := by decide +kernel
theorem dX10_bestPhase_12 : decode cX10_bestPhase 12 = .ok (.istore_n 3, 1) := by decide +kernel
theorem dX10_bestPhase_13 : decode cX10_bestPhase 13 = .ok (.iload_n 3, 1) := by decide +kernel
theorem dX10_bestPhase_14 : decode cX10_bestPhase 14 = .ok (.bipush 16, 2) := by decide +kernel
theorem dX10_bestPhase_16 : decode cX10_bestPhase 16 = .ok (.if_icmp .ge 30, 3) := by decide +kernel
theorem dX10_bestPhase_19 : decode cX10_bestPhase 19 = .ok (.aload_n 0, 1) := by decide +kernel
theorem dX10_bestPhase_20 : decode cX10_bestPhase 20 = .ok (.getfield 26, 3) := by decide +kernel
theorem dX10_bestPhase_23 : decode cX10_bestPhase 23 = .ok (.iload_n 3, 1) := by decide +kernel
theorem dX10_bestPhase_24 : decode cX10_bestPhase 24 = .ok (.invokevirtual 201, 3) := by decide +kernel
theorem dX10_bestPhase_27 : decode cX10_bestPhase 27 = .ok (.istore 4, 2) := by decide +kernel
theorem dX10_bestPhase_29 : decode cX10_bestPhase 29 = .ok (.iload 4, 2) := by decide +kernel
theorem dX10_bestPhase_31 : decode cX10_bestPhase 31 = .ok (.iload_n 2, 1) := by decide +kernel
theorem dX10_bestPhase_32 : decode cX10_bestPhase 32 = .ok (.if_icmp .ge 8, 3) := by decide +kernel
theorem dX10_bestPhase_35 : decode cX10_bestPhase 35 = .ok (.iload 4, 2) := by decide +kernel
theorem dX10_bestPhase_37 : decode cX10_bestPhase 37 = .ok (.istore_n 2, 1) := by decide +kernel
theorem dX10_bestPhase_38 : decode cX10_bestPhase 38 = .ok (.iload_n 3, 1) := by decide +kernel
theorem dX10_bestPhase_39 : decode cX10_bestPhase 39 = .ok (.istore_n 1, 1) := by decide +kernel
theorem dX10_bestPhase_40 : decode cX10_bestPhase 40 = .ok (.iinc 3 1, 3) := by decide +kernel
theorem dX10_bestPhase_43 : decode cX10_bestPhase 43 = .ok (.goto (-30), 3) := by decide +kernel
theorem dX10_bestPhase_46 : decode cX10_bestPhase 46 = .ok (.iload_n 1, 1) := by decide +kernel
theorem dX10_bestPhase_47 : decode cX10_bestPhase 47 = .ok (.ireturn, 1) := by decide +kernel
set_option maxRecDepth 20000 in
theorem ggX10_cost_X10_isWithin : GoodIn wsX10_cost wsX10_isWithin := goodIn_r _ [7] (by decide +kernel) (by decide +kernel)
set_option maxRecDepth 20000 in
theorem gX10_cost_X10_isWithin : GoodIn wsX10_cost (va_wsS RX10 79 yX10_isWithin wsX10_isWithin) := goodIn_app (goodIn_of _ (by decide +kernel)) ggX10_cost_X10_isWithin
set_option maxRecDepth 20000 in
theorem ggX10_cost_X2_sumCosts : GoodIn wsX10_cost wsX2_sumCosts := goodIn_r _ [12, 13, 14, 15, 11, 16, 17, 18, 19, 20, 31, 32] (by decide +kernel) (by decide +kernel)
set_option maxRecDepth 20000 in
theorem gX10_cost_X2_sumCosts : GoodIn wsX10_cost (wsV RX10 201 RX2 yX2_sumCosts wsX2_sumCosts) := goodIn_app (goodIn_of _ (by decide +kernel)) ggX10_cost_X2_sumCosts
theorem dX10_cost_0 : decode cX10_cost 0 = .ok (.iload_n 1, 1) := by decide +kernel
theorem dX10_cost_1 : decode cX10_cost 1 = .ok (.iconst 0, 1) := by decide +kernel
theorem dX10_cost_2 : decode cX10_cost 2 = .ok (.bipush 15, 2) := by decide +kernel
theorem dX10_cost_4 : decode cX10_cost 4 = .ok (.invokestatic 79, 3) := by decide +kernel
theorem dX10_cost_7 : decode cX10_cost 7 = .ok (.ifCond .ne 13, 3) := by decide +kernel
theorem dX10_cost_10 : decode cX10_cost 10 = .ok (.new 83, 3) := by decide +kernel
theorem dX10_cost_13 : decode cX10_cost 13 = .ok (.dup, 1) := by decide +kernel
theorem dX10_cost_14 : decode cX10_cost 14 = .ok (.ldc 204, 2) := by decide +kernel
theorem dX10_cost_16 : decode cX10_cost 16 = .ok (.invokespecial 87, 3) := by decide +kernel
theorem dX10_cost_19 : decode cX10_cost 19 = .ok (.athrow, 1) := by decide +kernel
theorem dX10_cost_20 : decode cX10_cost 20 = .ok (.aload_n 0, 1) := by decide +kernel
theorem dX10_cost_21 : decode cX10_cost 21 = .ok (.getfield 26, 3) := by decide +kernel
theorem dX10_cost_24 : decode cX10_cost 24 = .ok (.iload_n 1, 1) := by decide +kernel
theorem dX10_cost_25 : decode cX10_cost 25 = .ok (.invokevirtual 201, 3) := by decide +kernel
theorem dX10_cost_28 : decode cX10_cost 28 = .ok (.ireturn, 1) := by decide +kernel
theorem dX10_isWithin_0 : decode cX10_isWithin 0 = .ok (.iload_n 0, 1) := by decide +kernel
theorem dX10_isWithin_1 : decode cX10_isWithin 1 = .ok (.iload_n 1, 1) := by decide +kernel
theorem dX10_isWithin_2 : decode cX10_isWithin 2 = .ok (.if_icmp .lt 12, 3) := by decide +kernel
theorem dX10_isWithin_5 : decode cX10_isWithin 5 = .ok (.iload_n 0, 1) := by decide +kernel
theorem dX10_isWithin_6 : decode cX10_isWithin 6 = .ok (.iload_n 2, 1) := by decide +kernel
theorem dX10_isWithin_7 : decode cX10_isWithin 7 = .ok (.if_icmp .gt 7, 3) := by decide +kernel
theorem dX10_isWithin_10 : decode cX10_isWithin 10 = .ok (.iconst 1, 1) := by decide +kernel
theorem dX10_isWithin_11 : decode cX10_isWithin 11 = .ok (.goto 4, 3) := by decide +kernel
theorem dX10_isWithin_14 : decode cX10_isWithin 14 = .ok (.iconst 0, 1) := by decide +kernel
theorem dX10_isWithin_15 : decode cX10_isWithin 15 = .ok (.ireturn, 1) := by decide +kernel
theorem dJ6_bitCount_0f7a4_0 : decode cJ6_bitCount_0f7a4 0 = .ok (.iload_n 0, 1) := by decide +kernel
theorem dJ6_bitCount_0f7a4_1 : decode cJ6_bitCount_0f7a4 1 = .ok (.iload_n 0, 1) := by decide +kernel
theorem dJ6_bitCount_0f7a4_2 : decode cJ6_bitCount_0f7a4 2 = .ok (.iconst 1, 1) := by decide +kernel
theorem dJ6_bitCount_0f7a4_3 : decode cJ6_bitCount_0f7a4 3 = .ok (.iushr, 1) := by decide +kernel
theorem dJ6_bitCount_0f7a4_4 : decode cJ6_bitCount_0f7a4 4 = .ok (.ldc_w 265, 3) := by decide +kernel
theorem dJ6_bitCount_0f7a4_7 : decode cJ6_bitCount_0f7a4 7 = .ok (.iand, 1) := by decide +kernel
theorem dJ6_bitCount_0f7a4_8 : decode cJ6_bitCount_0f7a4 8 = .ok (.isub, 1) := by decide +kernel
theorem dJ6_bitCount_0f7a4_9 : decode cJ6_bitCount_0f7a4 9 = .ok (.istore_n 0, 1) := by decide +kernel
theorem dJ6_bitCount_0f7a4_10 : decode cJ6_bitCount_0f7a4 10 = .ok (.iload_n 0, 1) := by decide +kernel
theorem dJ6_bitCount_0f7a4_11 : decode cJ6_bitCount_0f7a4 11 = .ok (.ldc_w 266, 3) := by decide +kernel
theorem dJ6_bitCount_0f7a4_14 : decode cJ6_bitCount_0f7a4 14 = .ok (.iand, 1) := by decide +kernel
theorem dJ6_bitCount_0f7a4_15 : decode cJ6_bitCount_0f7a4 15 = .ok (.iload_n 0, 1) := by decide +kernel
theorem dJ6_bitCount_0f7a4_16 : decode cJ6_bitCount_0f7a4 16 = .ok (.iconst 2, 1) := by decide +kernel
theorem dJ6_bitCount_0f7a4_17 : decode cJ6_bitCount_0f7a4 17 = .ok (.iushr, 1) := by decide +kernel
theorem dJ6_bitCount_0f7a4_18 : decode cJ6_bitCount_0f7a4 18 = .ok (.ldc_w 266, 3) := by decide +kernel
theorem dJ6_bitCount_0f7a4_21 : decode cJ6_bitCount_0f7a4 21 = .ok (.iand, 1) := by decide +kernel
theorem dJ6_bitCount_0f7a4_22 : decode cJ6_bitCount_0f7a4 22 = .ok (.iadd, 1) := by decide +kernel
theorem dJ6_bitCount_0f7a4_23 : decode cJ6_bitCount_0f7a4 23 = .ok (.istore_n 0, 1) := by decide +kernel
theorem dJ6_bitCount_0f7a4_24 : decode cJ6_bitCount_0f7a4 24 = .ok (.iload_n 0, 1) := by decide +kernel
theorem dJ6_bitCount_0f7a4_25 : decode cJ6_bitCount_0f7a4 25 = .ok (.iload_n 0, 1) := by decide +kernel
theorem dJ6_bitCount_0f7a4_26 : decode cJ6_bitCount_0f7a4 26 = .ok (.iconst 4, 1) := by decide +kernel
theorem dJ6_bitCount_0f7a4_27 : decode cJ6_bitCount_0f7a4 27 = .ok (.iushr, 1) := by decide +kernel
theorem dJ6_bitCount_0f7a4_28 : decode cJ6_bitCount_0f7a4 28 = .ok (.iadd, 1) := by decide +kernel
theorem dJ6_bitCount_0f7a4_29 : decode cJ6_bitCount_0f7a4 29 = .ok (.ldc_w 267, 3) := by decide +kernel
theorem dJ6_bitCount_0f7a4_32 : decode cJ6_bitCount_0f7a4 32 = .ok (.iand, 1) := by decide +kernel
theorem dJ6_bitCount_0f7a4_33 : decode cJ6_bitCount_0f7a4 33 = .ok (.istore_n 0, 1) := by decide +kernel
theorem dJ6_bitCount_0f7a4_34 : decode cJ6_bitCount_0f7a4 34 = .ok (.iload_n 0, 1) := by decide +kernel
theorem dJ6_bitCount_0f7a4_35 : decode cJ6_bitCount_0f7a4 35 = .ok (.iload_n 0, 1) := by decide +kernel
theorem dJ6_bitCount_0f7a4_36 : decode cJ6_bitCount_0f7a4 36 = .ok (.bipush 8, 2) := by decide +kernel
theorem dJ6_bitCount_0f7a4_38 : decode cJ6_bitCount_0f7a4 38 = .ok (.iushr, 1) := by decide +kernel
theorem dJ6_bitCount_0f7a4_39 : decode cJ6_bitCount_0f7a4 39 = .ok (.iadd, 1) := by decide +kernel
theorem dJ6_bitCount_0f7a4_40 : decode cJ6_bitCount_0f7a4 40 = .ok (.istore_n 0, 1) := by decide +kernel
theorem dJ6_bitCount_0f7a4_41 : decode cJ6_bitCount_0f7a4 41 = .ok (.iload_n 0, 1) := by decide +kernel
theorem dJ6_bitCount_0f7a4_42 : decode cJ6_bitCount_0f7a4 42 = .ok (.iload_n 0, 1) := by decide +kernel
theorem dJ6_bitCount_0f7a4_43 : decode cJ6_bitCount_0f7a4 43 = .ok (.bipush 16, 2) := by decide +kernel
theorem dJ6_bitCount_0f7a4_45 : decode cJ6_bitCount_0f7a4 45 = .ok (.iushr, 1) := by decide +kernel
theorem dJ6_bitCount_0f7a4_46 : decode cJ6_bitCount_0f7a4 46 = .ok (.iadd, 1) := by decide +kernel
theorem dJ6_bitCount_0f7a4_47 : decode cJ6_bitCount_0f7a4 47 = .ok (.istore_n 0, 1) := by decide +kernel
theorem dJ6_bitCount_0f7a4_48 : decode cJ6_bitCount_0f7a4 48 = .ok (.iload_n 0, 1) := by decide +kernel
theorem dJ6_bitCount_0f7a4_49 : decode cJ6_bitCount_0f7a4 49 = .ok (.bipush 63, 2) := by decide +kernel
theorem dJ6_bitCount_0f7a4_51 : decode cJ6_bitCount_0f7a4 51 = .ok (.iand, 1) := by decide +kernel
theorem dJ6_bitCount_0f7a4_52 : decode cJ6_bitCount_0f7a4 52 = .ok (.ireturn, 1) := by decide +kernel
theorem dJ9_floorDiv_7cf53_0 : decode cJ9_floorDiv_7cf53 0 = .ok (.iload_n 0, 1) := by decide +kernel
theorem dJ9_floorDiv_7cf53_1 : decode cJ9_floorDiv_7cf53 1 = .ok (.iload_n 1, 1) := by decide +kernel
theorem dJ9_floorDiv_7cf53_2 : decode cJ9_floorDiv_7cf53 2 = .ok (.idiv, 1) := by decide +kernel
theorem dJ9_floorDiv_7cf53_3 : decode cJ9_floorDiv_7cf53 3 = .ok (.istore_n 2, 1) := by decide +kernel
theorem dJ9_floorDiv_7cf53_4 : decode cJ9_floorDiv_7cf53 4 = .ok (.iload_n 0, 1) := by decide +kernel
theorem dJ9_floorDiv_7cf53_5 : decode cJ9_floorDiv_7cf53 5 = .ok (.iload_n 1, 1) := by decide +kernel
theorem dJ9_floorDiv_7cf53_6 : decode cJ9_floorDiv_7cf53 6 = .ok (.ixor, 1) := by decide +kernel
theorem dJ9_floorDiv_7cf53_7 : decode cJ9_floorDiv_7cf53 7 = .ok (.ifCond .ge 14, 3) := by decide +kernel
theorem dJ9_floorDiv_7cf53_10 : decode cJ9_floorDiv_7cf53 10 = .ok (.iload_n 2, 1) := by decide +kernel
theorem dJ9_floorDiv_7cf53_11 : decode cJ9_floorDiv_7cf53 11 = .ok (.iload_n 1, 1) := by decide +kernel
theorem dJ9_floorDiv_7cf53_12 : decode cJ9_floorDiv_7cf53 12 = .ok (.imul, 1) := by decide +kernel
theorem dJ9_floorDiv_7cf53_13 : decode cJ9_floorDiv_7cf53 13 = .ok (.iload_n 0, 1) := by decide +kernel
theorem dJ9_floorDiv_7cf53_14 : decode cJ9_floorDiv_7cf53 14 = .ok (.if_icmp .eq 7, 3) := by decide +kernel
theorem dJ9_floorDiv_7cf53_17 : decode cJ9_floorDiv_7cf53 17 = .ok (.iload_n 2, 1) := by decide +kernel
theorem dJ9_floorDiv_7cf53_18 : decode cJ9_floorDiv_7cf53 18 = .ok (.iconst 1, 1) := by decide +kernel
theorem dJ9_floorDiv_7cf53_19 : decode cJ9_floorDiv_7cf53 19 = .ok (.isub, 1) := by decide +kernel
theorem dJ9_floorDiv_7cf53_20 : decode cJ9_floorDiv_7cf53 20 = .ok (.ireturn, 1) := by decide +kernel
theorem dJ9_floorDiv_7cf53_21 : decode cJ9_floorDiv_7cf53 21 = .ok (.iload_n 2, 1) := by decide +kernel
theorem dJ9_floorDiv_7cf53_22 : decode cJ9_floorDiv_7cf53 22 = .ok (.ireturn, 1) := by decide +kernel
theorem dJ9_abs_0f7a4_0 : decode cJ9_abs_0f7a4 0 = .ok (.iload_n 0, 1) := by decide +kernel
theorem dJ9_abs_0f7a4_1 : decode cJ9_abs_0f7a4 1 = .ok (.ifCond .ge 8, 3) := by decide +kernel
theorem dJ9_abs_0f7a4_4 : decode cJ9_abs_0f7a4 4 = .ok (.iload_n 0, 1) := by decide +kernel
theorem dJ9_abs_0f7a4_5 : decode cJ9_abs_0f7a4 5 = .ok (.ineg, 1) := by decide +kernel
theorem dJ9_abs_0f7a4_6 : decode cJ9_abs_0f7a4 6 = .ok (.goto 4, 3) := by decide +kernel
theorem dJ9_abs_0f7a4_9 : decode cJ9_abs_0f7a4 9 = .ok (.iload_n 0, 1) := by decide +kernel
theorem dJ9_abs_0f7a4_10 : decode cJ9_abs_0f7a4 10 = .ok (.ireturn, 1) := by decide +kernel
theorem dJ9_max_7cf53_0 : decode cJ9_max_7cf53 0 = .ok (.iload_n 0, 1) := by decide +kernel
theorem dJ9_max_7cf53_1 : decode cJ9_max_7cf53 1 = .ok (.iload_n 1, 1) := by decide +kernel
theorem dJ9_max_7cf53_2 : decode cJ9_max_7cf53 2 = .ok (.if_icmp .lt 7, 3) := by decide +kernel
theorem dJ9_max_7cf53_5 : decode cJ9_max_7cf53 5 = .ok (.iload_n 0, 1) := by decide +kernel
theorem dJ9_max_7cf53_6 : decode cJ9_max_7cf53 6 = .ok (.goto 4, 3) := by decide +kernel
theorem dJ9_max_7cf53_9 : decode cJ9_max_7cf53 9 = .ok (.iload_n 1, 1) := by decide +kernel
theorem dJ9_max_7cf53_10 : decode cJ9_max_7cf53 10 = .ok (.ireturn, 1) := by decide +kernel
theorem dJ9_min_7cf53_0 : decode cJ9_min_7cf53 0 = .ok (.iload_n 0, 1) := by decide +kernel
theorem dJ9_min_7cf53_1 : decode cJ9_min_7cf53 1 = .ok (.iload_n 1, 1) := by decide +kernel
theorem dJ9_min_7cf53_2 : decode cJ9_min_7cf53 2 = .ok (.if_icmp .gt 7, 3) := by decide +kernel
theorem dJ9_min_7cf53_5 : decode cJ9_min_7cf53 5 = .ok (.iload_n 0, 1) := by decide +kernel
theorem dJ9_min_7cf53_6 : decode cJ9_min_7cf53 6 = .ok (.goto 4, 3) := by decide +kernel
theorem dJ9_min_7cf53_9 : decode cJ9_min_7cf53 9 = .ok (.iload_n 1, 1) := by decide +kernel
theorem dJ9_min_7cf53_10 : decode cJ9_min_7cf53 10 = .ok (.ireturn, 1) := by decide +kernel
theorem dL_cell_0 : decode cL_cell 0 = .ok (.iload_n 1, 1) := by decide +kernel
theorem dL_cell_1 : decode cL_cell 1 = .ok (.aload_n 0, 1) := by decide +kernel
theorem dL_cell_2 : decode cL_cell 2 = .ok (.arraylength, 1) := by decide +kernel
theorem dL_cell_3 : decode cL_cell 3 = .ok (.if_icmp .ge 9, 3) := by decide +kernel
theorem dL_cell_6 : decode cL_cell 6 = .ok (.aload_n 0, 1) := by decide +kernel
theorem dL_cell_7 : decode cL_cell 7 = .ok (.iload_n 1, 1) := by decide +kernel
theorem dL_cell_8 : decode cL_cell 8 = .ok (.iaload, 1) := by decide +kernel
theorem dL_cell_9 : decode cL_cell 9 = .ok (.goto 18, 3) := by decide +kernel
theorem dL_cell_12 : decode cL_cell 12 = .ok (.sipush 7919, 3) := by decide +kernel
theorem dL_cell_15 : decode cL_cell 15 = .ok (.iload_n 1, 1) := by decide +kernel
theorem dL_cell_16 : decode cL_cell 16 = .ok (.sipush 167, 3) := by decide +kernel
theorem dL_cell_19 : decode cL_cell 19 = .ok (.iadd, 1) := by decide +kernel
theorem dL_cell_20 : decode cL_cell 20 = .ok (.imul, 1) := by decide +kernel
theorem dL_cell_21 : decode cL_cell 21 = .ok (.iload_n 1, 1) := by decide +kernel
theorem dL_cell_22 : decode cL_cell 22 = .ok (.sipush 2371, 3) := by decide +kernel
theorem dL_cell_25 : decode cL_cell 25 = .ok (.iadd, 1) := by decide +kernel
theorem dL_cell_26 : decode cL_cell 26 = .ok (.imul, 1) := by decide +kernel
theorem dL_cell_27 : decode cL_cell 27 = .ok (.ireturn, 1) := by decide +kernel
theorem dL_low_0 : decode cL_low 0 = .ok (.iload_n 0, 1) := by decide +kernel
theorem dL_low_1 : decode cL_low 1 = .ok (.ldc 7, 2) := by decide +kernel
theorem dL_low_3 : decode cL_low 3 = .ok (.iand, 1) := by decide +kernel
theorem dL_low_4 : decode cL_low 4 = .ok (.iload_n 1, 1) := by decide +kernel
theorem dL_low_5 : decode cL_low 5 = .ok (.irem, 1) := by decide +kernel
theorem dL_low_6 : decode cL_low 6 = .ok (.ireturn, 1) := by decide +kernel
set_option maxRecDepth 20000 in
theorem ggL_bit_X10_bit : GoodIn wsL_bit wsX10_bit := goodIn_ca (goodIn_r _ [7, 8, 9, 10, 11, 12, 13, 14, 15, 16, 17, 18, 19, 20, 21, 6, 22, 23, 24, 25, 26, 27, 28, 29, 30, 31, 32, 33, 34, 35, 36, 37, 38, 39] (by decide +kernel) (by decide +kernel)) (goodIn_sub (fun _ h => List.mem_cons_of_mem _ (List.mem_append_right _ h)) (by decide +kernel))
set_option maxRecDepth 20000 in
theorem gL_bit_X10_bit : GoodIn wsL_bit (wsV RL 33 RX10 yX10_bit wsX10_bit) := goodIn_app (goodIn_of _ (by decide +kernel)) ggL_bit_X10_bit
theorem dL_bit_0 : decode cL_bit 0 = .ok (.aload_n 0, 1) := by decide +kernel
theorem dL_bit_1 : decode cL_bit 1 = .ok (.iload_n 1, 1) := by decide +kernel
theorem dL_bit_2 : decode cL_bit 2 = .ok (.invokevirtual 33, 3) := by decide +kernel
theorem dL_bit_5 : decode cL_bit 5 = .ok (.ireturn, 1) := by decide +kernel
theorem dL_bit_6 : decode cL_bit 6 = .ok (.astore_n 2, 1) := by decide +kernel
theorem dL_bit_7 : decode cL_bit 7 = .ok (.ldc 25, 2) := by decide +kernel
theorem dL_bit_9 : decode cL_bit 9 = .ok (.ireturn, 1) := by decide +kernel
set_option maxRecDepth 20000 in
theorem ggL_phase_X10_phase : GoodIn wsL_phase wsX10_phase := goodIn_ca (goodIn_r _ [7, 8, 9, 10, 11, 12, 13, 14, 15, 16, 17, 18, 19, 20, 21, 22, 23, 24, 25, 26] (by decide +kernel) (by decide +kernel)) (goodIn_sub (fun _ h => List.mem_cons_of_mem _ (List.mem_append_right _ h)) (by decide +kernel))
set_option maxRecDepth 20000 in
theorem gL_phase_X10_phase : GoodIn wsL_phase (wsV RL 38 RX10 yX10_phase wsX10_phase) := goodIn_app (goodIn_of _ (by decide +kernel)) ggL_phase_X10_phase
theorem dL_phase_0 : decode cL_phase 0 = .ok (.aload_n 0, 1) := by decide +kernel
theorem dL_phase_1 : decode cL_phase 1 = .ok (.invokevirtual 38, 3) := by decide +kernel
theorem dL_phase_4 : decode cL_phase 4 = .ok (.ireturn, 1) := by decide +kernel
theorem dL_phase_5 : decode cL_phase 5 = .ok (.astore_n 1, 1) := by decide +kernel
theorem dL_phase_6 : decode cL_phase 6 = .ok (.ldc 25, 2) := by decide +kernel
theorem dL_phase_8 : decode cL_phase 8 = .ok (.ireturn, 1) := by decide +kernel
set_option maxRecDepth 20000 in
theorem ggL_act_L_low : GoodIn wsL_act wsL_low := goodIn_r _ [7, 1] (by decide +kernel) (by decide +kernel)
set_option maxRecDepth 20000 in
theorem gL_act_L_low : GoodIn wsL_act (va_wsS RL 44 yL_low wsL_low) := goodIn_app (goodIn_of _ (by decide +kernel)) ggL_act_L_low
set_option maxRecDepth 20000 in
theorem ggL_act_X10_release : GoodIn wsL_act wsX10_release := goodIn_r _ [279, 51, 280, 52, 281, 282, 283, 284, 285, 286, 287, 288, 289, 290, 308, 309, 310, 311, 312] (by decide +kernel) (by decide +kernel)
set_option maxRecDepth 20000 in
theorem gL_act_X10_release : GoodIn wsL_act (wsV RL 62 RX10 yX10_release wsX10_release) := goodIn_app (goodIn_of _ (by decide +kernel)) ggL_act_X10_release
theorem dL_act_0 : decode cL_act 0 = .ok (.iload_n 1, 1) := by decide +kernel
theorem dL_act_1 : decode cL_act 1 = .ok (.bipush 24, 2) := by decide +kernel
theorem dL_act_3 : decode cL_act 3 = .ok (.ishr, 1) := by decide +kernel
theorem dL_act_4 : decode cL_act 4 = .ok (.bipush 8, 2) := by decide +kernel
theorem dL_act_6 : decode cL_act 6 = .ok (.invokestatic 44, 3) := by decide +kernel
theorem dL_act_9 : decode cL_act 9 = .ok (.ifCond .ne 7, 3) := by decide +kernel
theorem dL_act_12 : decode cL_act 12 = .ok (.iconst 1, 1) := by decide +kernel
theorem dL_act_13 : decode cL_act 13 = .ok (.goto 4, 3) := by decide +kernel
theorem dL_act_16 : decode cL_act 16 = .ok (.iconst 0, 1) := by decide +kernel
theorem dL_act_17 : decode cL_act 17 = .ok (.istore_n 2, 1) := by decide +kernel
theorem dL_act_18 : decode cL_act 18 = .ok (.iload_n 1, 1) := by decide +kernel
theorem dL_act_19 : decode cL_act 19 = .ok (.bipush 14, 2) := by decide +kernel
theorem dL_act_21 : decode cL_act 21 = .ok (.invokestatic 44, 3) := by decide +kernel
theorem dL_act_24 : decode cL_act 24 = .ok (.istore_n 3, 1) := by decide +kernel
theorem dL_act_25 : decode cL_act 25 = .ok (.iload_n 3, 1) := by decide +kernel
theorem dL_act_26 : decode cL_act 26 = .ok (.ifCond .ne 42, 3) := by decide +kernel
theorem dL_act_29 : decode cL_act 29 = .ok (.aload_n 0, 1) := by decide +kernel
theorem dL_act_30 : decode cL_act 30 = .ok (.iconst 0, 1) := by decide +kernel
theorem dL_act_31 : decode cL_act 31 = .ok (.iload_n 1, 1) := by decide +kernel
theorem dL_act_32 : decode cL_act 32 = .ok (.iconst 4, 1) := by decide +kernel
theorem dL_act_33 : decode cL_act 33 = .ok (.ishr, 1) := by decide +kernel
theorem dL_act_34 : decode cL_act 34 = .ok (.iload_n 2, 1) := by decide +kernel
theorem dL_act_35 : decode cL_act 35 = .ok (.ifCond .eq 9, 3) := by decide +kernel
theorem dL_act_38 : decode cL_act 38 = .ok (.sipush 1000, 3) := by decide +kernel
theorem dL_act_41 : decode cL_act 41 = .ok (.goto 6, 3) := by decide +kernel
theorem dL_act_44 : decode cL_act 44 = .ok (.sipush 601, 3) := by decide +kernel
theorem dL_act_47 : decode cL_act 47 = .ok (.invokestatic 44, 3) := by decide +kernel
theorem dL_act_50 : decode cL_act 50 = .ok (.iload_n 2, 1) := by decide +kernel
theorem dL_act_51 : decode cL_act 51 = .ok (.ifCond .eq 9, 3) := by decide +kernel
theorem dL_act_54 : decode cL_act 54 = .ok (.sipush 500, 3) := by decide +kernel
theorem dL_act_57 : decode cL_act 57 = .ok (.goto 6, 3) := by decide +kernel
theorem dL_act_60 : decode cL_act 60 = .ok (.sipush 300, 3) := by decide +kernel
theorem dL_act_63 : decode cL_act 63 = .ok (.isub, 1) := by decide +kernel
theorem dL_act_64 : decode cL_act 64 = .ok (.invokestatic 50, 3) := by decide +kernel
theorem dL_act_67 : decode cL_act 67 = .ok (.ireturn, 1) := by decide +kernel
theorem dL_act_68 : decode cL_act 68 = .ok (.iload_n 3, 1) := by decide +kernel
theorem dL_act_69 : decode cL_act 69 = .ok (.iconst 1, 1) := by decide +kernel
theorem dL_act_70 : decode cL_act 70 = .ok (.if_icmp .ne 53, 3) := by decide +kernel
theorem dL_act_73 : decode cL_act 73 = .ok (.aload_n 0, 1) := by decide +kernel
theorem dL_act_74 : decode cL_act 74 = .ok (.iload_n 1, 1) := by decide +kernel
theorem dL_act_75 : decode cL_act 75 = .ok (.iconst 4, 1) := by decide +kernel
theorem dL_act_76 : decode cL_act 76 = .ok (.ishr, 1) := by decide +kernel
theorem dL_act_77 : decode cL_act 77 = .ok (.iload_n 2, 1) := by decide +kernel
theorem dL_act_78 : decode cL_act 78 = .ok (.ifCond .eq 9, 3) := by decide +kernel
theorem dL_act_81 : decode cL_act 81 = .ok (.sipush 3000, 3) := by decide +kernel
theorem dL_act_84 : decode cL_act 84 = .ok (.goto 20, 3) := by decide +kernel
theorem dL_act_87 : decode cL_act 87 = .ok (.iload_n 1, 1) := by decide +kernel
theorem dL_act_88 : decode cL_act 88 = .ok (.bipush 15, 2) := by decide +kernel
theorem dL_act_90 : decode cL_act 90 = .ok (.ishr, 1) := by decide +kernel
theorem dL_act_91 : decode cL_act 91 = .ok (.iconst 1, 1) := by decide +kernel
theorem dL_act_92 : decode cL_act 92 = .ok (.iand, 1) := by decide +kernel
theorem dL_act_93 : decode cL_act 93 = .ok (.ifCond .ne 9, 3) := by decide +kernel
theorem dL_act_96 : decode cL_act 96 = .ok (.sipush 2001, 3) := by decide +kernel
theorem dL_act_99 : decode cL_act 99 = .ok (.goto 5, 3) := by decide +kernel
theorem dL_act_102 : decode cL_act 102 = .ok (.bipush 100, 2) := by decide +kernel
theorem dL_act_104 : decode cL_act 104 = .ok (.invokestatic 44, 3) := by decide +kernel
theorem dL_act_107 : decode cL_act 107 = .ok (.iload_n 2, 1) := by decide +kernel
theorem dL_act_108 : decode cL_act 108 = .ok (.ifCond .eq 7, 3) := by decide +kernel
theorem dL_act_111 : decode cL_act 111 = .ok (.iload_n 1, 1) := by decide +kernel
theorem dL_act_112 : decode cL_act 112 = .ok (.goto 7, 3) := by decide +kernel
theorem dL_act_115 : decode cL_act 115 = .ok (.iload_n 1, 1) := by decide +kernel
theorem dL_act_116 : decode cL_act 116 = .ok (.ldc 7, 2) := by decide +kernel
theorem dL_act_118 : decode cL_act 118 = .ok (.iand, 1) := by decide +kernel
theorem dL_act_119 : decode cL_act 119 = .ok (.invokestatic 54, 3) := by decide +kernel
theorem dL_act_122 : decode cL_act 122 = .ok (.ireturn, 1) := by decide +kernel
theorem dL_act_123 : decode cL_act 123 = .ok (.iload_n 3, 1) := by decide +kernel
theorem dL_act_124 : decode cL_act 124 = .ok (.iconst 2, 1) := by decide +kernel
theorem dL_act_125 : decode cL_act 125 = .ok (.if_icmp .ne 25, 3) := by decide +kernel
theorem dL_act_128 : decode cL_act 128 = .ok (.aload_n 0, 1) := by decide +kernel
theorem dL_act_129 : decode cL_act 129 = .ok (.iconst 1, 1) := by decide +kernel
theorem dL_act_130 : decode cL_act 130 = .ok (.iload_n 1, 1) := by decide +kernel
theorem dL_act_131 : decode cL_act 131 = .ok (.iconst 4, 1) := by decide +kernel
theorem dL_act_132 : decode cL_act 132 = .ok (.ishr, 1) := by decide +kernel
theorem dL_act_133 : decode cL_act 133 = .ok (.iload_n 2, 1) := by decide +kernel
theorem dL_act_134 : decode cL_act 134 = .ok (.ifCond .eq 8, 3) := by decide +kernel
theorem dL_act_137 : decode cL_act 137 = .ok (.bipush 8, 2) := by decide +kernel
theorem dL_act_139 : decode cL_act 139 = .ok (.goto 4, 3) := by decide +kernel
theorem dL_act_142 : decode cL_act 142 = .ok (.iconst 5, 1) := by decide +kernel
theorem dL_act_143 : decode cL_act 143 = .ok (.invokestatic 44, 3) := by decide +kernel
theorem dL_act_146 : decode cL_act 146 = .ok (.invokestatic 50, 3) := by decide +kernel
theorem dL_act_149 : decode cL_act 149 = .ok (.ireturn, 1) := by decide +kernel
theorem dL_act_150 : decode cL_act 150 = .ok (.iload_n 3, 1) := by decide +kernel
theorem dL_act_151 : decode cL_act 151 = .ok (.iconst 3, 1) := by decide +kernel
theorem dL_act_152 : decode cL_act 152 = .ok (.if_icmp .ne 43, 3) := by decide +kernel
theorem dL_act_155 : decode cL_act 155 = .ok (.aload_n 0, 1) := by decide +kernel
theorem dL_act_156 : decode cL_act 156 = .ok (.iload_n 1, 1) := by decide +kernel
theorem dL_act_157 : decode cL_act 157 = .ok (.iconst 4, 1) := by decide +kernel
theorem dL_act_158 : decode cL_act 158 = .ok (.ishr, 1) := by decide +kernel
theorem dL_act_159 : decode cL_act 159 = .ok (.iload_n 2, 1) := by decide +kernel
theorem dL_act_160 : decode cL_act 160 = .ok (.ifCond .eq 8, 3) := by decide +kernel
theorem dL_act_163 : decode cL_act 163 = .ok (.bipush 80, 2) := by decide +kernel
theorem dL_act_165 : decode cL_act 165 = .ok (.goto 5, 3) := by decide +kernel
theorem dL_act_168 : decode cL_act 168 = .ok (.bipush 65, 2) := by decide +kernel
theorem dL_act_170 : decode cL_act 170 = .ok (.invokestatic 44, 3) := by decide +kernel
theorem dL_act_173 : decode cL_act 173 = .ok (.iload_n 1, 1) := by decide +kernel
theorem dL_act_174 : decode cL_act 174 = .ok (.bipush 11, 2) := by decide +kernel
theorem dL_act_176 : decode cL_act 176 = .ok (.ishr, 1) := by decide +kernel
theorem dL_act_177 : decode cL_act 177 = .ok (.iload_n 2, 1) := by decide +kernel
theorem dL_act_178 : decode cL_act 178 = .ok (.ifCond .eq 8, 3) := by decide +kernel
theorem dL_act_181 : decode cL_act 181 = .ok (.bipush 80, 2) := by decide +kernel
theorem dL_act_183 : decode cL_act 183 = .ok (.goto 5, 3) := by decide +kernel
theorem dL_act_186 : decode cL_act 186 = .ok (.bipush 65, 2) := by decide +kernel
theorem dL_act_188 : decode cL_act 188 = .ok (.invokestatic 44, 3) := by decide +kernel
theorem dL_act_191 : decode cL_act 191 = .ok (.invokestatic 57, 3) := by decide +kernel
theorem dL_act_194 : decode cL_act 194 = .ok (.ireturn, 1) := by decide +kernel
theorem dL_act_195 : decode cL_act 195 = .ok (.iload_n 3, 1) := by decide +kernel
theorem dL_act_196 : decode cL_act 196 = .ok (.iconst 4, 1) := by decide +kernel
theorem dL_act_197 : decode cL_act 197 = .ok (.if_icmp .ne 26, 3) := by decide +kernel
theorem dL_act_200 : decode cL_act 200 = .ok (.aload_n 0, 1) := by decide +kernel
theorem dL_act_201 : decode cL_act 201 = .ok (.iconst 2, 1) := by decide +kernel
theorem dL_act_202 : decode cL_act 202 = .ok (.iload_n 1, 1) := by decide +kernel
theorem dL_act_203 : decode cL_act 203 = .ok (.iconst 4, 1) := by decide +kernel
theorem dL_act_204 : decode cL_act 204 = .ok (.ishr, 1) := by decide +kernel
theorem dL_act_205 : decode cL_act 205 = .ok (.iload_n 2, 1) := by decide +kernel
theorem dL_act_206 : decode cL_act 206 = .ok (.ifCond .eq 8, 3) := by decide +kernel
theorem dL_act_209 : decode cL_act 209 = .ok (.ldc 60, 2) := by decide +kernel
theorem dL_act_211 : decode cL_act 211 = .ok (.goto 5, 3) := by decide +kernel
theorem dL_act_214 : decode cL_act 214 = .ok (.ldc 61, 2) := by decide +kernel
theorem dL_act_216 : decode cL_act 216 = .ok (.invokestatic 44, 3) := by decide +kernel
theorem dL_act_219 : decode cL_act 219 = .ok (.invokestatic 50, 3) := by decide +kernel
theorem dL_act_222 : decode cL_act 222 = .ok (.ireturn, 1) := by decide +kernel
theorem dL_act_223 : decode cL_act 223 = .ok (.iload_n 3, 1) := by decide +kernel
theorem dL_act_224 : decode cL_act 224 = .ok (.iconst 5, 1) := by decide +kernel
theorem dL_act_225 : decode cL_act 225 = .ok (.if_icmp .ne 9, 3) := by decide +kernel
theorem dL_act_228 : decode cL_act 228 = .ok (.aload_n 0, 1) := by decide +kernel
theorem dL_act_229 : decode cL_act 229 = .ok (.invokevirtual 62, 3) := by decide +kernel
theorem dL_act_232 : decode cL_act 232 = .ok (.iconst 0, 1) := by decide +kernel
theorem dL_act_233 : decode cL_act 233 = .ok (.ireturn, 1) := by decide +kernel
theorem dL_act_234 : decode cL_act 234 = .ok (.aload_n 0, 1) := by decide +kernel
theorem dL_act_235 : decode cL_act 235 = .ok (.iconst 3, 1) := by decide +kernel
theorem dL_act_236 : decode cL_act 236 = .ok (.iload_n 2, 1) := by decide +kernel
theorem dL_act_237 : decode cL_act 237 = .ok (.ifCond .eq 17, 3) := by decide +kernel
theorem dL_act_240 : decode cL_act 240 = .ok (.iload_n 1, 1) := by decide +kernel
theorem dL_act_241 : decode cL_act 241 = .ok (.iconst 4, 1) := by decide +kernel
theorem dL_act_242 : decode cL_act 242 = .ok (.ishr, 1) := by decide +kernel
theorem dL_act_243 : decode cL_act 243 = .ok (.iconst 3, 1) := by decide +kernel
theorem dL_act_244 : decode cL_act 244 = .ok (.invokestatic 44, 3) := by decide +kernel
theorem dL_act_247 : decode cL_act 247 = .ok (.sipush 801, 3) := by decide +kernel
theorem dL_act_250 : decode cL_act 250 = .ok (.imul, 1) := by decide +kernel
theorem dL_act_251 : decode cL_act 251 = .ok (.goto 25, 3) := by decide +kernel
theorem dL_act_254 : decode cL_act 254 = .ok (.iconst 1, 1) := by decide +kernel
theorem dL_act_255 : decode cL_act 255 = .ok (.iload_n 1, 1) := by decide +kernel
theorem dL_act_256 : decode cL_act 256 = .ok (.iconst 4, 1) := by decide +kernel
theorem dL_act_257 : decode cL_act 257 = .ok (.ishr, 1) := by decide +kernel
theorem dL_act_258 : decode cL_act 258 = .ok (.iload_n 3, 1) := by decide +kernel
theorem dL_act_259 : decode cL_act 259 = .ok (.bipush 6, 2) := by decide +kernel
theorem dL_act_261 : decode cL_act 261 = .ok (.if_icmp .ne 9, 3) := by decide +kernel
theorem dL_act_264 : decode cL_act 264 = .ok (.sipush 500, 3) := by decide +kernel
theorem dL_act_267 : decode cL_act 267 = .ok (.goto 5, 3) := by decide +kernel
theorem dL_act_270 : decode cL_act 270 = .ok (.bipush 70, 2) := by decide +kernel
theorem dL_act_272 : decode cL_act 272 = .ok (.invokestatic 44, 3) := by decide +kernel
theorem dL_act_275 : decode cL_act 275 = .ok (.iadd, 1) := by decide +kernel
theorem dL_act_276 : decode cL_act 276 = .ok (.invokestatic 50, 3) := by decide +kernel
theorem dL_act_279 : decode cL_act 279 = .ok (.ireturn, 1) := by decide +kernel
set_option maxRecDepth 20000 in
theorem ggL_areAlike_X10_ticks : GoodIn wsL_areAlike wsX10_ticks := goodIn_r _ [5, 6, 7, 146, 147, 148, 149, 150, 151, 152, 153, 154, 155, 156, 157] (by decide +kernel) (by decide +kernel)
set_option maxRecDepth 20000 in
theorem gL_areAlike_X10_ticks : GoodIn wsL_areAlike (wsV RL 65 RX10 yX10_ticks wsX10_ticks) := goodIn_app (goodIn_of _ (by decide +kernel)) ggL_areAlike_X10_ticks
set_option maxRecDepth 20000 in
theorem ggL_areAlike_X10_sent : GoodIn wsL_areAlike wsX10_sent := goodIn_r _ [11, 12, 13, 146, 147, 148, 149, 150, 151, 152, 153, 154, 155, 158, 159, 160, 161, 162, 163, 164] (by decide +kernel) (by decide +kernel)
set_option maxRecDepth 20000 in
theorem gL_areAlike_X10_sent : GoodIn wsL_areAlike (wsV RL 68 RX10 yX10_sent wsX10_sent) := goodIn_app (goodIn_of _ (by decide +kernel)) ggL_areAlike_X10_sent
set_option maxRecDepth 20000 in
theorem ggL_areAlike_X10_sender : GoodIn wsL_areAlike wsX10_sender := goodIn_r _ [17, 12, 18, 146, 147, 148, 149, 150, 151, 152, 153, 154, 155, 158, 159, 160, 161, 162, 163, 164] (by decide +kernel) (by decide +kernel)
set_option maxRecDepth 20000 in
theorem gL_areAlike_X10_sender : GoodIn wsL_areAlike (wsV RL 71 RX10 yX10_sender wsX10_sender) := goodIn_app (goodIn_of _ (by decide +kernel)) ggL_areAlike_X10_sender
set_option maxRecDepth 20000 in
theorem ggL_areAlike_X10_receiver : GoodIn wsL_areAlike wsX10_receiver := goodIn_r _ [22, 23, 24, 146, 147, 148, 149, 150, 151, 152, 153, 154, 155, 165] (by decide +kernel) (by decide +kernel)
set_option maxRecDepth 20000 in
theorem gL_areAlike_X10_receiver : GoodIn wsL_areAlike (wsV RL 74 RX10 yX10_receiver wsX10_receiver) := goodIn_app (goodIn_of _ (by decide +kernel)) ggL_areAlike_X10_receiver
set_option maxRecDepth 20000 in
theorem ggL_areAlike_X10_error : GoodIn wsL_areAlike wsX10_error := goodIn_r _ [28, 29, 30, 146, 147, 148, 149, 150, 151, 152, 153, 154, 155, 166, 167, 168, 169, 170] (by decide +kernel) (by decide +kernel)
set_option maxRecDepth 20000 in
theorem gL_areAlike_X10_error : GoodIn wsL_areAlike (wsV RL 77 RX10 yX10_error wsX10_error) := goodIn_app (goodIn_of _ (by decide +kernel)) ggL_areAlike_X10_error
set_option maxRecDepth 20000 in
theorem ggL_areAlike_X10_integral : GoodIn wsL_areAlike wsX10_integral := goodIn_r _ [34, 29, 35, 146, 147, 148, 149, 150, 151, 152, 153, 154, 155, 166, 167, 168, 169, 170] (by decide +kernel) (by decide +kernel)
set_option maxRecDepth 20000 in
theorem gL_areAlike_X10_integral : GoodIn wsL_areAlike (wsV RL 80 RX10 yX10_integral wsX10_integral) := goodIn_app (goodIn_of _ (by decide +kernel)) ggL_areAlike_X10_integral
set_option maxRecDepth 20000 in
theorem ggL_areAlike_X10_control : GoodIn wsL_areAlike wsX10_control := goodIn_r _ [39, 29, 40, 146, 147, 148, 149, 150, 151, 152, 153, 154, 155, 166, 167, 168, 169, 170] (by decide +kernel) (by decide +kernel)
set_option maxRecDepth 20000 in
theorem gL_areAlike_X10_control : GoodIn wsL_areAlike (wsV RL 83 RX10 yX10_control wsX10_control) := goodIn_app (goodIn_of _ (by decide +kernel)) ggL_areAlike_X10_control
set_option maxRecDepth 20000 in
theorem ggL_areAlike_X10_received : GoodIn wsL_areAlike wsX10_received := goodIn_r _ [44, 45, 46, 146, 147, 148, 149, 150, 151, 152, 153, 154, 155, 171, 172] (by decide +kernel) (by decide +kernel)
set_option maxRecDepth 20000 in
theorem gL_areAlike_X10_received : GoodIn wsL_areAlike (wsV RL 86 RX10 yX10_received wsX10_received) := goodIn_app (goodIn_of _ (by decide +kernel)) ggL_areAlike_X10_received
set_option maxRecDepth 20000 in
theorem ggL_areAlike_X10_repeated : GoodIn wsL_areAlike wsX10_repeated := goodIn_r _ [50, 51, 52, 146, 147, 148, 149, 150, 151, 152, 153, 154, 155, 173, 174, 175, 176] (by decide +kernel) (by decide +kernel)
set_option maxRecDepth 20000 in
theorem gL_areAlike_X10_repeated : GoodIn wsL_areAlike (wsV RL 89 RX10 yX10_repeated wsX10_repeated) := goodIn_app (goodIn_of _ (by decide +kernel)) ggL_areAlike_X10_repeated
set_option maxRecDepth 20000 in
theorem ggL_areAlike_X10_skipped : GoodIn wsL_areAlike wsX10_skipped := goodIn_r _ [56, 51, 57, 146, 147, 148, 149, 150, 151, 152, 153, 154, 155, 173, 174, 175, 176] (by decide +kernel) (by decide +kernel)
set_option maxRecDepth 20000 in
theorem gL_areAlike_X10_skipped : GoodIn wsL_areAlike (wsV RL 92 RX10 yX10_skipped wsX10_skipped) := goodIn_app (goodIn_of _ (by decide +kernel)) ggL_areAlike_X10_skipped
set_option maxRecDepth 20000 in
theorem ggL_areAlike_X10_wander : GoodIn wsL_areAlike wsX10_wander := goodIn_r _ [61, 62, 63, 64, 65, 66, 67, 68, 69, 70, 71, 72, 146, 147, 148, 149, 150, 151, 152, 153, 154, 155, 177, 178, 179, 180] (by decide +kernel) (by decide +kernel)
set_option maxRecDepth 20000 in
theorem gL_areAlike_X10_wander : GoodIn wsL_areAlike (wsV RL 95 RX10 yX10_wander wsX10_wander) := goodIn_app (goodIn_of _ (by decide +kernel)) ggL_areAlike_X10_wander
set_option maxRecDepth 20000 in
theorem ggL_areAlike_X10_alignment : GoodIn wsL_areAlike wsX10_alignment := goodIn_r _ [76, 77, 78, 146, 147, 148, 149, 150, 151, 152, 153, 154, 155, 181, 182, 183, 184, 185, 186] (by decide +kernel) (by decide +kernel)
set_option maxRecDepth 20000 in
theorem gL_areAlike_X10_alignment : GoodIn wsL_areAlike (wsV RL 98 RX10 yX10_alignment wsX10_alignment) := goodIn_app (goodIn_of _ (by decide +kernel)) ggL_areAlike_X10_alignment
set_option maxRecDepth 20000 in
theorem ggL_areAlike_X10_frames : GoodIn wsL_areAlike wsX10_frames := goodIn_r _ [82, 77, 83, 146, 147, 148, 149, 150, 151, 152, 153, 154, 155, 181, 182, 183, 184, 185, 186] (by decide +kernel) (by decide +kernel)
set_option maxRecDepth 20000 in
theorem gL_areAlike_X10_frames : GoodIn wsL_areAlike (wsV RL 101 RX10 yX10_frames wsX10_frames) := goodIn_app (goodIn_of _ (by decide +kernel)) ggL_areAlike_X10_frames
set_option maxRecDepth 20000 in
theorem ggL_areAlike_X10_losses : GoodIn wsL_areAlike wsX10_losses := goodIn_r _ [87, 77, 88, 146, 147, 148, 149, 150, 151, 152, 153, 154, 155, 181, 182, 183, 184, 185, 186] (by decide +kernel) (by decide +kernel)
set_option maxRecDepth 20000 in
theorem gL_areAlike_X10_losses : GoodIn wsL_areAlike (wsV RL 104 RX10 yX10_losses wsX10_losses) := goodIn_app (goodIn_of _ (by decide +kernel)) ggL_areAlike_X10_losses
set_option maxRecDepth 20000 in
theorem ggL_areAlike_L_bit : GoodIn wsL_areAlike wsL_bit := goodIn_ca (goodIn_r _ [92, 93, 94, 95, 96, 97, 4, 98, 99, 100, 45, 101, 102, 103, 104, 105, 106, 107, 108, 71, 109, 110, 111, 112, 113, 114, 115, 116, 146, 147, 148, 149, 150, 151, 152, 153, 154, 155, 171, 172] (by decide +kernel) (by decide +kernel)) (goodIn_sub (fun _ h => List.mem_cons_of_mem _ (List.mem_append_left _ (List.mem_append_left _ (List.mem_append_right _ h)))) (by decide +kernel))
set_option maxRecDepth 20000 in
theorem gL_areAlike_L_bit : GoodIn wsL_areAlike (va_wsS RL 107 yL_bit wsL_bit) := goodIn_app (goodIn_of _ (by decide +kernel)) ggL_areAlike_L_bit
set_option maxRecDepth 20000 in
theorem ggL_areAlike_X10_cost : GoodIn wsL_areAlike wsX10_cost := goodIn_ca (goodIn_r _ [120, 121, 122, 6, 123, 110, 4, 111, 124, 125, 126, 127, 128, 129, 130, 131, 132, 133, 108, 71, 109, 146, 147, 148, 149, 150, 151, 152, 153, 154, 155, 156, 157] (by decide +kernel) (by decide +kernel)) (goodIn_sub (fun _ h => List.mem_cons_of_mem _ (List.mem_append_left _ (List.mem_append_right _ h))) (by decide +kernel))
set_option maxRecDepth 20000 in
theorem gL_areAlike_X10_cost : GoodIn wsL_areAlike (wsV RL 110 RX10 yX10_cost wsX10_cost) := goodIn_app (goodIn_of _ (by decide +kernel)) ggL_areAlike_X10_cost
set_option maxRecDepth 20000 in
theorem ggL_areAlike_L_phase : GoodIn wsL_areAlike wsL_phase := goodIn_ca (goodIn_r _ [136, 137, 94, 138, 139, 140, 4, 141, 142, 143, 62, 144, 145, 146, 147, 148, 149, 150, 151, 152, 153, 154, 155, 177, 178, 179, 180] (by decide +kernel) (by decide +kernel)) (goodIn_sub (fun _ h => List.mem_cons_of_mem _ (List.mem_append_right _ h)) (by decide +kernel))
set_option maxRecDepth 20000 in
theorem gL_areAlike_L_phase : GoodIn wsL_areAlike (va_wsS RL 113 yL_phase wsL_phase) := goodIn_app (goodIn_of _ (by decide +kernel)) ggL_areAlike_L_phase
theorem dL_areAlike_0 : decode cL_areAlike 0 = .ok (.aload_n 0, 1) := by decide +kernel
theorem dL_areAlike_1 : decode cL_areAlike 1 = .ok (.invokevirtual 65, 3) := by decide +kernel
theorem dL_areAlike_4 : decode cL_areAlike 4 = .ok (.aload_n 1, 1) := by decide +kernel
theorem dL_areAlike_5 : decode cL_areAlike 5 = .ok (.invokevirtual 65, 3) := by decide +kernel
theorem dL_areAlike_8 : decode cL_areAlike 8 = .ok (.if_icmp .ne 150, 3) := by decide +kernel
end
section
theorem dL_areAlike_11 : decode cL_areAlike 11 = .ok (.aload_n 0, 1) := by decide +kernel
theorem dL_areAlike_12 : decode cL_areAlike 12 = .ok (.invokevirtual 68, 3) := by decide +kernel
theorem dL_areAlike_15 : decode cL_areAlike 15 = .ok (.aload_n 1, 1) := by decide +kernel
theorem dL_areAlike_16 : decode cL_areAlike 16 = .ok (.invokevirtual 68, 3) := by decide +kernel
theorem dL_areAlike_19 : decode cL_areAlike 19 = .ok (.if_icmp .ne 139, 3) := by decide +kernel
theorem dL_areAlike_22 : decode cL_areAlike 22 = .ok (.aload_n 0, 1) := by decide +kernel
theorem dL_areAlike_23 : decode cL_areAlike 23 = .ok (.invokevirtual 71, 3) := by decide +kernel
theorem dL_areAlike_26 : decode cL_areAlike 26 = .ok (.aload_n 1, 1) := by decide +kernel
theorem dL_areAlike_27 : decode cL_areAlike 27 = .ok (.invokevirtual 71, 3) := by decide +kernel
theorem dL_areAlike_30 : decode cL_areAlike 30 = .ok (.if_icmp .ne 128, 3) := by decide +kernel
theorem dL_areAlike_33 : decode cL_areAlike 33 = .ok (.aload_n 0, 1) := by decide +kernel
theorem dL_areAlike_34 : decode cL_areAlike 34 = .ok (.invokevirtual 74, 3) := by decide +kernel
theorem dL_areAlike_37 : decode cL_areAlike 37 = .ok (.aload_n 1, 1) := by decide +kernel
theorem dL_areAlike_38 : decode cL_areAlike 38 = .ok (.invokevirtual 74, 3) := by decide +kernel
theorem dL_areAlike_41 : decode cL_areAlike 41 = .ok (.if_icmp .ne 117, 3) := by decide +kernel
theorem dL_areAlike_44 : decode cL_areAlike 44 = .ok (.aload_n 0, 1) := by decide +kernel
theorem dL_areAlike_45 : decode cL_areAlike 45 = .ok (.invokevirtual 77, 3) := by decide +kernel
theorem dL_areAlike_48 : decode cL_areAlike 48 = .ok (.aload_n 1, 1) := by decide +kernel
theorem dL_areAlike_49 : decode cL_areAlike 49 = .ok (.invokevirtual 77, 3) := by decide +kernel
theorem dL_areAlike_52 : decode cL_areAlike 52 = .ok (.if_icmp .ne 106, 3) := by decide +kernel
theorem dL_areAlike_55 : decode cL_areAlike 55 = .ok (.aload_n 0, 1) := by decide +kernel
theorem dL_areAlike_56 : decode cL_areAlike 56 = .ok (.invokevirtual 80, 3) := by decide +kernel
theorem dL_areAlike_59 : decode cL_areAlike 59 = .ok (.aload_n 1, 1) := by decide +kernel
theorem dL_areAlike_60 : decode cL_areAlike 60 = .ok (.invokevirtual 80, 3) := by decide +kernel
theorem dL_areAlike_63 : decode cL_areAlike 63 = .ok (.if_icmp .ne 95, 3) := by decide +kernel
theorem dL_areAlike_66 : decode cL_areAlike 66 = .ok (.aload_n 0, 1) := by decide +kernel
theorem dL_areAlike_67 : decode cL_areAlike 67 = .ok (.invokevirtual 83, 3) := by decide +kernel
theorem dL_areAlike_70 : decode cL_areAlike 70 = .ok (.aload_n 1, 1) := by decide +kernel
theorem dL_areAlike_71 : decode cL_areAlike 71 = .ok (.invokevirtual 83, 3) := by decide +kernel
theorem dL_areAlike_74 : decode cL_areAlike 74 = .ok (.if_icmp .ne 84, 3) := by decide +kernel
theorem dL_areAlike_77 : decode cL_areAlike 77 = .ok (.aload_n 0, 1) := by decide +kernel
theorem dL_areAlike_78 : decode cL_areAlike 78 = .ok (.invokevirtual 86, 3) := by decide +kernel
theorem dL_areAlike_81 : decode cL_areAlike 81 = .ok (.aload_n 1, 1) := by decide +kernel
theorem dL_areAlike_82 : decode cL_areAlike 82 = .ok (.invokevirtual 86, 3) := by decide +kernel
theorem dL_areAlike_85 : decode cL_areAlike 85 = .ok (.if_icmp .ne 73, 3) := by decide +kernel
theorem dL_areAlike_88 : decode cL_areAlike 88 = .ok (.aload_n 0, 1) := by decide +kernel
theorem dL_areAlike_89 : decode cL_areAlike 89 = .ok (.invokevirtual 89, 3) := by decide +kernel
theorem dL_areAlike_92 : decode cL_areAlike 92 = .ok (.aload_n 1, 1) := by decide +kernel
theorem dL_areAlike_93 : decode cL_areAlike 93 = .ok (.invokevirtual 89, 3) := by decide +kernel
theorem dL_areAlike_96 : decode cL_areAlike 96 = .ok (.if_icmp .ne 62, 3) := by decide +kernel
theorem dL_areAlike_99 : decode cL_areAlike 99 = .ok (.aload_n 0, 1) := by decide +kernel
theorem dL_areAlike_100 : decode cL_areAlike 100 = .ok (.invokevirtual 92, 3) := by decide +kernel
theorem dL_areAlike_103 : decode cL_areAlike 103 = .ok (.aload_n 1, 1) := by decide +kernel
theorem dL_areAlike_104 : decode cL_areAlike 104 = .ok (.invokevirtual 92, 3) := by decide +kernel
theorem dL_areAlike_107 : decode cL_areAlike 107 = .ok (.if_icmp .ne 51, 3) := by decide +kernel
theorem dL_areAlike_110 : decode cL_areAlike 110 = .ok (.aload_n 0, 1) := by decide +kernel
theorem dL_areAlike_111 : decode cL_areAlike 111 = .ok (.invokevirtual 95, 3) := by decide +kernel
theorem dL_areAlike_114 : decode cL_areAlike 114 = .ok (.aload_n 1, 1) := by decide +kernel
theorem dL_areAlike_115 : decode cL_areAlike 115 = .ok (.invokevirtual 95, 3) := by decide +kernel
theorem dL_areAlike_118 : decode cL_areAlike 118 = .ok (.if_icmp .ne 40, 3) := by decide +kernel
theorem dL_areAlike_121 : decode cL_areAlike 121 = .ok (.aload_n 0, 1) := by decide +kernel
theorem dL_areAlike_122 : decode cL_areAlike 122 = .ok (.invokevirtual 98, 3) := by decide +kernel
theorem dL_areAlike_125 : decode cL_areAlike 125 = .ok (.aload_n 1, 1) := by decide +kernel
theorem dL_areAlike_126 : decode cL_areAlike 126 = .ok (.invokevirtual 98, 3) := by decide +kernel
theorem dL_areAlike_129 : decode cL_areAlike 129 = .ok (.if_icmp .ne 29, 3) := by decide +kernel
theorem dL_areAlike_132 : decode cL_areAlike 132 = .ok (.aload_n 0, 1) := by decide +kernel
theorem dL_areAlike_133 : decode cL_areAlike 133 = .ok (.invokevirtual 101, 3) := by decide +kernel
theorem dL_areAlike_136 : decode cL_areAlike 136 = .ok (.aload_n 1, 1) := by decide +kernel
theorem dL_areAlike_137 : decode cL_areAlike 137 = .ok (.invokevirtual 101, 3) := by decide +kernel
theorem dL_areAlike_140 : decode cL_areAlike 140 = .ok (.if_icmp .ne 18, 3) := by decide +kernel
theorem dL_areAlike_143 : decode cL_areAlike 143 = .ok (.aload_n 0, 1) := by decide +kernel
theorem dL_areAlike_144 : decode cL_areAlike 144 = .ok (.invokevirtual 104, 3) := by decide +kernel
theorem dL_areAlike_147 : decode cL_areAlike 147 = .ok (.aload_n 1, 1) := by decide +kernel
theorem dL_areAlike_148 : decode cL_areAlike 148 = .ok (.invokevirtual 104, 3) := by decide +kernel
theorem dL_areAlike_151 : decode cL_areAlike 151 = .ok (.if_icmp .ne 7, 3) := by decide +kernel
theorem dL_areAlike_154 : decode cL_areAlike 154 = .ok (.iconst 1, 1) := by decide +kernel
theorem dL_areAlike_155 : decode cL_areAlike 155 = .ok (.goto 4, 3) := by decide +kernel
theorem dL_areAlike_158 : decode cL_areAlike 158 = .ok (.iconst 0, 1) := by decide +kernel
theorem dL_areAlike_159 : decode cL_areAlike 159 = .ok (.istore_n 2, 1) := by decide +kernel
theorem dL_areAlike_160 : decode cL_areAlike 160 = .ok (.iconst 1, 1) := by decide +kernel
theorem dL_areAlike_161 : decode cL_areAlike 161 = .ok (.istore_n 3, 1) := by decide +kernel
theorem dL_areAlike_162 : decode cL_areAlike 162 = .ok (.iload_n 3, 1) := by decide +kernel
theorem dL_areAlike_163 : decode cL_areAlike 163 = .ok (.bipush 33, 2) := by decide +kernel
theorem dL_areAlike_165 : decode cL_areAlike 165 = .ok (.if_icmp .ge 32, 3) := by decide +kernel
theorem dL_areAlike_168 : decode cL_areAlike 168 = .ok (.iload_n 2, 1) := by decide +kernel
theorem dL_areAlike_169 : decode cL_areAlike 169 = .ok (.ifCond .eq 28, 3) := by decide +kernel
theorem dL_areAlike_172 : decode cL_areAlike 172 = .ok (.aload_n 0, 1) := by decide +kernel
theorem dL_areAlike_173 : decode cL_areAlike 173 = .ok (.iload_n 3, 1) := by decide +kernel
theorem dL_areAlike_174 : decode cL_areAlike 174 = .ok (.invokestatic 107, 3) := by decide +kernel
theorem dL_areAlike_177 : decode cL_areAlike 177 = .ok (.aload_n 1, 1) := by decide +kernel
theorem dL_areAlike_178 : decode cL_areAlike 178 = .ok (.iload_n 3, 1) := by decide +kernel
theorem dL_areAlike_179 : decode cL_areAlike 179 = .ok (.invokestatic 107, 3) := by decide +kernel
theorem dL_areAlike_182 : decode cL_areAlike 182 = .ok (.if_icmp .ne 7, 3) := by decide +kernel
theorem dL_areAlike_185 : decode cL_areAlike 185 = .ok (.iconst 1, 1) := by decide +kernel
theorem dL_areAlike_186 : decode cL_areAlike 186 = .ok (.goto 4, 3) := by decide +kernel
theorem dL_areAlike_189 : decode cL_areAlike 189 = .ok (.iconst 0, 1) := by decide +kernel
theorem dL_areAlike_190 : decode cL_areAlike 190 = .ok (.istore_n 2, 1) := by decide +kernel
theorem dL_areAlike_191 : decode cL_areAlike 191 = .ok (.iinc 3 1, 3) := by decide +kernel
theorem dL_areAlike_194 : decode cL_areAlike 194 = .ok (.goto (-32), 3) := by decide +kernel
theorem dL_areAlike_197 : decode cL_areAlike 197 = .ok (.iload_n 2, 1) := by decide +kernel
theorem dL_areAlike_198 : decode cL_areAlike 198 = .ok (.ifCond .eq 31, 3) := by decide +kernel
theorem dL_areAlike_201 : decode cL_areAlike 201 = .ok (.aload_n 0, 1) := by decide +kernel
theorem dL_areAlike_202 : decode cL_areAlike 202 = .ok (.iconst 3, 1) := by decide +kernel
theorem dL_areAlike_203 : decode cL_areAlike 203 = .ok (.invokevirtual 110, 3) := by decide +kernel
theorem dL_areAlike_206 : decode cL_areAlike 206 = .ok (.aload_n 1, 1) := by decide +kernel
theorem dL_areAlike_207 : decode cL_areAlike 207 = .ok (.iconst 3, 1) := by decide +kernel
theorem dL_areAlike_208 : decode cL_areAlike 208 = .ok (.invokevirtual 110, 3) := by decide +kernel
theorem dL_areAlike_211 : decode cL_areAlike 211 = .ok (.if_icmp .ne 18, 3) := by decide +kernel
theorem dL_areAlike_214 : decode cL_areAlike 214 = .ok (.aload_n 0, 1) := by decide +kernel
theorem dL_areAlike_215 : decode cL_areAlike 215 = .ok (.invokestatic 113, 3) := by decide +kernel
theorem dL_areAlike_218 : decode cL_areAlike 218 = .ok (.aload_n 1, 1) := by decide +kernel
theorem dL_areAlike_219 : decode cL_areAlike 219 = .ok (.invokestatic 113, 3) := by decide +kernel
theorem dL_areAlike_222 : decode cL_areAlike 222 = .ok (.if_icmp .ne 7, 3) := by decide +kernel
theorem dL_areAlike_225 : decode cL_areAlike 225 = .ok (.iconst 1, 1) := by decide +kernel
theorem dL_areAlike_226 : decode cL_areAlike 226 = .ok (.goto 4, 3) := by decide +kernel
theorem dL_areAlike_229 : decode cL_areAlike 229 = .ok (.iconst 0, 1) := by decide +kernel
theorem dL_areAlike_230 : decode cL_areAlike 230 = .ok (.ireturn, 1) := by decide +kernel
set_option maxRecDepth 20000 in
theorem ggL_isLineSo_X10_line : GoodIn wsL_isLineSo wsX10_line := goodIn_r _ [8, 9, 10, 67, 68, 69, 70, 71, 72, 73, 74, 75, 76, 77, 78, 79, 80, 81, 82, 83] (by decide +kernel) (by decide +kernel)
set_option maxRecDepth 20000 in
theorem gL_isLineSo_X10_line : GoodIn wsL_isLineSo (wsV RL 116 RX10 yX10_line wsX10_line) := goodIn_app (goodIn_of _ (by decide +kernel)) ggL_isLineSo_X10_line
set_option maxRecDepth 20000 in
theorem ggL_isLineSo_X10_level : GoodIn wsL_isLineSo wsX10_level := goodIn_r _ [14, 15, 16, 17, 18, 19, 20, 21, 22, 23, 24, 25, 26, 27, 28, 67, 68, 69, 70, 71, 72, 73, 74, 75, 76, 84] (by decide +kernel) (by decide +kernel)
set_option maxRecDepth 20000 in
theorem gL_isLineSo_X10_level : GoodIn wsL_isLineSo (wsV RL 119 RX10 yX10_level wsX10_level) := goodIn_app (goodIn_of _ (by decide +kernel)) ggL_isLineSo_X10_level
set_option maxRecDepth 20000 in
theorem ggL_isLineSo_X10_sender : GoodIn wsL_isLineSo wsX10_sender := goodIn_r _ [32, 9, 33, 67, 68, 69, 70, 71, 72, 73, 74, 75, 76, 77, 78, 79, 80, 81, 82, 83] (by decide +kernel) (by decide +kernel)
set_option maxRecDepth 20000 in
theorem gL_isLineSo_X10_sender : GoodIn wsL_isLineSo (wsV RL 71 RX10 yX10_sender wsX10_sender) := goodIn_app (goodIn_of _ (by decide +kernel)) ggL_isLineSo_X10_sender
set_option maxRecDepth 20000 in
theorem ggL_isLineSo_X10_receiver : GoodIn wsL_isLineSo wsX10_receiver := goodIn_r _ [37, 38, 39, 67, 68, 69, 70, 71, 72, 73, 74, 75, 76, 85] (by decide +kernel) (by decide +kernel)
set_option maxRecDepth 20000 in
theorem gL_isLineSo_X10_receiver : GoodIn wsL_isLineSo (wsV RL 74 RX10 yX10_receiver wsX10_receiver) := goodIn_app (goodIn_of _ (by decide +kernel)) ggL_isLineSo_X10_receiver
set_option maxRecDepth 20000 in
theorem ggL_isLineSo_X10_integral : GoodIn wsL_isLineSo wsX10_integral := goodIn_r _ [43, 44, 45, 67, 68, 69, 70, 71, 72, 73, 74, 75, 76, 86, 87, 88, 89, 90] (by decide +kernel) (by decide +kernel)
set_option maxRecDepth 20000 in
theorem gL_isLineSo_X10_integral : GoodIn wsL_isLineSo (wsV RL 80 RX10 yX10_integral wsX10_integral) := goodIn_app (goodIn_of _ (by decide +kernel)) ggL_isLineSo_X10_integral
set_option maxRecDepth 20000 in
theorem ggL_isLineSo_X10_control : GoodIn wsL_isLineSo wsX10_control := goodIn_r _ [49, 44, 50, 67, 68, 69, 70, 71, 72, 73, 74, 75, 76, 86, 87, 88, 89, 90] (by decide +kernel) (by decide +kernel)
set_option maxRecDepth 20000 in
theorem gL_isLineSo_X10_control : GoodIn wsL_isLineSo (wsV RL 83 RX10 yX10_control wsX10_control) := goodIn_app (goodIn_of _ (by decide +kernel)) ggL_isLineSo_X10_control
set_option maxRecDepth 20000 in
theorem ggL_isLineSo_X10_error : GoodIn wsL_isLineSo wsX10_error := goodIn_r _ [54, 44, 55, 67, 68, 69, 70, 71, 72, 73, 74, 75, 76, 86, 87, 88, 89, 90] (by decide +kernel) (by decide +kernel)
set_option maxRecDepth 20000 in
theorem gL_isLineSo_X10_error : GoodIn wsL_isLineSo (wsV RL 77 RX10 yX10_error wsX10_error) := goodIn_app (goodIn_of _ (by decide +kernel)) ggL_isLineSo_X10_error
set_option maxRecDepth 20000 in
theorem ggL_isLineSo_X10_ticks : GoodIn wsL_isLineSo wsX10_ticks := goodIn_r _ [59, 60, 61, 67, 68, 69, 70, 71, 72, 73, 74, 75, 76, 91, 92] (by decide +kernel) (by decide +kernel)
set_option maxRecDepth 20000 in
theorem gL_isLineSo_X10_ticks : GoodIn wsL_isLineSo (wsV RL 65 RX10 yX10_ticks wsX10_ticks) := goodIn_app (goodIn_of _ (by decide +kernel)) ggL_isLineSo_X10_ticks
set_option maxRecDepth 20000 in
theorem ggL_isLineSo_X10_sent : GoodIn wsL_isLineSo wsX10_sent := goodIn_r _ [65, 9, 66, 67, 68, 69, 70, 71, 72, 73, 74, 75, 76, 77, 78, 79, 80, 81, 82, 83] (by decide +kernel) (by decide +kernel)
set_option maxRecDepth 20000 in
theorem gL_isLineSo_X10_sent : GoodIn wsL_isLineSo (wsV RL 68 RX10 yX10_sent wsX10_sent) := goodIn_app (goodIn_of _ (by decide +kernel)) ggL_isLineSo_X10_sent
theorem dL_isLineSo_0 : decode cL_isLineSo 0 = .ok (.aload_n 0, 1) := by decide +kernel
theorem dL_isLineSo_1 : decode cL_isLineSo 1 = .ok (.invokevirtual 116, 3) := by decide +kernel
theorem dL_isLineSo_4 : decode cL_isLineSo 4 = .ok (.ifCond .lt 141, 3) := by decide +kernel
theorem dL_isLineSo_7 : decode cL_isLineSo 7 = .ok (.aload_n 0, 1) := by decide +kernel
theorem dL_isLineSo_8 : decode cL_isLineSo 8 = .ok (.invokevirtual 116, 3) := by decide +kernel
theorem dL_isLineSo_11 : decode cL_isLineSo 11 = .ok (.iconst 2, 1) := by decide +kernel
theorem dL_isLineSo_12 : decode cL_isLineSo 12 = .ok (.if_icmp .ge 133, 3) := by decide +kernel
theorem dL_isLineSo_15 : decode cL_isLineSo 15 = .ok (.aload_n 0, 1) := by decide +kernel
theorem dL_isLineSo_16 : decode cL_isLineSo 16 = .ok (.invokevirtual 119, 3) := by decide +kernel
theorem dL_isLineSo_19 : decode cL_isLineSo 19 = .ok (.iconst 2, 1) := by decide +kernel
theorem dL_isLineSo_20 : decode cL_isLineSo 20 = .ok (.irem, 1) := by decide +kernel
theorem dL_isLineSo_21 : decode cL_isLineSo 21 = .ok (.ifCond .ne 124, 3) := by decide +kernel
theorem dL_isLineSo_24 : decode cL_isLineSo 24 = .ok (.aload_n 0, 1) := by decide +kernel
theorem dL_isLineSo_25 : decode cL_isLineSo 25 = .ok (.invokevirtual 119, 3) := by decide +kernel
theorem dL_isLineSo_28 : decode cL_isLineSo 28 = .ok (.bipush (-8), 2) := by decide +kernel
theorem dL_isLineSo_30 : decode cL_isLineSo 30 = .ok (.if_icmp .lt 115, 3) := by decide +kernel
theorem dL_isLineSo_33 : decode cL_isLineSo 33 = .ok (.aload_n 0, 1) := by decide +kernel
theorem dL_isLineSo_34 : decode cL_isLineSo 34 = .ok (.invokevirtual 119, 3) := by decide +kernel
theorem dL_isLineSo_37 : decode cL_isLineSo 37 = .ok (.bipush 8, 2) := by decide +kernel
theorem dL_isLineSo_39 : decode cL_isLineSo 39 = .ok (.if_icmp .gt 106, 3) := by decide +kernel
theorem dL_isLineSo_42 : decode cL_isLineSo 42 = .ok (.aload_n 0, 1) := by decide +kernel
theorem dL_isLineSo_43 : decode cL_isLineSo 43 = .ok (.invokevirtual 71, 3) := by decide +kernel
theorem dL_isLineSo_46 : decode cL_isLineSo 46 = .ok (.ifCond .lt 99, 3) := by decide +kernel
theorem dL_isLineSo_49 : decode cL_isLineSo 49 = .ok (.aload_n 0, 1) := by decide +kernel
theorem dL_isLineSo_50 : decode cL_isLineSo 50 = .ok (.invokevirtual 71, 3) := by decide +kernel
theorem dL_isLineSo_53 : decode cL_isLineSo 53 = .ok (.ldc 61, 2) := by decide +kernel
theorem dL_isLineSo_55 : decode cL_isLineSo 55 = .ok (.if_icmp .ge 90, 3) := by decide +kernel
theorem dL_isLineSo_58 : decode cL_isLineSo 58 = .ok (.aload_n 0, 1) := by decide +kernel
theorem dL_isLineSo_59 : decode cL_isLineSo 59 = .ok (.invokevirtual 74, 3) := by decide +kernel
theorem dL_isLineSo_62 : decode cL_isLineSo 62 = .ok (.ifCond .lt 83, 3) := by decide +kernel
theorem dL_isLineSo_65 : decode cL_isLineSo 65 = .ok (.aload_n 0, 1) := by decide +kernel
theorem dL_isLineSo_66 : decode cL_isLineSo 66 = .ok (.invokevirtual 74, 3) := by decide +kernel
theorem dL_isLineSo_69 : decode cL_isLineSo 69 = .ok (.ldc 61, 2) := by decide +kernel
theorem dL_isLineSo_71 : decode cL_isLineSo 71 = .ok (.if_icmp .ge 74, 3) := by decide +kernel
theorem dL_isLineSo_74 : decode cL_isLineSo 74 = .ok (.aload_n 0, 1) := by decide +kernel
theorem dL_isLineSo_75 : decode cL_isLineSo 75 = .ok (.invokevirtual 80, 3) := by decide +kernel
theorem dL_isLineSo_78 : decode cL_isLineSo 78 = .ok (.ldc 122, 2) := by decide +kernel
theorem dL_isLineSo_80 : decode cL_isLineSo 80 = .ok (.if_icmp .lt 65, 3) := by decide +kernel
theorem dL_isLineSo_83 : decode cL_isLineSo 83 = .ok (.aload_n 0, 1) := by decide +kernel
theorem dL_isLineSo_84 : decode cL_isLineSo 84 = .ok (.invokevirtual 80, 3) := by decide +kernel
theorem dL_isLineSo_87 : decode cL_isLineSo 87 = .ok (.ldc 123, 2) := by decide +kernel
theorem dL_isLineSo_89 : decode cL_isLineSo 89 = .ok (.if_icmp .gt 56, 3) := by decide +kernel
theorem dL_isLineSo_92 : decode cL_isLineSo 92 = .ok (.aload_n 0, 1) := by decide +kernel
theorem dL_isLineSo_93 : decode cL_isLineSo 93 = .ok (.invokevirtual 83, 3) := by decide +kernel
theorem dL_isLineSo_96 : decode cL_isLineSo 96 = .ok (.sipush (-1024), 3) := by decide +kernel
theorem dL_isLineSo_99 : decode cL_isLineSo 99 = .ok (.if_icmp .lt 46, 3) := by decide +kernel
theorem dL_isLineSo_102 : decode cL_isLineSo 102 = .ok (.aload_n 0, 1) := by decide +kernel
theorem dL_isLineSo_103 : decode cL_isLineSo 103 = .ok (.invokevirtual 83, 3) := by decide +kernel
theorem dL_isLineSo_106 : decode cL_isLineSo 106 = .ok (.sipush 1024, 3) := by decide +kernel
theorem dL_isLineSo_109 : decode cL_isLineSo 109 = .ok (.if_icmp .gt 36, 3) := by decide +kernel
theorem dL_isLineSo_112 : decode cL_isLineSo 112 = .ok (.aload_n 0, 1) := by decide +kernel
theorem dL_isLineSo_113 : decode cL_isLineSo 113 = .ok (.invokevirtual 77, 3) := by decide +kernel
theorem dL_isLineSo_116 : decode cL_isLineSo 116 = .ok (.bipush (-128), 2) := by decide +kernel
theorem dL_isLineSo_118 : decode cL_isLineSo 118 = .ok (.aload_n 0, 1) := by decide +kernel
theorem dL_isLineSo_119 : decode cL_isLineSo 119 = .ok (.invokevirtual 65, 3) := by decide +kernel
theorem dL_isLineSo_122 : decode cL_isLineSo 122 = .ok (.isub, 1) := by decide +kernel
theorem dL_isLineSo_123 : decode cL_isLineSo 123 = .ok (.if_icmp .lt 22, 3) := by decide +kernel
theorem dL_isLineSo_126 : decode cL_isLineSo 126 = .ok (.aload_n 0, 1) := by decide +kernel
theorem dL_isLineSo_127 : decode cL_isLineSo 127 = .ok (.invokevirtual 77, 3) := by decide +kernel
theorem dL_isLineSo_130 : decode cL_isLineSo 130 = .ok (.sipush 128, 3) := by decide +kernel
theorem dL_isLineSo_133 : decode cL_isLineSo 133 = .ok (.aload_n 0, 1) := by decide +kernel
theorem dL_isLineSo_134 : decode cL_isLineSo 134 = .ok (.invokevirtual 65, 3) := by decide +kernel
theorem dL_isLineSo_137 : decode cL_isLineSo 137 = .ok (.iadd, 1) := by decide +kernel
theorem dL_isLineSo_138 : decode cL_isLineSo 138 = .ok (.if_icmp .gt 7, 3) := by decide +kernel
theorem dL_isLineSo_141 : decode cL_isLineSo 141 = .ok (.iconst 1, 1) := by decide +kernel
theorem dL_isLineSo_142 : decode cL_isLineSo 142 = .ok (.goto 4, 3) := by decide +kernel
theorem dL_isLineSo_145 : decode cL_isLineSo 145 = .ok (.iconst 0, 1) := by decide +kernel
theorem dL_isLineSo_146 : decode cL_isLineSo 146 = .ok (.istore_n 1, 1) := by decide +kernel
theorem dL_isLineSo_147 : decode cL_isLineSo 147 = .ok (.iload_n 1, 1) := by decide +kernel
theorem dL_isLineSo_148 : decode cL_isLineSo 148 = .ok (.ifCond .eq 58, 3) := by decide +kernel
theorem dL_isLineSo_151 : decode cL_isLineSo 151 = .ok (.aload_n 0, 1) := by decide +kernel
theorem dL_isLineSo_152 : decode cL_isLineSo 152 = .ok (.invokevirtual 68, 3) := by decide +kernel
theorem dL_isLineSo_155 : decode cL_isLineSo 155 = .ok (.ifCond .lt 51, 3) := by decide +kernel
theorem dL_isLineSo_158 : decode cL_isLineSo 158 = .ok (.aload_n 0, 1) := by decide +kernel
theorem dL_isLineSo_159 : decode cL_isLineSo 159 = .ok (.invokevirtual 68, 3) := by decide +kernel
theorem dL_isLineSo_162 : decode cL_isLineSo 162 = .ok (.aload_n 0, 1) := by decide +kernel
theorem dL_isLineSo_163 : decode cL_isLineSo 163 = .ok (.invokevirtual 65, 3) := by decide +kernel
theorem dL_isLineSo_166 : decode cL_isLineSo 166 = .ok (.if_icmp .gt 40, 3) := by decide +kernel
theorem dL_isLineSo_169 : decode cL_isLineSo 169 = .ok (.aload_n 0, 1) := by decide +kernel
theorem dL_isLineSo_170 : decode cL_isLineSo 170 = .ok (.invokevirtual 119, 3) := by decide +kernel
theorem dL_isLineSo_173 : decode cL_isLineSo 173 = .ok (.bipush 8, 2) := by decide +kernel
theorem dL_isLineSo_175 : decode cL_isLineSo 175 = .ok (.if_icmp .lt 11, 3) := by decide +kernel
theorem dL_isLineSo_178 : decode cL_isLineSo 178 = .ok (.aload_n 0, 1) := by decide +kernel
theorem dL_isLineSo_179 : decode cL_isLineSo 179 = .ok (.invokevirtual 116, 3) := by decide +kernel
theorem dL_isLineSo_182 : decode cL_isLineSo 182 = .ok (.iconst 1, 1) := by decide +kernel
theorem dL_isLineSo_183 : decode cL_isLineSo 183 = .ok (.if_icmp .ne 23, 3) := by decide +kernel
theorem dL_isLineSo_186 : decode cL_isLineSo 186 = .ok (.aload_n 0, 1) := by decide +kernel
theorem dL_isLineSo_187 : decode cL_isLineSo 187 = .ok (.invokevirtual 119, 3) := by decide +kernel
theorem dL_isLineSo_190 : decode cL_isLineSo 190 = .ok (.bipush (-8), 2) := by decide +kernel
theorem dL_isLineSo_192 : decode cL_isLineSo 192 = .ok (.if_icmp .gt 10, 3) := by decide +kernel
theorem dL_isLineSo_195 : decode cL_isLineSo 195 = .ok (.aload_n 0, 1) := by decide +kernel
theorem dL_isLineSo_196 : decode cL_isLineSo 196 = .ok (.invokevirtual 116, 3) := by decide +kernel
theorem dL_isLineSo_199 : decode cL_isLineSo 199 = .ok (.ifCond .ne 7, 3) := by decide +kernel
theorem dL_isLineSo_202 : decode cL_isLineSo 202 = .ok (.iconst 1, 1) := by decide +kernel
theorem dL_isLineSo_203 : decode cL_isLineSo 203 = .ok (.goto 4, 3) := by decide +kernel
theorem dL_isLineSo_206 : decode cL_isLineSo 206 = .ok (.iconst 0, 1) := by decide +kernel
theorem dL_isLineSo_207 : decode cL_isLineSo 207 = .ok (.ireturn, 1) := by decide +kernel
set_option maxRecDepth 20000 in
theorem ggL_areBitsSo_X10_received : GoodIn wsL_areBitsSo wsX10_received := goodIn_r _ [8, 9, 10, 113, 114, 115, 116, 117, 118, 119, 120, 121, 122, 123, 124] (by decide +kernel) (by decide +kernel)
set_option maxRecDepth 20000 in
theorem gL_areBitsSo_X10_received : GoodIn wsL_areBitsSo (wsV RL 86 RX10 yX10_received wsX10_received) := goodIn_app (goodIn_of _ (by decide +kernel)) ggL_areBitsSo_X10_received
set_option maxRecDepth 20000 in
theorem ggL_areBitsSo_X10_ticks : GoodIn wsL_areBitsSo wsX10_ticks := goodIn_r _ [14, 15, 16, 113, 114, 115, 116, 117, 118, 119, 120, 121, 122, 125, 126] (by decide +kernel) (by decide +kernel)
set_option maxRecDepth 20000 in
theorem gL_areBitsSo_X10_ticks : GoodIn wsL_areBitsSo (wsV RL 65 RX10 yX10_ticks wsX10_ticks) := goodIn_app (goodIn_of _ (by decide +kernel)) ggL_areBitsSo_X10_ticks
set_option maxRecDepth 20000 in
theorem ggL_areBitsSo_X10_repeated : GoodIn wsL_areBitsSo wsX10_repeated := goodIn_r _ [20, 21, 22, 113, 114, 115, 116, 117, 118, 119, 120, 121, 122, 127, 128, 129, 130] (by decide +kernel) (by decide +kernel)
set_option maxRecDepth 20000 in
theorem gL_areBitsSo_X10_repeated : GoodIn wsL_areBitsSo (wsV RL 89 RX10 yX10_repeated wsX10_repeated) := goodIn_app (goodIn_of _ (by decide +kernel)) ggL_areBitsSo_X10_repeated
set_option maxRecDepth 20000 in
theorem ggL_areBitsSo_X10_skipped : GoodIn wsL_areBitsSo wsX10_skipped := goodIn_r _ [26, 21, 27, 113, 114, 115, 116, 117, 118, 119, 120, 121, 122, 127, 128, 129, 130] (by decide +kernel) (by decide +kernel)
set_option maxRecDepth 20000 in
theorem gL_areBitsSo_X10_skipped : GoodIn wsL_areBitsSo (wsV RL 92 RX10 yX10_skipped wsX10_skipped) := goodIn_app (goodIn_of _ (by decide +kernel)) ggL_areBitsSo_X10_skipped
set_option maxRecDepth 20000 in
theorem ggL_areBitsSo_X10_sent : GoodIn wsL_areBitsSo wsX10_sent := goodIn_r _ [31, 32, 33, 113, 114, 115, 116, 117, 118, 119, 120, 121, 122, 131, 132, 133, 134, 135, 136, 137] (by decide +kernel) (by decide +kernel)
set_option maxRecDepth 20000 in
theorem gL_areBitsSo_X10_sent : GoodIn wsL_areBitsSo (wsV RL 68 RX10 yX10_sent wsX10_sent) := goodIn_app (goodIn_of _ (by decide +kernel)) ggL_areBitsSo_X10_sent
set_option maxRecDepth 20000 in
theorem ggL_areBitsSo_L_phase : GoodIn wsL_areBitsSo wsL_phase := goodIn_ca (goodIn_r _ [37, 38, 1, 39, 40, 41, 7, 42, 43, 44, 45, 46, 47, 113, 114, 115, 116, 117, 118, 119, 120, 121, 122, 138, 139, 140, 141] (by decide +kernel) (by decide +kernel)) (goodIn_sub (fun _ h => List.mem_cons_of_mem _ (List.mem_append_left _ (List.mem_append_right _ h))) (by decide +kernel))
set_option maxRecDepth 20000 in
theorem gL_areBitsSo_L_phase : GoodIn wsL_areBitsSo (va_wsS RL 113 yL_phase wsL_phase) := goodIn_app (goodIn_of _ (by decide +kernel)) ggL_areBitsSo_L_phase
set_option maxRecDepth 20000 in
theorem ggL_areBitsSo_X10_wander : GoodIn wsL_areBitsSo wsX10_wander := goodIn_r _ [51, 45, 52, 53, 54, 55, 56, 57, 58, 59, 60, 61, 113, 114, 115, 116, 117, 118, 119, 120, 121, 122, 138, 139, 140, 141] (by decide +kernel) (by decide +kernel)
set_option maxRecDepth 20000 in
theorem gL_areBitsSo_X10_wander : GoodIn wsL_areBitsSo (wsV RL 95 RX10 yX10_wander wsX10_wander) := goodIn_app (goodIn_of _ (by decide +kernel)) ggL_areBitsSo_X10_wander
set_option maxRecDepth 20000 in
theorem ggL_areBitsSo_L_bit : GoodIn wsL_areBitsSo wsL_bit := goodIn_ca (goodIn_r _ [64, 65, 1, 66, 67, 68, 7, 69, 70, 71, 9, 72, 73, 74, 75, 76, 77, 78, 79, 60, 80, 81, 82, 83, 84, 85, 86, 87, 113, 114, 115, 116, 117, 118, 119, 120, 121, 122, 123, 124] (by decide +kernel) (by decide +kernel)) (goodIn_sub (fun _ h => List.mem_cons_of_mem _ (List.mem_append_right _ h)) (by decide +kernel))
set_option maxRecDepth 20000 in
theorem gL_areBitsSo_L_bit : GoodIn wsL_areBitsSo (va_wsS RL 107 yL_bit wsL_bit) := goodIn_app (goodIn_of _ (by decide +kernel)) ggL_areBitsSo_L_bit
set_option maxRecDepth 20000 in
theorem ggL_areBitsSo_X10_isLocked : GoodIn wsL_areBitsSo wsX10_isLocked := goodIn_r _ [91, 45, 92, 93, 94, 55, 95, 96, 113, 114, 115, 116, 117, 118, 119, 120, 121, 122, 138, 139, 140, 141] (by decide +kernel) (by decide +kernel)
set_option maxRecDepth 20000 in
theorem gL_areBitsSo_X10_isLocked : GoodIn wsL_areBitsSo (wsV RL 125 RX10 yX10_isLocked wsX10_isLocked) := goodIn_app (goodIn_of _ (by decide +kernel)) ggL_areBitsSo_X10_isLocked
set_option maxRecDepth 20000 in
theorem ggL_areBitsSo_X10_alignment : GoodIn wsL_areBitsSo wsX10_alignment := goodIn_r _ [100, 101, 102, 113, 114, 115, 116, 117, 118, 119, 120, 121, 122, 142, 143, 144, 145, 146, 147] (by decide +kernel) (by decide +kernel)
set_option maxRecDepth 20000 in
theorem gL_areBitsSo_X10_alignment : GoodIn wsL_areBitsSo (wsV RL 98 RX10 yX10_alignment wsX10_alignment) := goodIn_app (goodIn_of _ (by decide +kernel)) ggL_areBitsSo_X10_alignment
set_option maxRecDepth 20000 in
theorem ggL_areBitsSo_X10_frames : GoodIn wsL_areBitsSo wsX10_frames := goodIn_r _ [106, 101, 107, 113, 114, 115, 116, 117, 118, 119, 120, 121, 122, 142, 143, 144, 145, 146, 147] (by decide +kernel) (by decide +kernel)
set_option maxRecDepth 20000 in
theorem gL_areBitsSo_X10_frames : GoodIn wsL_areBitsSo (wsV RL 101 RX10 yX10_frames wsX10_frames) := goodIn_app (goodIn_of _ (by decide +kernel)) ggL_areBitsSo_X10_frames
set_option maxRecDepth 20000 in
theorem ggL_areBitsSo_X10_losses : GoodIn wsL_areBitsSo wsX10_losses := goodIn_r _ [111, 101, 112, 113, 114, 115, 116, 117, 118, 119, 120, 121, 122, 142, 143, 144, 145, 146, 147] (by decide +kernel) (by decide +kernel)
set_option maxRecDepth 20000 in
theorem gL_areBitsSo_X10_losses : GoodIn wsL_areBitsSo (wsV RL 104 RX10 yX10_losses wsX10_losses) := goodIn_app (goodIn_of _ (by decide +kernel)) ggL_areBitsSo_X10_losses
theorem dL_areBitsSo_0 : decode cL_areBitsSo 0 = .ok (.aload_n 0, 1) := by decide +kernel
theorem dL_areBitsSo_1 : decode cL_areBitsSo 1 = .ok (.invokevirtual 86, 3) := by decide +kernel
theorem dL_areBitsSo_4 : decode cL_areBitsSo 4 = .ok (.istore_n 1, 1) := by decide +kernel
theorem dL_areBitsSo_5 : decode cL_areBitsSo 5 = .ok (.iload_n 1, 1) := by decide +kernel
theorem dL_areBitsSo_6 : decode cL_areBitsSo 6 = .ok (.ifCond .lt 90, 3) := by decide +kernel
theorem dL_areBitsSo_9 : decode cL_areBitsSo 9 = .ok (.iload_n 1, 1) := by decide +kernel
theorem dL_areBitsSo_10 : decode cL_areBitsSo 10 = .ok (.aload_n 0, 1) := by decide +kernel
theorem dL_areBitsSo_11 : decode cL_areBitsSo 11 = .ok (.invokevirtual 65, 3) := by decide +kernel
theorem dL_areBitsSo_14 : decode cL_areBitsSo 14 = .ok (.if_icmp .gt 82, 3) := by decide +kernel
theorem dL_areBitsSo_17 : decode cL_areBitsSo 17 = .ok (.aload_n 0, 1) := by decide +kernel
theorem dL_areBitsSo_18 : decode cL_areBitsSo 18 = .ok (.invokevirtual 89, 3) := by decide +kernel
theorem dL_areBitsSo_21 : decode cL_areBitsSo 21 = .ok (.ifCond .lt 75, 3) := by decide +kernel
theorem dL_areBitsSo_24 : decode cL_areBitsSo 24 = .ok (.aload_n 0, 1) := by decide +kernel
theorem dL_areBitsSo_25 : decode cL_areBitsSo 25 = .ok (.invokevirtual 89, 3) := by decide +kernel
theorem dL_areBitsSo_28 : decode cL_areBitsSo 28 = .ok (.iload_n 1, 1) := by decide +kernel
theorem dL_areBitsSo_29 : decode cL_areBitsSo 29 = .ok (.if_icmp .gt 67, 3) := by decide +kernel
theorem dL_areBitsSo_32 : decode cL_areBitsSo 32 = .ok (.aload_n 0, 1) := by decide +kernel
theorem dL_areBitsSo_33 : decode cL_areBitsSo 33 = .ok (.invokevirtual 92, 3) := by decide +kernel
theorem dL_areBitsSo_36 : decode cL_areBitsSo 36 = .ok (.ifCond .lt 60, 3) := by decide +kernel
theorem dL_areBitsSo_39 : decode cL_areBitsSo 39 = .ok (.aload_n 0, 1) := by decide +kernel
theorem dL_areBitsSo_40 : decode cL_areBitsSo 40 = .ok (.invokevirtual 92, 3) := by decide +kernel
theorem dL_areBitsSo_43 : decode cL_areBitsSo 43 = .ok (.aload_n 0, 1) := by decide +kernel
theorem dL_areBitsSo_44 : decode cL_areBitsSo 44 = .ok (.invokevirtual 68, 3) := by decide +kernel
theorem dL_areBitsSo_47 : decode cL_areBitsSo 47 = .ok (.if_icmp .gt 49, 3) := by decide +kernel
theorem dL_areBitsSo_50 : decode cL_areBitsSo 50 = .ok (.aload_n 0, 1) := by decide +kernel
theorem dL_areBitsSo_51 : decode cL_areBitsSo 51 = .ok (.invokestatic 113, 3) := by decide +kernel
theorem dL_areBitsSo_54 : decode cL_areBitsSo 54 = .ok (.ldc 25, 2) := by decide +kernel
theorem dL_areBitsSo_56 : decode cL_areBitsSo 56 = .ok (.if_icmp .ne 7, 3) := by decide +kernel
theorem dL_areBitsSo_59 : decode cL_areBitsSo 59 = .ok (.iconst 1, 1) := by decide +kernel
theorem dL_areBitsSo_60 : decode cL_areBitsSo 60 = .ok (.goto 4, 3) := by decide +kernel
theorem dL_areBitsSo_63 : decode cL_areBitsSo 63 = .ok (.iconst 0, 1) := by decide +kernel
theorem dL_areBitsSo_64 : decode cL_areBitsSo 64 = .ok (.iload_n 1, 1) := by decide +kernel
theorem dL_areBitsSo_65 : decode cL_areBitsSo 65 = .ok (.ifCond .ne 7, 3) := by decide +kernel
theorem dL_areBitsSo_68 : decode cL_areBitsSo 68 = .ok (.iconst 1, 1) := by decide +kernel
theorem dL_areBitsSo_69 : decode cL_areBitsSo 69 = .ok (.goto 4, 3) := by decide +kernel
theorem dL_areBitsSo_72 : decode cL_areBitsSo 72 = .ok (.iconst 0, 1) := by decide +kernel
theorem dL_areBitsSo_73 : decode cL_areBitsSo 73 = .ok (.if_icmp .ne 23, 3) := by decide +kernel
theorem dL_areBitsSo_76 : decode cL_areBitsSo 76 = .ok (.aload_n 0, 1) := by decide +kernel
theorem dL_areBitsSo_77 : decode cL_areBitsSo 77 = .ok (.invokevirtual 95, 3) := by decide +kernel
theorem dL_areBitsSo_80 : decode cL_areBitsSo 80 = .ok (.ifCond .lt 16, 3) := by decide +kernel
theorem dL_areBitsSo_83 : decode cL_areBitsSo 83 = .ok (.aload_n 0, 1) := by decide +kernel
theorem dL_areBitsSo_84 : decode cL_areBitsSo 84 = .ok (.invokevirtual 95, 3) := by decide +kernel
theorem dL_areBitsSo_87 : decode cL_areBitsSo 87 = .ok (.ldc 124, 2) := by decide +kernel
theorem dL_areBitsSo_89 : decode cL_areBitsSo 89 = .ok (.if_icmp .gt 7, 3) := by decide +kernel
theorem dL_areBitsSo_92 : decode cL_areBitsSo 92 = .ok (.iconst 1, 1) := by decide +kernel
theorem dL_areBitsSo_93 : decode cL_areBitsSo 93 = .ok (.goto 4, 3) := by decide +kernel
theorem dL_areBitsSo_96 : decode cL_areBitsSo 96 = .ok (.iconst 0, 1) := by decide +kernel
theorem dL_areBitsSo_97 : decode cL_areBitsSo 97 = .ok (.istore_n 2, 1) := by decide +kernel
theorem dL_areBitsSo_98 : decode cL_areBitsSo 98 = .ok (.iconst 0, 1) := by decide +kernel
theorem dL_areBitsSo_99 : decode cL_areBitsSo 99 = .ok (.istore_n 3, 1) := by decide +kernel
theorem dL_areBitsSo_100 : decode cL_areBitsSo 100 = .ok (.iload_n 3, 1) := by decide +kernel
theorem dL_areBitsSo_101 : decode cL_areBitsSo 101 = .ok (.bipush 34, 2) := by decide +kernel
theorem dL_areBitsSo_103 : decode cL_areBitsSo 103 = .ok (.if_icmp .ge 67, 3) := by decide +kernel
theorem dL_areBitsSo_106 : decode cL_areBitsSo 106 = .ok (.iload_n 2, 1) := by decide +kernel
theorem dL_areBitsSo_107 : decode cL_areBitsSo 107 = .ok (.ifCond .eq 63, 3) := by decide +kernel
theorem dL_areBitsSo_110 : decode cL_areBitsSo 110 = .ok (.aload_n 0, 1) := by decide +kernel
theorem dL_areBitsSo_111 : decode cL_areBitsSo 111 = .ok (.iload_n 3, 1) := by decide +kernel
theorem dL_areBitsSo_112 : decode cL_areBitsSo 112 = .ok (.invokestatic 107, 3) := by decide +kernel
theorem dL_areBitsSo_115 : decode cL_areBitsSo 115 = .ok (.istore 4, 2) := by decide +kernel
theorem dL_areBitsSo_117 : decode cL_areBitsSo 117 = .ok (.iload_n 3, 1) := by decide +kernel
theorem dL_areBitsSo_118 : decode cL_areBitsSo 118 = .ok (.ifCond .le 33, 3) := by decide +kernel
theorem dL_areBitsSo_121 : decode cL_areBitsSo 121 = .ok (.iload_n 3, 1) := by decide +kernel
theorem dL_areBitsSo_122 : decode cL_areBitsSo 122 = .ok (.iload_n 1, 1) := by decide +kernel
theorem dL_areBitsSo_123 : decode cL_areBitsSo 123 = .ok (.if_icmp .gt 28, 3) := by decide +kernel
theorem dL_areBitsSo_126 : decode cL_areBitsSo 126 = .ok (.iload_n 3, 1) := by decide +kernel
theorem dL_areBitsSo_127 : decode cL_areBitsSo 127 = .ok (.bipush 33, 2) := by decide +kernel
theorem dL_areBitsSo_129 : decode cL_areBitsSo 129 = .ok (.if_icmp .ge 22, 3) := by decide +kernel
theorem dL_areBitsSo_132 : decode cL_areBitsSo 132 = .ok (.iload 4, 2) := by decide +kernel
theorem dL_areBitsSo_134 : decode cL_areBitsSo 134 = .ok (.ifCond .eq 9, 3) := by decide +kernel
theorem dL_areBitsSo_137 : decode cL_areBitsSo 137 = .ok (.iload 4, 2) := by decide +kernel
theorem dL_areBitsSo_139 : decode cL_areBitsSo 139 = .ok (.iconst 1, 1) := by decide +kernel
theorem dL_areBitsSo_140 : decode cL_areBitsSo 140 = .ok (.if_icmp .ne 7, 3) := by decide +kernel
theorem dL_areBitsSo_143 : decode cL_areBitsSo 143 = .ok (.iconst 1, 1) := by decide +kernel
theorem dL_areBitsSo_144 : decode cL_areBitsSo 144 = .ok (.goto 19, 3) := by decide +kernel
theorem dL_areBitsSo_147 : decode cL_areBitsSo 147 = .ok (.iconst 0, 1) := by decide +kernel
theorem dL_areBitsSo_148 : decode cL_areBitsSo 148 = .ok (.goto 15, 3) := by decide +kernel
theorem dL_areBitsSo_151 : decode cL_areBitsSo 151 = .ok (.iload 4, 2) := by decide +kernel
theorem dL_areBitsSo_153 : decode cL_areBitsSo 153 = .ok (.ldc 25, 2) := by decide +kernel
theorem dL_areBitsSo_155 : decode cL_areBitsSo 155 = .ok (.if_icmp .ne 7, 3) := by decide +kernel
theorem dL_areBitsSo_158 : decode cL_areBitsSo 158 = .ok (.iconst 1, 1) := by decide +kernel
theorem dL_areBitsSo_159 : decode cL_areBitsSo 159 = .ok (.goto 4, 3) := by decide +kernel
theorem dL_areBitsSo_162 : decode cL_areBitsSo 162 = .ok (.iconst 0, 1) := by decide +kernel
theorem dL_areBitsSo_163 : decode cL_areBitsSo 163 = .ok (.istore_n 2, 1) := by decide +kernel
theorem dL_areBitsSo_164 : decode cL_areBitsSo 164 = .ok (.iinc 3 1, 3) := by decide +kernel
theorem dL_areBitsSo_167 : decode cL_areBitsSo 167 = .ok (.goto (-67), 3) := by decide +kernel
theorem dL_areBitsSo_170 : decode cL_areBitsSo 170 = .ok (.iload_n 2, 1) := by decide +kernel
theorem dL_areBitsSo_171 : decode cL_areBitsSo 171 = .ok (.ifCond .eq 53, 3) := by decide +kernel
theorem dL_areBitsSo_174 : decode cL_areBitsSo 174 = .ok (.iload_n 1, 1) := by decide +kernel
theorem dL_areBitsSo_175 : decode cL_areBitsSo 175 = .ok (.ifCond .eq 23, 3) := by decide +kernel
theorem dL_areBitsSo_178 : decode cL_areBitsSo 178 = .ok (.aload_n 0, 1) := by decide +kernel
theorem dL_areBitsSo_179 : decode cL_areBitsSo 179 = .ok (.invokestatic 113, 3) := by decide +kernel
theorem dL_areBitsSo_182 : decode cL_areBitsSo 182 = .ok (.sipush (-32768), 3) := by decide +kernel
theorem dL_areBitsSo_185 : decode cL_areBitsSo 185 = .ok (.if_icmp .lt 39, 3) := by decide +kernel
theorem dL_areBitsSo_188 : decode cL_areBitsSo 188 = .ok (.aload_n 0, 1) := by decide +kernel
theorem dL_areBitsSo_189 : decode cL_areBitsSo 189 = .ok (.invokestatic 113, 3) := by decide +kernel
theorem dL_areBitsSo_192 : decode cL_areBitsSo 192 = .ok (.sipush 32767, 3) := by decide +kernel
theorem dL_areBitsSo_195 : decode cL_areBitsSo 195 = .ok (.if_icmp .gt 29, 3) := by decide +kernel
theorem dL_areBitsSo_198 : decode cL_areBitsSo 198 = .ok (.aload_n 0, 1) := by decide +kernel
theorem dL_areBitsSo_199 : decode cL_areBitsSo 199 = .ok (.invokevirtual 125, 3) := by decide +kernel
theorem dL_areBitsSo_202 : decode cL_areBitsSo 202 = .ok (.ifCond .eq 18, 3) := by decide +kernel
theorem dL_areBitsSo_205 : decode cL_areBitsSo 205 = .ok (.iload_n 1, 1) := by decide +kernel
theorem dL_areBitsSo_206 : decode cL_areBitsSo 206 = .ok (.bipush 32, 2) := by decide +kernel
theorem dL_areBitsSo_208 : decode cL_areBitsSo 208 = .ok (.if_icmp .lt 16, 3) := by decide +kernel
theorem dL_areBitsSo_211 : decode cL_areBitsSo 211 = .ok (.aload_n 0, 1) := by decide +kernel
theorem dL_areBitsSo_212 : decode cL_areBitsSo 212 = .ok (.invokevirtual 95, 3) := by decide +kernel
theorem dL_areBitsSo_215 : decode cL_areBitsSo 215 = .ok (.ldc 129, 2) := by decide +kernel
theorem dL_areBitsSo_217 : decode cL_areBitsSo 217 = .ok (.if_icmp .gt 7, 3) := by decide +kernel
theorem dL_areBitsSo_220 : decode cL_areBitsSo 220 = .ok (.iconst 1, 1) := by decide +kernel
theorem dL_areBitsSo_221 : decode cL_areBitsSo 221 = .ok (.goto 4, 3) := by decide +kernel
theorem dL_areBitsSo_224 : decode cL_areBitsSo 224 = .ok (.iconst 0, 1) := by decide +kernel
theorem dL_areBitsSo_225 : decode cL_areBitsSo 225 = .ok (.istore_n 2, 1) := by decide +kernel
theorem dL_areBitsSo_226 : decode cL_areBitsSo 226 = .ok (.iload_n 2, 1) := by decide +kernel
theorem dL_areBitsSo_227 : decode cL_areBitsSo 227 = .ok (.ifCond .eq 57, 3) := by decide +kernel
theorem dL_areBitsSo_230 : decode cL_areBitsSo 230 = .ok (.aload_n 0, 1) := by decide +kernel
theorem dL_areBitsSo_231 : decode cL_areBitsSo 231 = .ok (.invokevirtual 98, 3) := by decide +kernel
theorem dL_areBitsSo_234 : decode cL_areBitsSo 234 = .ok (.ifCond .lt 50, 3) := by decide +kernel
theorem dL_areBitsSo_237 : decode cL_areBitsSo 237 = .ok (.aload_n 0, 1) := by decide +kernel
theorem dL_areBitsSo_238 : decode cL_areBitsSo 238 = .ok (.invokevirtual 98, 3) := by decide +kernel
theorem dL_areBitsSo_241 : decode cL_areBitsSo 241 = .ok (.iconst 2, 1) := by decide +kernel
theorem dL_areBitsSo_242 : decode cL_areBitsSo 242 = .ok (.if_icmp .gt 42, 3) := by decide +kernel
theorem dL_areBitsSo_245 : decode cL_areBitsSo 245 = .ok (.bipush 24, 2) := by decide +kernel
theorem dL_areBitsSo_247 : decode cL_areBitsSo 247 = .ok (.aload_n 0, 1) := by decide +kernel
theorem dL_areBitsSo_248 : decode cL_areBitsSo 248 = .ok (.invokevirtual 101, 3) := by decide +kernel
theorem dL_areBitsSo_251 : decode cL_areBitsSo 251 = .ok (.imul, 1) := by decide +kernel
theorem dL_areBitsSo_252 : decode cL_areBitsSo 252 = .ok (.iload_n 1, 1) := by decide +kernel
theorem dL_areBitsSo_253 : decode cL_areBitsSo 253 = .ok (.if_icmp .gt 31, 3) := by decide +kernel
theorem dL_areBitsSo_256 : decode cL_areBitsSo 256 = .ok (.bipush 72, 2) := by decide +kernel
theorem dL_areBitsSo_258 : decode cL_areBitsSo 258 = .ok (.aload_n 0, 1) := by decide +kernel
theorem dL_areBitsSo_259 : decode cL_areBitsSo 259 = .ok (.invokevirtual 104, 3) := by decide +kernel
theorem dL_areBitsSo_262 : decode cL_areBitsSo 262 = .ok (.imul, 1) := by decide +kernel
theorem dL_areBitsSo_263 : decode cL_areBitsSo 263 = .ok (.iload_n 1, 1) := by decide +kernel
theorem dL_areBitsSo_264 : decode cL_areBitsSo 264 = .ok (.if_icmp .gt 20, 3) := by decide +kernel
theorem dL_areBitsSo_267 : decode cL_areBitsSo 267 = .ok (.aload_n 0, 1) := by decide +kernel
theorem dL_areBitsSo_268 : decode cL_areBitsSo 268 = .ok (.invokevirtual 98, 3) := by decide +kernel
theorem dL_areBitsSo_271 : decode cL_areBitsSo 271 = .ok (.ifCond .eq 9, 3) := by decide +kernel
theorem dL_areBitsSo_274 : decode cL_areBitsSo 274 = .ok (.iload_n 1, 1) := by decide +kernel
theorem dL_areBitsSo_275 : decode cL_areBitsSo 275 = .ok (.bipush 6, 2) := by decide +kernel
theorem dL_areBitsSo_277 : decode cL_areBitsSo 277 = .ok (.if_icmp .lt 7, 3) := by decide +kernel
theorem dL_areBitsSo_280 : decode cL_areBitsSo 280 = .ok (.iconst 1, 1) := by decide +kernel
theorem dL_areBitsSo_281 : decode cL_areBitsSo 281 = .ok (.goto 4, 3) := by decide +kernel
theorem dL_areBitsSo_284 : decode cL_areBitsSo 284 = .ok (.iconst 0, 1) := by decide +kernel
theorem dL_areBitsSo_285 : decode cL_areBitsSo 285 = .ok (.ireturn, 1) := by decide +kernel
set_option maxRecDepth 20000 in
theorem ggL_areCostsSo_X10_cost : GoodIn wsL_areCostsSo wsX10_cost := goodIn_ca (goodIn_r _ [5, 6, 7, 8, 9, 10, 4, 11, 12, 13, 14, 15, 16, 17, 18, 19, 20, 21, 22, 23, 24, 29, 30, 31, 32, 33, 34, 35, 36, 37, 38, 39, 40] (by decide +kernel) (by decide +kernel)) (goodIn_sub (fun _ h => List.mem_cons_of_mem _ (List.mem_append_right _ h)) (by decide +kernel))
set_option maxRecDepth 20000 in
theorem gL_areCostsSo_X10_cost : GoodIn wsL_areCostsSo (wsV RL 110 RX10 yX10_cost wsX10_cost) := goodIn_app (goodIn_of _ (by decide +kernel)) ggL_areCostsSo_X10_cost
set_option maxRecDepth 20000 in
theorem ggL_areCostsSo_X10_bestPhase : GoodIn wsL_areCostsSo wsX10_bestPhase := goodIn_r _ [28, 8, 12, 13, 14, 15, 16, 17, 18, 19, 20, 21, 22, 23, 24, 29, 30, 31, 32, 33, 34, 35, 36, 37, 38, 39, 40] (by decide +kernel) (by decide +kernel)
set_option maxRecDepth 20000 in
theorem gL_areCostsSo_X10_bestPhase : GoodIn wsL_areCostsSo (wsV RL 130 RX10 yX10_bestPhase wsX10_bestPhase) := goodIn_app (goodIn_of _ (by decide +kernel)) ggL_areCostsSo_X10_bestPhase
theorem dL_areCostsSo_0 : decode cL_areCostsSo 0 = .ok (.aload_n 0, 1) := by decide +kernel
theorem dL_areCostsSo_1 : decode cL_areCostsSo 1 = .ok (.iconst 0, 1) := by decide +kernel
theorem dL_areCostsSo_2 : decode cL_areCostsSo 2 = .ok (.invokevirtual 110, 3) := by decide +kernel
theorem dL_areCostsSo_5 : decode cL_areCostsSo 5 = .ok (.aload_n 0, 1) := by decide +kernel
theorem dL_areCostsSo_6 : decode cL_areCostsSo 6 = .ok (.bipush 8, 2) := by decide +kernel
theorem dL_areCostsSo_8 : decode cL_areCostsSo 8 = .ok (.invokevirtual 110, 3) := by decide +kernel
theorem dL_areCostsSo_11 : decode cL_areCostsSo 11 = .ok (.iadd, 1) := by decide +kernel
theorem dL_areCostsSo_12 : decode cL_areCostsSo 12 = .ok (.istore_n 1, 1) := by decide +kernel
theorem dL_areCostsSo_13 : decode cL_areCostsSo 13 = .ok (.aload_n 0, 1) := by decide +kernel
theorem dL_areCostsSo_14 : decode cL_areCostsSo 14 = .ok (.invokevirtual 130, 3) := by decide +kernel
theorem dL_areCostsSo_17 : decode cL_areCostsSo 17 = .ok (.istore_n 2, 1) := by decide +kernel
theorem dL_areCostsSo_18 : decode cL_areCostsSo 18 = .ok (.iload_n 1, 1) := by decide +kernel
theorem dL_areCostsSo_19 : decode cL_areCostsSo 19 = .ok (.bipush 8, 2) := by decide +kernel
theorem dL_areCostsSo_21 : decode cL_areCostsSo 21 = .ok (.irem, 1) := by decide +kernel
theorem dL_areCostsSo_22 : decode cL_areCostsSo 22 = .ok (.ifCond .ne 18, 3) := by decide +kernel
theorem dL_areCostsSo_25 : decode cL_areCostsSo 25 = .ok (.iload_n 1, 1) := by decide +kernel
theorem dL_areCostsSo_26 : decode cL_areCostsSo 26 = .ok (.ifCond .lt 14, 3) := by decide +kernel
theorem dL_areCostsSo_29 : decode cL_areCostsSo 29 = .ok (.iload_n 1, 1) := by decide +kernel
theorem dL_areCostsSo_30 : decode cL_areCostsSo 30 = .ok (.sipush 2048, 3) := by decide +kernel
theorem dL_areCostsSo_33 : decode cL_areCostsSo 33 = .ok (.if_icmp .gt 7, 3) := by decide +kernel
theorem dL_areCostsSo_36 : decode cL_areCostsSo 36 = .ok (.iconst 1, 1) := by decide +kernel
theorem dL_areCostsSo_37 : decode cL_areCostsSo 37 = .ok (.goto 4, 3) := by decide +kernel
theorem dL_areCostsSo_40 : decode cL_areCostsSo 40 = .ok (.iconst 0, 1) := by decide +kernel
theorem dL_areCostsSo_41 : decode cL_areCostsSo 41 = .ok (.istore_n 3, 1) := by decide +kernel
theorem dL_areCostsSo_42 : decode cL_areCostsSo 42 = .ok (.iconst 0, 1) := by decide +kernel
theorem dL_areCostsSo_43 : decode cL_areCostsSo 43 = .ok (.istore 4, 2) := by decide +kernel
theorem dL_areCostsSo_45 : decode cL_areCostsSo 45 = .ok (.iload 4, 2) := by decide +kernel
theorem dL_areCostsSo_47 : decode cL_areCostsSo 47 = .ok (.bipush 16, 2) := by decide +kernel
theorem dL_areCostsSo_49 : decode cL_areCostsSo 49 = .ok (.if_icmp .ge 88, 3) := by decide +kernel
theorem dL_areCostsSo_52 : decode cL_areCostsSo 52 = .ok (.iload_n 3, 1) := by decide +kernel
theorem dL_areCostsSo_53 : decode cL_areCostsSo 53 = .ok (.ifCond .eq 84, 3) := by decide +kernel
theorem dL_areCostsSo_56 : decode cL_areCostsSo 56 = .ok (.aload_n 0, 1) := by decide +kernel
theorem dL_areCostsSo_57 : decode cL_areCostsSo 57 = .ok (.iload 4, 2) := by decide +kernel
theorem dL_areCostsSo_59 : decode cL_areCostsSo 59 = .ok (.invokevirtual 110, 3) := by decide +kernel
theorem dL_areCostsSo_62 : decode cL_areCostsSo 62 = .ok (.aload_n 0, 1) := by decide +kernel
theorem dL_areCostsSo_63 : decode cL_areCostsSo 63 = .ok (.iload 4, 2) := by decide +kernel
theorem dL_areCostsSo_65 : decode cL_areCostsSo 65 = .ok (.bipush 8, 2) := by decide +kernel
theorem dL_areCostsSo_67 : decode cL_areCostsSo 67 = .ok (.iadd, 1) := by decide +kernel
theorem dL_areCostsSo_68 : decode cL_areCostsSo 68 = .ok (.bipush 16, 2) := by decide +kernel
theorem dL_areCostsSo_70 : decode cL_areCostsSo 70 = .ok (.irem, 1) := by decide +kernel
theorem dL_areCostsSo_71 : decode cL_areCostsSo 71 = .ok (.invokevirtual 110, 3) := by decide +kernel
theorem dL_areCostsSo_74 : decode cL_areCostsSo 74 = .ok (.iadd, 1) := by decide +kernel
theorem dL_areCostsSo_75 : decode cL_areCostsSo 75 = .ok (.iload_n 1, 1) := by decide +kernel
theorem dL_areCostsSo_76 : decode cL_areCostsSo 76 = .ok (.if_icmp .ne 53, 3) := by decide +kernel
theorem dL_areCostsSo_79 : decode cL_areCostsSo 79 = .ok (.aload_n 0, 1) := by decide +kernel
theorem dL_areCostsSo_80 : decode cL_areCostsSo 80 = .ok (.iload 4, 2) := by decide +kernel
theorem dL_areCostsSo_82 : decode cL_areCostsSo 82 = .ok (.invokevirtual 110, 3) := by decide +kernel
theorem dL_areCostsSo_85 : decode cL_areCostsSo 85 = .ok (.ifCond .lt 44, 3) := by decide +kernel
theorem dL_areCostsSo_88 : decode cL_areCostsSo 88 = .ok (.iload 4, 2) := by decide +kernel
theorem dL_areCostsSo_90 : decode cL_areCostsSo 90 = .ok (.iload_n 2, 1) := by decide +kernel
theorem dL_areCostsSo_91 : decode cL_areCostsSo 91 = .ok (.if_icmp .ge 20, 3) := by decide +kernel
theorem dL_areCostsSo_94 : decode cL_areCostsSo 94 = .ok (.aload_n 0, 1) := by decide +kernel
theorem dL_areCostsSo_95 : decode cL_areCostsSo 95 = .ok (.iload 4, 2) := by decide +kernel
theorem dL_areCostsSo_97 : decode cL_areCostsSo 97 = .ok (.invokevirtual 110, 3) := by decide +kernel
theorem dL_areCostsSo_100 : decode cL_areCostsSo 100 = .ok (.aload_n 0, 1) := by decide +kernel
theorem dL_areCostsSo_101 : decode cL_areCostsSo 101 = .ok (.iload_n 2, 1) := by decide +kernel
theorem dL_areCostsSo_102 : decode cL_areCostsSo 102 = .ok (.invokevirtual 110, 3) := by decide +kernel
theorem dL_areCostsSo_105 : decode cL_areCostsSo 105 = .ok (.if_icmp .le 24, 3) := by decide +kernel
theorem dL_areCostsSo_108 : decode cL_areCostsSo 108 = .ok (.goto 17, 3) := by decide +kernel
theorem dL_areCostsSo_111 : decode cL_areCostsSo 111 = .ok (.aload_n 0, 1) := by decide +kernel
theorem dL_areCostsSo_112 : decode cL_areCostsSo 112 = .ok (.iload 4, 2) := by decide +kernel
theorem dL_areCostsSo_114 : decode cL_areCostsSo 114 = .ok (.invokevirtual 110, 3) := by decide +kernel
theorem dL_areCostsSo_117 : decode cL_areCostsSo 117 = .ok (.aload_n 0, 1) := by decide +kernel
theorem dL_areCostsSo_118 : decode cL_areCostsSo 118 = .ok (.iload_n 2, 1) := by decide +kernel
theorem dL_areCostsSo_119 : decode cL_areCostsSo 119 = .ok (.invokevirtual 110, 3) := by decide +kernel
theorem dL_areCostsSo_122 : decode cL_areCostsSo 122 = .ok (.if_icmp .lt 7, 3) := by decide +kernel
theorem dL_areCostsSo_125 : decode cL_areCostsSo 125 = .ok (.iconst 1, 1) := by decide +kernel
theorem dL_areCostsSo_126 : decode cL_areCostsSo 126 = .ok (.goto 4, 3) := by decide +kernel
theorem dL_areCostsSo_129 : decode cL_areCostsSo 129 = .ok (.iconst 0, 1) := by decide +kernel
theorem dL_areCostsSo_130 : decode cL_areCostsSo 130 = .ok (.istore_n 3, 1) := by decide +kernel
theorem dL_areCostsSo_131 : decode cL_areCostsSo 131 = .ok (.iinc 4 1, 3) := by decide +kernel
theorem dL_areCostsSo_134 : decode cL_areCostsSo 134 = .ok (.goto (-89), 3) := by decide +kernel
theorem dL_areCostsSo_137 : decode cL_areCostsSo 137 = .ok (.iload_n 3, 1) := by decide +kernel
theorem dL_areCostsSo_138 : decode cL_areCostsSo 138 = .ok (.ireturn, 1) := by decide +kernel
set_option maxRecDepth 20000 in
theorem ggL_law_X10_init : GoodIn wsL_law wsX10_init := goodIn_r _ [6, 7, 8, 9, 10, 11, 12, 13, 14, 15, 16, 17, 18, 19, 20, 21, 22, 23, 24, 25, 26, 27, 28, 29, 30, 31, 32, 33, 34, 35, 36, 37, 38, 39, 40, 41, 42, 43, 44, 45, 46, 47, 48, 49, 50, 51, 52, 53, 54, 55, 56, 57, 58, 59, 60, 61, 62, 63, 64, 65, 66, 67, 68, 69, 70, 71, 72, 73, 74, 75, 76, 77, 78, 79, 80, 81, 82, 83, 84, 85, 86, 87, 88, 89, 90, 91, 92, 93, 94, 95, 96, 97, 98, 99, 100, 101, 102, 103, 104, 105, 106, 107, 108, 109, 110, 111, 112, 113, 114, 115, 116, 117, 118, 119, 120, 121, 500, 501, 502, 503, 504, 505, 506, 490, 491, 492, 493, 494, 495, 496, 497, 498, 499, 507, 508, 509, 510, 511, 512, 513, 514, 515, 516, 517, 518, 519, 520, 521, 522, 523, 524, 525, 526, 527, 528, 529, 530, 531, 532, 533, 534, 535, 536, 537, 538] (by decide +kernel) (by decide +kernel)
set_option maxRecDepth 20000 in
theorem gL_law_X10_init : GoodIn wsL_law (wsX10_init) := ggL_law_X10_init
set_option maxRecDepth 20000 in
theorem ggL_law_L_cell : GoodIn wsL_law wsL_cell := goodIn_r _ [125] (by decide +kernel) (by decide +kernel)
set_option maxRecDepth 20000 in
theorem gL_law_L_cell : GoodIn wsL_law (va_wsS RL 134 yL_cell wsL_cell) := goodIn_app (goodIn_of _ (by decide +kernel)) ggL_law_L_cell
set_option maxRecDepth 20000 in
theorem ggL_law_L_act : GoodIn wsL_law wsL_act := goodIn_ca (goodIn_r _ [128, 129, 130, 131, 132, 133, 124, 134, 135, 136, 137, 138, 3, 139, 140, 141, 2, 142, 143, 144, 13, 145, 146, 147, 148, 149, 150, 151, 152, 29, 153, 154, 155, 156, 157, 158, 25, 159, 160, 161, 162, 163, 37, 164, 165, 166, 167, 168, 17, 169, 21, 33, 170, 171, 172, 173, 12, 174, 53, 54, 175, 176, 177, 178, 179, 55, 180, 56, 181, 182, 183, 184, 185, 186, 187, 57, 58, 188, 189, 190, 191, 59, 192, 193, 194, 16, 195, 64, 63, 196, 197, 198, 199, 200, 201, 202, 20, 203, 68, 70, 204, 205, 206, 28, 207, 208, 79, 80, 209, 210, 211, 212, 213, 24, 214, 74, 215, 216, 217, 218, 219, 220, 221, 222, 223, 224, 225, 226, 227, 228, 229, 230, 231, 232, 233, 234, 235, 236, 237, 238, 239, 240, 81, 241, 242, 243, 244, 245, 246, 247, 32, 248, 90, 91, 89, 249, 88, 92, 250, 251, 252, 253, 254, 255, 256, 257, 258, 259, 260, 261, 262, 263, 264, 265, 266, 82, 83, 267, 268, 269, 270, 271, 272, 273, 274, 41, 275, 45, 276, 277, 49, 278, 279, 280, 281, 78, 84, 282, 283, 284, 285, 286, 287, 288, 289, 36, 290, 97, 291, 292, 293, 294, 295, 296, 297, 298, 96, 299, 300, 301, 40, 302, 103, 104, 101, 102, 303, 304, 305, 44, 306, 112, 108, 109, 110, 307, 308, 309, 310, 311, 312, 313, 48, 314, 116, 119, 120, 315, 316, 317, 318, 121, 319, 320, 321, 322, 117, 118, 323, 324, 325, 326, 327, 328, 329, 330, 331, 332, 333, 334, 335, 336, 337, 338, 339, 340, 341, 342, 343, 344, 345, 490, 491, 492, 493, 494, 495, 496, 497, 498, 499, 500, 501, 502, 503, 504, 505, 506, 511, 512, 513, 514, 515, 516, 517, 510, 523, 524, 518, 519, 520, 521, 522, 507, 508, 509, 525, 526, 527, 528, 529, 530, 531, 532, 533, 534, 535, 536, 537, 538] (by decide +kernel) (by decide +kernel)) (goodIn_sub (fun _ h => List.mem_append_left _ (List.mem_append_left _ (List.mem_append_right _ h))) (by decide +kernel))
set_option maxRecDepth 20000 in
theorem gL_law_L_act : GoodIn wsL_law (va_wsS RL 138 yL_act wsL_act) := goodIn_app (goodIn_of _ (by decide +kernel)) ggL_law_L_act
set_option maxRecDepth 20000 in
theorem ggL_law_L_areAlike : GoodIn wsL_law wsL_areAlike := goodIn_ca (goodIn_ca (goodIn_ca (goodIn_r _ [348, 349, 350, 351, 2, 352, 21, 353, 354, 355, 356, 357, 13, 275, 358, 359, 360, 361, 276, 362, 363, 364, 365, 25, 159, 366, 367, 368, 369, 33, 370, 371, 372, 373, 374, 345, 375, 376, 377, 378, 170, 379, 380, 381, 382, 37, 164, 383, 384, 385, 386, 41, 387, 388, 389, 390, 391, 392, 393, 394, 395, 396, 45, 397, 398, 399, 44, 400, 112, 401, 242, 243, 244, 402, 403, 404, 405, 49, 406, 407, 408, 409, 410, 411, 412, 413, 414, 415, 416, 417, 418, 124, 419, 420, 3, 421, 422, 423, 424, 425, 426, 427, 428, 429, 36, 430, 96, 431, 254, 255, 147, 148, 432, 288, 289, 290, 97, 433, 434, 435, 436, 143, 144, 146, 437, 438, 439, 20, 440, 70, 441, 442, 443, 444, 445, 446, 447, 448, 449, 450, 451, 452, 453, 454, 455, 456, 490, 491, 492, 493, 494, 495, 496, 497, 498, 499, 508, 509, 500, 501, 502, 503, 504, 505, 506, 510, 518, 519, 520, 521, 522, 523, 524, 525, 526, 527, 528, 529, 530, 531, 532, 533, 534, 535, 536, 537, 538] (by decide +kernel) (by decide +kernel)) (goodIn_sub (fun _ h => List.mem_append_left _ (List.mem_append_right _ h)) (by decide +kernel))) (goodIn_sub (fun _ h => List.mem_append_left _ (List.mem_append_left _ (List.mem_append_right _ h))) (by decide +kernel))) (goodIn_sub (fun _ h => List.mem_append_right _ h) (by decide +kernel))
set_option maxRecDepth 20000 in
theorem gL_law_L_areAlike : GoodIn wsL_law (va_wsS RL 141 yL_areAlike wsL_areAlike) := goodIn_app (goodIn_of _ (by decide +kernel)) ggL_law_L_areAlike
set_option maxRecDepth 20000 in
theorem ggL_law_L_isLineSo : GoodIn wsL_law wsL_isLineSo := goodIn_r _ [459, 131, 460, 461, 462, 463, 464, 2, 465, 13, 169, 466, 467, 468, 469, 17, 226, 227, 228, 16, 229, 64, 230, 231, 232, 233, 234, 235, 236, 358, 359, 360, 361, 276, 362, 363, 364, 365, 25, 159, 371, 372, 373, 374, 33, 345, 375, 376, 377, 378, 170, 366, 367, 368, 369, 370, 349, 350, 351, 352, 21, 353, 354, 355, 356, 357, 275, 490, 491, 492, 493, 494, 495, 496, 497, 498, 499, 500, 501, 502, 503, 504, 505, 506, 507, 510, 518, 519, 520, 521, 522, 508, 509] (by decide +kernel) (by decide +kernel)
set_option maxRecDepth 20000 in
theorem gL_law_L_isLineSo : GoodIn wsL_law (va_wsS RL 145 yL_isLineSo wsL_isLineSo) := goodIn_app (goodIn_of _ (by decide +kernel)) ggL_law_L_isLineSo
set_option maxRecDepth 20000 in
theorem ggL_law_L_areBitsSo : GoodIn wsL_law wsL_areBitsSo := goodIn_ca (goodIn_ca (goodIn_r _ [472, 3, 473, 474, 379, 380, 381, 2, 382, 37, 164, 349, 350, 351, 352, 21, 353, 383, 384, 385, 386, 41, 387, 388, 389, 390, 391, 392, 354, 355, 356, 357, 13, 275, 445, 446, 124, 447, 448, 449, 450, 451, 452, 453, 454, 45, 455, 456, 393, 394, 395, 396, 397, 398, 399, 44, 400, 112, 401, 242, 243, 244, 417, 418, 419, 420, 421, 422, 423, 424, 425, 426, 427, 428, 429, 36, 430, 96, 431, 254, 255, 147, 148, 432, 288, 289, 290, 97, 475, 476, 477, 478, 479, 480, 481, 482, 110, 402, 403, 404, 405, 49, 406, 407, 408, 409, 410, 411, 412, 413, 414, 415, 416, 490, 491, 492, 493, 494, 495, 496, 497, 498, 499, 523, 524, 508, 509, 525, 526, 527, 528, 500, 501, 502, 503, 504, 505, 506, 529, 530, 531, 532, 533, 534, 535, 536, 537, 538] (by decide +kernel) (by decide +kernel)) (goodIn_sub (fun _ h => List.mem_append_right _ h) (by decide +kernel))) (goodIn_sub (fun _ h => List.mem_append_left _ (List.mem_append_right _ h)) (by decide +kernel))
set_option maxRecDepth 20000 in
theorem gL_law_L_areBitsSo : GoodIn wsL_law (va_wsS RL 149 yL_areBitsSo wsL_areBitsSo) := goodIn_app (goodIn_of _ (by decide +kernel)) ggL_law_L_areBitsSo
set_option maxRecDepth 20000 in
theorem ggL_law_L_areCostsSo : GoodIn wsL_law wsL_areCostsSo := goodIn_ca (goodIn_r _ [485, 433, 434, 435, 2, 436, 143, 144, 21, 146, 147, 148, 437, 438, 439, 20, 440, 70, 441, 442, 443, 444, 254, 243, 255, 486, 487, 488, 489, 490, 491, 492, 493, 494, 495, 496, 497, 498, 499, 508, 509] (by decide +kernel) (by decide +kernel)) (goodIn_sub (fun _ h => List.mem_append_left _ (List.mem_append_left _ (List.mem_append_right _ h))) (by decide +kernel))
set_option maxRecDepth 20000 in
theorem gL_law_L_areCostsSo : GoodIn wsL_law (va_wsS RL 152 yL_areCostsSo wsL_areCostsSo) := goodIn_app (goodIn_of _ (by decide +kernel)) ggL_law_L_areCostsSo
theorem dL_law_0 : decode cL_law 0 = .ok (.new 9, 3) := by decide +kernel
theorem dL_law_3 : decode cL_law 3 = .ok (.dup, 1) := by decide +kernel
theorem dL_law_4 : decode cL_law 4 = .ok (.invokespecial 133, 3) := by decide +kernel
theorem dL_law_7 : decode cL_law 7 = .ok (.astore_n 1, 1) := by decide +kernel
theorem dL_law_8 : decode cL_law 8 = .ok (.new 9, 3) := by decide +kernel
theorem dL_law_11 : decode cL_law 11 = .ok (.dup, 1) := by decide +kernel
theorem dL_law_12 : decode cL_law 12 = .ok (.invokespecial 133, 3) := by decide +kernel
theorem dL_law_15 : decode cL_law 15 = .ok (.astore_n 2, 1) := by decide +kernel
theorem dL_law_16 : decode cL_law 16 = .ok (.iconst 0, 1) := by decide +kernel
theorem dL_law_17 : decode cL_law 17 = .ok (.istore_n 3, 1) := by decide +kernel
theorem dL_law_18 : decode cL_law 18 = .ok (.iload_n 3, 1) := by decide +kernel
theorem dL_law_19 : decode cL_law 19 = .ok (.bipush 56, 2) := by decide +kernel
theorem dL_law_21 : decode cL_law 21 = .ok (.if_icmp .ge 87, 3) := by decide +kernel
theorem dL_law_24 : decode cL_law 24 = .ok (.aload_n 0, 1) := by decide +kernel
theorem dL_law_25 : decode cL_law 25 = .ok (.iload_n 3, 1) := by decide +kernel
theorem dL_law_26 : decode cL_law 26 = .ok (.invokestatic 134, 3) := by decide +kernel
theorem dL_law_29 : decode cL_law 29 = .ok (.istore 4, 2) := by decide +kernel
theorem dL_law_31 : decode cL_law 31 = .ok (.aload_n 1, 1) := by decide +kernel
theorem dL_law_32 : decode cL_law 32 = .ok (.iload 4, 2) := by decide +kernel
theorem dL_law_34 : decode cL_law 34 = .ok (.invokestatic 138, 3) := by decide +kernel
theorem dL_law_37 : decode cL_law 37 = .ok (.istore 5, 2) := by decide +kernel
theorem dL_law_39 : decode cL_law 39 = .ok (.iload 5, 2) := by decide +kernel
theorem dL_law_41 : decode cL_law 41 = .ok (.ldc 25, 2) := by decide +kernel
theorem dL_law_43 : decode cL_law 43 = .ok (.if_icmp .eq 14, 3) := by decide +kernel
theorem dL_law_46 : decode cL_law 46 = .ok (.aload_n 2, 1) := by decide +kernel
theorem dL_law_47 : decode cL_law 47 = .ok (.iload 4, 2) := by decide +kernel
theorem dL_law_49 : decode cL_law 49 = .ok (.invokestatic 138, 3) := by decide +kernel
theorem dL_law_52 : decode cL_law 52 = .ok (.iload 5, 2) := by decide +kernel
theorem dL_law_54 : decode cL_law 54 = .ok (.if_icmp .ne 46, 3) := by decide +kernel
theorem dL_law_57 : decode cL_law 57 = .ok (.iload_n 3, 1) := by decide +kernel
theorem dL_law_58 : decode cL_law 58 = .ok (.iconst 3, 1) := by decide +kernel
theorem dL_law_59 : decode cL_law 59 = .ok (.irem, 1) := by decide +kernel
theorem dL_law_60 : decode cL_law 60 = .ok (.iconst 2, 1) := by decide +kernel
theorem dL_law_61 : decode cL_law 61 = .ok (.if_icmp .ne 11, 3) := by decide +kernel
theorem dL_law_64 : decode cL_law 64 = .ok (.aload_n 1, 1) := by decide +kernel
theorem dL_law_65 : decode cL_law 65 = .ok (.aload_n 2, 1) := by decide +kernel
theorem dL_law_66 : decode cL_law 66 = .ok (.invokestatic 141, 3) := by decide +kernel
theorem dL_law_69 : decode cL_law 69 = .ok (.ifCond .eq 31, 3) := by decide +kernel
theorem dL_law_72 : decode cL_law 72 = .ok (.aload_n 1, 1) := by decide +kernel
theorem dL_law_73 : decode cL_law 73 = .ok (.invokestatic 145, 3) := by decide +kernel
theorem dL_law_76 : decode cL_law 76 = .ok (.ifCond .eq 24, 3) := by decide +kernel
theorem dL_law_79 : decode cL_law 79 = .ok (.aload_n 1, 1) := by decide +kernel
theorem dL_law_80 : decode cL_law 80 = .ok (.invokestatic 149, 3) := by decide +kernel
theorem dL_law_83 : decode cL_law 83 = .ok (.ifCond .eq 17, 3) := by decide +kernel
theorem dL_law_86 : decode cL_law 86 = .ok (.iload_n 3, 1) := by decide +kernel
theorem dL_law_87 : decode cL_law 87 = .ok (.iconst 4, 1) := by decide +kernel
theorem dL_law_88 : decode cL_law 88 = .ok (.irem, 1) := by decide +kernel
theorem dL_law_89 : decode cL_law 89 = .ok (.iconst 1, 1) := by decide +kernel
theorem dL_law_90 : decode cL_law 90 = .ok (.if_icmp .ne 12, 3) := by decide +kernel
theorem dL_law_93 : decode cL_law 93 = .ok (.aload_n 1, 1) := by decide +kernel
theorem dL_law_94 : decode cL_law 94 = .ok (.invokestatic 152, 3) := by decide +kernel
theorem dL_law_97 : decode cL_law 97 = .ok (.ifCond .ne 5, 3) := by decide +kernel
theorem dL_law_100 : decode cL_law 100 = .ok (.iconst 0, 1) := by decide +kernel
theorem dL_law_101 : decode cL_law 101 = .ok (.ireturn, 1) := by decide +kernel
theorem dL_law_102 : decode cL_law 102 = .ok (.iinc 3 1, 3) := by decide +kernel
theorem dL_law_105 : decode cL_law 105 = .ok (.goto (-87), 3) := by decide +kernel
theorem dL_law_108 : decode cL_law 108 = .ok (.aload_n 1, 1) := by decide +kernel
theorem dL_law_109 : decode cL_law 109 = .ok (.aload_n 2, 1) := by decide +kernel
theorem dL_law_110 : decode cL_law 110 = .ok (.invokestatic 141, 3) := by decide +kernel
theorem dL_law_113 : decode cL_law 113 = .ok (.ifCond .eq 14, 3) := by decide +kernel
theorem dL_law_116 : decode cL_law 116 = .ok (.aload_n 1, 1) := by decide +kernel
theorem dL_law_117 : decode cL_law 117 = .ok (.invokestatic 152, 3) := by decide +kernel
theorem dL_law_120 : decode cL_law 120 = .ok (.ifCond .eq 7, 3) := by decide +kernel
theorem dL_law_123 : decode cL_law 123 = .ok (.iconst 1, 1) := by decide +kernel
theorem dL_law_124 : decode cL_law 124 = .ok (.goto 4, 3) := by decide +kernel
theorem dL_law_127 : decode cL_law 127 = .ok (.iconst 0, 1) := by decide +kernel
theorem dL_law_128 : decode cL_law 128 = .ok (.ireturn, 1) := by decide +kernel
abbrev vwCl : List vw_C := [(RX0, TX0, 6), (RX1, TX1, 2), (RX2, TX2, 2), (RX3, TX3, 1), (RX4, TX4, 5), (RX5, TX5, 1), (RX6, TX6, 7), (RX7, TX7, 4), (RX8, TX8, 4), (RX9, TX9, 7), (RX10, TX10, 10)]
end
section
/-! the worlds of the class and of its check, by one numbering of the state: S.1 k the ints, S.2.1 the random state, S.2.2.1 the edges, S.2.2.2 the phases -/
abbrev St : Type := (Nat → Int32) × Int64 × (Nat → Int32) × (Nat → Int32)
def si (S : St) (k : Nat) (v : Int32) : St := (upd S.1 k v, S.2.1, S.2.2.1, S.2.2.2)
def sr (S : St) (r : Int64) : St := (S.1, r, S.2.2.1, S.2.2.2)
def sg (S : St) (i : Nat) (v : Int32) : St := (S.1, S.2.1, upd S.2.2.1 i v, S.2.2.2)
def sf (S : St) (i : Nat) (v : Int32) : St := (S.1, S.2.1, S.2.2.1, upd S.2.2.2 i v)
theorem si_at (S : St) (k : Nat) (v : Int32) : (si S k v).1 k = v := if_pos rfl
theorem si_ne {S : St} {k j : Nat} {v : Int32} (h : k ≠ j) : (si S j v).1 k = S.1 k := if_neg h
abbrev tyZI (cZ cI : ClassId) : List (ClassId × FieldType) := [(cZ, .boolean), (cI, .int)]
def wP (a : Nat → Nat) (cZ cI : ClassId) (S : St) : va_W := [(a 0, .inr (10, [.ref (a 1), .ref (a 2), .ref (a 3), .ref (a 4), .ref (a 5), .ref (a 6), .ref (a 7), .ref (a 8), .ref (a 9), .ref (a 10)])), (a 1, .inr (9, [.int (S.1 1), .int (S.1 2), .int (S.1 3), .long S.2.1, .int (S.1 5), .int (S.1 7), .int (S.1 6)])), (a 2, .inr (3, [.int (S.1 8)])), (a 3, .inr (2, [.int (S.1 9), .ref (a 11)])), (a 4, .inr (5, [.int (S.1 11)])), (a 5, .inr (6, [.int (S.1 15), .int (S.1 18), .int (S.1 19), .int (S.1 20), .int (S.1 21), .int (S.1 22), .int (S.1 23)])), (a 6, .inr (4, [.int (S.1 16), .int (S.1 17), .int (S.1 14), .int (S.1 13), .int (S.1 12)])), (a 7, .inr (1, [.int (S.1 24), .int (S.1 25)])), (a 8, .inr (8, [.int (S.1 27), .int (S.1 28), .int (S.1 40), .int (S.1 26)])), (a 9, .inr (7, [.int (S.1 41), .int (S.1 42), .int (S.1 43), .ref (a 12)])), (a 10, .inr (0, [.int (S.1 31), .int (S.1 35), .int (S.1 36), .int (S.1 44), .int (S.1 45), .int (S.1 46)])), (a 11, .inl (cZ, 256, .inl S.2.2.1)), (a 12, .inl (cI, 32, .inl S.2.2.2))]
def adP (a : Nat → Nat) : List Nat := [a 0, a 1, a 2, a 3, a 4, a 5, a 6, a 7, a 8, a 9, a 10, a 11, a 12]
def adM (a : Nat → Nat) : List Nat := [a 0, a 1, a 2]
theorem cvP {D : va_G} {ws ws2 : va_W} {H : Heap} (e : ws = ws2) (h : va_P D vwCl ws H) : va_P D vwCl ws2 H := e ▸ h
theorem cvD {A : Nat → Prop} {ws ws2 : va_W} (e : ws = ws2) (h : va_D A ws) : va_D A ws2 := e ▸ h
theorem wP_s1 (a : Nat → Nat) (cZ cI : ClassId) (S : St) (v : Int32) : (wP a cZ cI S).set 1 (a 1, .inr (9, ([.int (S.1 1), .int (S.1 2), .int (S.1 3), .long S.2.1, .int (S.1 5), .int (S.1 7), .int (S.1 6)] : List Value).set 0 (.int v))) = wP a cZ cI (si S 1 v) := rfl
theorem wP_s2 (a : Nat → Nat) (cZ cI : ClassId) (S : St) (v : Int32) : (wP a cZ cI S).set 1 (a 1, .inr (9, ([.int (S.1 1), .int (S.1 2), .int (S.1 3), .long S.2.1, .int (S.1 5), .int (S.1 7), .int (S.1 6)] : List Value).set 1 (.int v))) = wP a cZ cI (si S 2 v) := rfl
theorem wP_s3 (a : Nat → Nat) (cZ cI : ClassId) (S : St) (v : Int32) : (wP a cZ cI S).set 1 (a 1, .inr (9, ([.int (S.1 1), .int (S.1 2), .int (S.1 3), .long S.2.1, .int (S.1 5), .int (S.1 7), .int (S.1 6)] : List Value).set 2 (.int v))) = wP a cZ cI (si S 3 v) := rfl
theorem wP_sR (a : Nat → Nat) (cZ cI : ClassId) (S : St) (v : Int64) : (wP a cZ cI S).set 1 (a 1, .inr (9, ([.int (S.1 1), .int (S.1 2), .int (S.1 3), .long S.2.1, .int (S.1 5), .int (S.1 7), .int (S.1 6)] : List Value).set 3 (.long v))) = wP a cZ cI (sr S v) := rfl
theorem wP_s5 (a : Nat → Nat) (cZ cI : ClassId) (S : St) (v : Int32) : (wP a cZ cI S).set 1 (a 1, .inr (9, ([.int (S.1 1), .int (S.1 2), .int (S.1 3), .long S.2.1, .int (S.1 5), .int (S.1 7), .int (S.1 6)] : List Value).set 4 (.int v))) = wP a cZ cI (si S 5 v) := rfl
theorem wP_s7 (a : Nat → Nat) (cZ cI : ClassId) (S : St) (v : Int32) : (wP a cZ cI S).set 1 (a 1, .inr (9, ([.int (S.1 1), .int (S.1 2), .int (S.1 3), .long S.2.1, .int (S.1 5), .int (S.1 7), .int (S.1 6)] : List Value).set 5 (.int v))) = wP a cZ cI (si S 7 v) := rfl
theorem wP_s6 (a : Nat → Nat) (cZ cI : ClassId) (S : St) (v : Int32) : (wP a cZ cI S).set 1 (a 1, .inr (9, ([.int (S.1 1), .int (S.1 2), .int (S.1 3), .long S.2.1, .int (S.1 5), .int (S.1 7), .int (S.1 6)] : List Value).set 6 (.int v))) = wP a cZ cI (si S 6 v) := rfl
theorem wP_s8 (a : Nat → Nat) (cZ cI : ClassId) (S : St) (v : Int32) : (wP a cZ cI S).set 2 (a 2, .inr (3, ([.int (S.1 8)] : List Value).set 0 (.int v))) = wP a cZ cI (si S 8 v) := rfl
theorem wP_s9 (a : Nat → Nat) (cZ cI : ClassId) (S : St) (v : Int32) : (wP a cZ cI S).set 3 (a 3, .inr (2, ([.int (S.1 9), .ref (a 11)] : List Value).set 0 (.int v))) = wP a cZ cI (si S 9 v) := rfl
theorem wP_s11 (a : Nat → Nat) (cZ cI : ClassId) (S : St) (v : Int32) : (wP a cZ cI S).set 4 (a 4, .inr (5, ([.int (S.1 11)] : List Value).set 0 (.int v))) = wP a cZ cI (si S 11 v) := rfl
theorem wP_s15 (a : Nat → Nat) (cZ cI : ClassId) (S : St) (v : Int32) : (wP a cZ cI S).set 5 (a 5, .inr (6, ([.int (S.1 15), .int (S.1 18), .int (S.1 19), .int (S.1 20), .int (S.1 21), .int (S.1 22), .int (S.1 23)] : List Value).set 0 (.int v))) = wP a cZ cI (si S 15 v) := rfl
theorem wP_s18 (a : Nat → Nat) (cZ cI : ClassId) (S : St) (v : Int32) : (wP a cZ cI S).set 5 (a 5, .inr (6, ([.int (S.1 15), .int (S.1 18), .int (S.1 19), .int (S.1 20), .int (S.1 21), .int (S.1 22), .int (S.1 23)] : List Value).set 1 (.int v))) = wP a cZ cI (si S 18 v) := rfl
theorem wP_s19 (a : Nat → Nat) (cZ cI : ClassId) (S : St) (v : Int32) : (wP a cZ cI S).set 5 (a 5, .inr (6, ([.int (S.1 15), .int (S.1 18), .int (S.1 19), .int (S.1 20), .int (S.1 21), .int (S.1 22), .int (S.1 23)] : List Value).set 2 (.int v))) = wP a cZ cI (si S 19 v) := rfl
theorem wP_s20 (a : Nat → Nat) (cZ cI : ClassId) (S : St) (v : Int32) : (wP a cZ cI S).set 5 (a 5, .inr (6, ([.int (S.1 15), .int (S.1 18), .int (S.1 19), .int (S.1 20), .int (S.1 21), .int (S.1 22), .int (S.1 23)] : List Value).set 3 (.int v))) = wP a cZ cI (si S 20 v) := rfl
theorem wP_s21 (a : Nat → Nat) (cZ cI : ClassId) (S : St) (v : Int32) : (wP a cZ cI S).set 5 (a 5, .inr (6, ([.int (S.1 15), .int (S.1 18), .int (S.1 19), .int (S.1 20), .int (S.1 21), .int (S.1 22), .int (S.1 23)] : List Value).set 4 (.int v))) = wP a cZ cI (si S 21 v) := rfl
theorem wP_s22 (a : Nat → Nat) (cZ cI : ClassId) (S : St) (v : Int32) : (wP a cZ cI S).set 5 (a 5, .inr (6, ([.int (S.1 15), .int (S.1 18), .int (S.1 19), .int (S.1 20), .int (S.1 21), .int (S.1 22), .int (S.1 23)] : List Value).set 5 (.int v))) = wP a cZ cI (si S 22 v) := rfl
theorem wP_s23 (a : Nat → Nat) (cZ cI : ClassId) (S : St) (v : Int32) : (wP a cZ cI S).set 5 (a 5, .inr (6, ([.int (S.1 15), .int (S.1 18), .int (S.1 19), .int (S.1 20), .int (S.1 21), .int (S.1 22), .int (S.1 23)] : List Value).set 6 (.int v))) = wP a cZ cI (si S 23 v) := rfl
theorem wP_s16 (a : Nat → Nat) (cZ cI : ClassId) (S : St) (v : Int32) : (wP a cZ cI S).set 6 (a 6, .inr (4, ([.int (S.1 16), .int (S.1 17), .int (S.1 14), .int (S.1 13), .int (S.1 12)] : List Value).set 0 (.int v))) = wP a cZ cI (si S 16 v) := rfl
theorem wP_s17 (a : Nat → Nat) (cZ cI : ClassId) (S : St) (v : Int32) : (wP a cZ cI S).set 6 (a 6, .inr (4, ([.int (S.1 16), .int (S.1 17), .int (S.1 14), .int (S.1 13), .int (S.1 12)] : List Value).set 1 (.int v))) = wP a cZ cI (si S 17 v) := rfl
theorem wP_s14 (a : Nat → Nat) (cZ cI : ClassId) (S : St) (v : Int32) : (wP a cZ cI S).set 6 (a 6, .inr (4, ([.int (S.1 16), .int (S.1 17), .int (S.1 14), .int (S.1 13), .int (S.1 12)] : List Value).set 2 (.int v))) = wP a cZ cI (si S 14 v) := rfl
theorem wP_s13 (a : Nat → Nat) (cZ cI : ClassId) (S : St) (v : Int32) : (wP a cZ cI S).set 6 (a 6, .inr (4, ([.int (S.1 16), .int (S.1 17), .int (S.1 14), .int (S.1 13), .int (S.1 12)] : List Value).set 3 (.int v))) = wP a cZ cI (si S 13 v) := rfl
theorem wP_s12 (a : Nat → Nat) (cZ cI : ClassId) (S : St) (v : Int32) : (wP a cZ cI S).set 6 (a 6, .inr (4, ([.int (S.1 16), .int (S.1 17), .int (S.1 14), .int (S.1 13), .int (S.1 12)] : List Value).set 4 (.int v))) = wP a cZ cI (si S 12 v) := rfl
theorem wP_s24 (a : Nat → Nat) (cZ cI : ClassId) (S : St) (v : Int32) : (wP a cZ cI S).set 7 (a 7, .inr (1, ([.int (S.1 24), .int (S.1 25)] : List Value).set 0 (.int v))) = wP a cZ cI (si S 24 v) := rfl
theorem wP_s25 (a : Nat → Nat) (cZ cI : ClassId) (S : St) (v : Int32) : (wP a cZ cI S).set 7 (a 7, .inr (1, ([.int (S.1 24), .int (S.1 25)] : List Value).set 1 (.int v))) = wP a cZ cI (si S 25 v) := rfl
theorem wP_s27 (a : Nat → Nat) (cZ cI : ClassId) (S : St) (v : Int32) : (wP a cZ cI S).set 8 (a 8, .inr (8, ([.int (S.1 27), .int (S.1 28), .int (S.1 40), .int (S.1 26)] : List Value).set 0 (.int v))) = wP a cZ cI (si S 27 v) := rfl
theorem wP_s28 (a : Nat → Nat) (cZ cI : ClassId) (S : St) (v : Int32) : (wP a cZ cI S).set 8 (a 8, .inr (8, ([.int (S.1 27), .int (S.1 28), .int (S.1 40), .int (S.1 26)] : List Value).set 1 (.int v))) = wP a cZ cI (si S 28 v) := rfl
theorem wP_s40 (a : Nat → Nat) (cZ cI : ClassId) (S : St) (v : Int32) : (wP a cZ cI S).set 8 (a 8, .inr (8, ([.int (S.1 27), .int (S.1 28), .int (S.1 40), .int (S.1 26)] : List Value).set 2 (.int v))) = wP a cZ cI (si S 40 v) := rfl
theorem wP_s26 (a : Nat → Nat) (cZ cI : ClassId) (S : St) (v : Int32) : (wP a cZ cI S).set 8 (a 8, .inr (8, ([.int (S.1 27), .int (S.1 28), .int (S.1 40), .int (S.1 26)] : List Value).set 3 (.int v))) = wP a cZ cI (si S 26 v) := rfl
theorem wP_s41 (a : Nat → Nat) (cZ cI : ClassId) (S : St) (v : Int32) : (wP a cZ cI S).set 9 (a 9, .inr (7, ([.int (S.1 41), .int (S.1 42), .int (S.1 43), .ref (a 12)] : List Value).set 0 (.int v))) = wP a cZ cI (si S 41 v) := rfl
theorem wP_s42 (a : Nat → Nat) (cZ cI : ClassId) (S : St) (v : Int32) : (wP a cZ cI S).set 9 (a 9, .inr (7, ([.int (S.1 41), .int (S.1 42), .int (S.1 43), .ref (a 12)] : List Value).set 1 (.int v))) = wP a cZ cI (si S 42 v) := rfl
theorem wP_s43 (a : Nat → Nat) (cZ cI : ClassId) (S : St) (v : Int32) : (wP a cZ cI S).set 9 (a 9, .inr (7, ([.int (S.1 41), .int (S.1 42), .int (S.1 43), .ref (a 12)] : List Value).set 2 (.int v))) = wP a cZ cI (si S 43 v) := rfl
theorem wP_s31 (a : Nat → Nat) (cZ cI : ClassId) (S : St) (v : Int32) : (wP a cZ cI S).set 10 (a 10, .inr (0, ([.int (S.1 31), .int (S.1 35), .int (S.1 36), .int (S.1 44), .int (S.1 45), .int (S.1 46)] : List Value).set 0 (.int v))) = wP a cZ cI (si S 31 v) := rfl
theorem wP_s35 (a : Nat → Nat) (cZ cI : ClassId) (S : St) (v : Int32) : (wP a cZ cI S).set 10 (a 10, .inr (0, ([.int (S.1 31), .int (S.1 35), .int (S.1 36), .int (S.1 44), .int (S.1 45), .int (S.1 46)] : List Value).set 1 (.int v))) = wP a cZ cI (si S 35 v) := rfl
theorem wP_s36 (a : Nat → Nat) (cZ cI : ClassId) (S : St) (v : Int32) : (wP a cZ cI S).set 10 (a 10, .inr (0, ([.int (S.1 31), .int (S.1 35), .int (S.1 36), .int (S.1 44), .int (S.1 45), .int (S.1 46)] : List Value).set 2 (.int v))) = wP a cZ cI (si S 36 v) := rfl
theorem wP_s44 (a : Nat → Nat) (cZ cI : ClassId) (S : St) (v : Int32) : (wP a cZ cI S).set 10 (a 10, .inr (0, ([.int (S.1 31), .int (S.1 35), .int (S.1 36), .int (S.1 44), .int (S.1 45), .int (S.1 46)] : List Value).set 3 (.int v))) = wP a cZ cI (si S 44 v) := rfl
theorem wP_s45 (a : Nat → Nat) (cZ cI : ClassId) (S : St) (v : Int32) : (wP a cZ cI S).set 10 (a 10, .inr (0, ([.int (S.1 31), .int (S.1 35), .int (S.1 36), .int (S.1 44), .int (S.1 45), .int (S.1 46)] : List Value).set 4 (.int v))) = wP a cZ cI (si S 45 v) := rfl
theorem wP_s46 (a : Nat → Nat) (cZ cI : ClassId) (S : St) (v : Int32) : (wP a cZ cI S).set 10 (a 10, .inr (0, ([.int (S.1 31), .int (S.1 35), .int (S.1 36), .int (S.1 44), .int (S.1 45), .int (S.1 46)] : List Value).set 5 (.int v))) = wP a cZ cI (si S 46 v) := rfl
theorem wP_g (a : Nat → Nat) (cZ cI : ClassId) (S : St) (i : Nat) (v : Int32) : (wP a cZ cI S).set 11 (a 11, .inl (cZ, 256, .inl (upd S.2.2.1 i v))) = wP a cZ cI (sg S i v) := rfl
theorem wP_f (a : Nat → Nat) (cZ cI : ClassId) (S : St) (i : Nat) (v : Int32) : (wP a cZ cI S).set 12 (a 12, .inl (cI, 32, .inl (upd S.2.2.2 i v))) = wP a cZ cI (sf S i v) := rfl
/-- the cells that a method may change: those at the addresses as, and the new ones -/
def aA (as : List Nat) (sz : Nat) : Nat → Prop := fun q => q ∈ as ∨ sz ≤ q
def pW (D : va_G) (T : List (ClassId × FieldType)) (ws : va_W) (sz : Nat) (N : State → Prop) (U : State) : Prop := U.heap.size = sz ∧ va_P D vwCl ws U.heap ∧ va_K D vwCl T U ∧ va_D (fun _ => True) ws ∧ N U
def oW (D : va_G) (T : List (ClassId × FieldType)) (ws : va_W) (A : Nat → Prop) (t : State) : Prop := va_P D vwCl ws t.heap ∧ va_K D vwCl T t ∧ va_D A ws
/-- the links of the nest's calls of isWithin -/
def nP (U : State) : Prop := va_Nw (.methodLinkNest RX6 41 yX10_isWithin RX10) U ∧ va_Nw (.methodLinkNest RX7 25 yX10_isWithin RX10) U ∧ va_Nw (.methodLinkNest RX1 24 yX10_isWithin RX10) U
def nT (_ : State) : Prop := True
def okN (N : State → Prop) : Prop := (∀ u U : State, u.vm = U.vm → N u → N U) ∧ ∀ s U : State, s.WarmedH U.vm → N s → N U
theorem okN_P : okN nP := ⟨fun _ _ h q => ⟨va_Nw.same rfl h q.1, va_Nw.same rfl h q.2.1, va_Nw.same rfl h q.2.2⟩, fun _ _ hW q => ⟨va_Nw.warmM hW q.1, va_Nw.warmM hW q.2.1, va_Nw.warmM hW q.2.2⟩⟩
theorem okN_T : okN nT := ⟨fun _ _ _ _ => trivial, fun _ _ _ _ => trivial⟩
theorem blW {av : List Value} {D : va_G} {T : List (ClassId × FieldType)} {ws : va_W} {sz : Nat} {N : State → Prop} (hN : okN N) : FrameBlind (va_Pc av (pW D T ws sz N)) := fun a U g mk q => by
  obtain ⟨q0, q1, qP, qK, qD, qN⟩ := q
  exact ⟨q0, q1, qP, va_K.moved (u := U) (U := U.calling g mk a) (Vm.Alike.refl U.vm) qK, qD, hN.1 U _ rfl qN⟩
theorem preW {av : List Value} {D : va_G} {T : List (ClassId × FieldType)} {ws : va_W} {N : State → Prop} {A : Nat → Prop} {H : Heap} {s : State} (hP : va_P D vwCl ws H) (hK : va_K D vwCl T s) (hD : va_D A ws) (hN : okN N) (n : N s) : ∀ U : State, U.heap = H → s.WarmedH U.vm → va_Pc av (pW D T ws H.size N) av.toArray U := fun U hU hW => ⟨rfl, by rw [hU], by rw [hU]; exact hP, va_K.moved hW.alike hK, hD.weaken (fun _ _ _ _ => trivial), hN.2 s U hW n⟩
theorem aA_self {ws : va_W} {sz : Nat} {as : List Nat} (h : va_D (fun _ => True) ws) (e : ws.map (fun q => q.1) = as) : va_D (aA as sz) ws := ⟨h.1, fun _ _ hk => Or.inl (by rw [← e]; exact List.mem_map_of_mem (List.mem_of_getElem? hk))⟩
theorem aA_in {as : List Nat} {A : Nat → Prop} {H : Heap} (hAc : ∀ q : Nat, q ∈ as → A q) : ∀ q : Nat, q < H.size → aA as H.size q → A q := fun q h1 h2 => h2.elim (hAc q) (fun h => absurd h1 (Nat.not_lt.mpr h))
theorem aA_free {as : List Nat} {A : Nat → Prop} {H0 H : Heap} {locs : List Loc} (hAc : ∀ q : Nat, q ∈ as → A q) (hA : ∀ q : Nat, H0.size ≤ q → A q) (hS : va_S A H0 H locs) : ∀ q : Nat, aA as H.size q → A q := fun q h => h.elim (hAc q) (fun h => hA q (Nat.le_trans hS.1 h))
theorem backW {D : va_G} {T : List (ClassId × FieldType)} {ws : va_W} {A1 A : Nat → Prop} {t : State} {H : Heap} (h : oW D T ws A1 t) (ht : t.heap = H) (hA : ∀ q : Nat, A1 q → A q) : va_P D vwCl ws H ∧ va_D A ws := ⟨by rw [← ht]; exact h.1, h.2.2.weaken (fun _ _ _ h => hA _ h)⟩
theorem endW {D : va_G} {T : List (ClassId × FieldType)} {ws : va_W} {A : Nat → Prop} {s t : State} {H : Heap} (hP : va_P D vwCl ws H) (hK : va_K D vwCl T s) (hD : va_D A ws) (ht : t.heap = H) (hW : s.WarmedH t.vm) : oW D T ws A t := ⟨by rw [ht]; exact hP, va_K.moved hW.alike hK, hD⟩
/-- what a throw needs of the tables besides: the casts of the three exceptions, the texts -/
def nX (U : State) : Prop := nP U ∧ va_Nw (.castable "java/lang/IllegalArgumentException" "java/lang/IllegalArgumentException") U ∧ va_Nw (.castable "java/lang/IndexOutOfBoundsException" "java/lang/IndexOutOfBoundsException") U ∧ va_Nw (.castable "java/lang/IllegalStateException" "java/lang/IllegalStateException") U ∧ (∃ sa, vk_R RX10 85 "offset is out of range" sa U) ∧ (∃ sa, vk_R RX10 94 "jitter is out of range" sa U) ∧ (∃ sa, vk_R RX10 96 "seed is out of range" sa U) ∧ (∃ sa, vk_R RX10 105 "detector is out of range" sa U) ∧ (∃ sa, vk_R RX10 110 "p is out of range" sa U) ∧ (∃ sa, vk_R RX10 112 "i is out of range" sa U) ∧ (∃ sa, vk_R RX10 121 "phase is out of range" sa U) ∧ (∃ sa, vk_R RX10 132 "ticks is out of range" sa U) ∧ (∃ sa, vk_R RX10 163 "there is no such bit" sa U) ∧ (∃ sa, vk_R RX10 173 "there was no data strobe" sa U) ∧ (∃ sa, vk_R RX10 204 "remainder is out of range" sa U)
theorem str_85 {U : State} (h : nX U) : ∃ sa, vk_R RX10 85 "offset is out of range" sa U := h.2.2.2.2.1
theorem str_94 {U : State} (h : nX U) : ∃ sa, vk_R RX10 94 "jitter is out of range" sa U := h.2.2.2.2.2.1
theorem str_96 {U : State} (h : nX U) : ∃ sa, vk_R RX10 96 "seed is out of range" sa U := h.2.2.2.2.2.2.1
theorem str_105 {U : State} (h : nX U) : ∃ sa, vk_R RX10 105 "detector is out of range" sa U := h.2.2.2.2.2.2.2.1
theorem str_110 {U : State} (h : nX U) : ∃ sa, vk_R RX10 110 "p is out of range" sa U := h.2.2.2.2.2.2.2.2.1
theorem str_112 {U : State} (h : nX U) : ∃ sa, vk_R RX10 112 "i is out of range" sa U := h.2.2.2.2.2.2.2.2.2.1
theorem str_121 {U : State} (h : nX U) : ∃ sa, vk_R RX10 121 "phase is out of range" sa U := h.2.2.2.2.2.2.2.2.2.2.1
theorem str_132 {U : State} (h : nX U) : ∃ sa, vk_R RX10 132 "ticks is out of range" sa U := h.2.2.2.2.2.2.2.2.2.2.2.1
theorem str_163 {U : State} (h : nX U) : ∃ sa, vk_R RX10 163 "there is no such bit" sa U := h.2.2.2.2.2.2.2.2.2.2.2.2.1
theorem str_173 {U : State} (h : nX U) : ∃ sa, vk_R RX10 173 "there was no data strobe" sa U := h.2.2.2.2.2.2.2.2.2.2.2.2.2.1
theorem str_204 {U : State} (h : nX U) : ∃ sa, vk_R RX10 204 "remainder is out of range" sa U := h.2.2.2.2.2.2.2.2.2.2.2.2.2.2
theorem ex_same {own tx : String} {k : Nat} {u U : State} (hv : u.vm = U.vm) (h : ∃ sa, vk_R own k tx sa u) : ∃ sa, vk_R own k tx sa U := h.elim fun sa q => ⟨sa, vk_R.same hv.symm q⟩
theorem ex_warm {own tx : String} {k : Nat} {s U : State} (hW : s.WarmedH U.vm) (h : ∃ sa, vk_R own k tx sa s) : ∃ sa, vk_R own k tx sa U := h.elim fun sa q => ⟨sa, vk_R.warm hW q⟩
theorem okN_X : okN nX := by
  refine ⟨fun u U h q => ?_, fun s U hW q => ?_⟩
  · obtain ⟨a0, a1, a2, a3, b0, b1, b2, b3, b4, b5, b6, b7, b8, b9, b10⟩ := q
    exact ⟨okN_P.1 u U h a0, va_Nw.same rfl h a1, va_Nw.same rfl h a2, va_Nw.same rfl h a3, ex_same h b0, ex_same h b1, ex_same h b2, ex_same h b3, ex_same h b4, ex_same h b5, ex_same h b6, ex_same h b7, ex_same h b8, ex_same h b9, ex_same h b10⟩
  · obtain ⟨a0, a1, a2, a3, b0, b1, b2, b3, b4, b5, b6, b7, b8, b9, b10⟩ := q
    exact ⟨okN_P.2 s U hW a0, va_Nw.warmC hW a1, va_Nw.warmC hW a2, va_Nw.warmC hW a3, ex_warm hW b0, ex_warm hW b1, ex_warm hW b2, ex_warm hW b3, ex_warm hW b4, ex_warm hW b5, ex_warm hW b6, ex_warm hW b7, ex_warm hW b8, ex_warm hW b9, ex_warm hW b10⟩
/-- Throwable's two statics lie outside A -/
def xZ (A : Nat → Prop) (U : State) (H : Heap) : Prop := vx_Zq Bundle.tN "UNASSIGNED_STACK" Bundle.steD A U H ∧ vx_Zq Bundle.tN "SUPPRESSED_SENTINEL" Bundle.listD A U H
def pX (D : va_G) (T : List (ClassId × FieldType)) (ws : va_W) (sz : Nat) (as : List Nat) (U : State) : Prop := pW D T ws sz nX U ∧ xZ (aA as sz) U U.heap
theorem xZ.moved {A : Nat → Prop} {u U : State} {H : Heap} (hvm : u.vm.Alike U.vm) (h : xZ A u H) : xZ A U H := ⟨h.1.moved hvm, h.2.moved hvm⟩
theorem xZ.kept {A : Nat → Prop} {U : State} {H H1 : Heap} (h : xZ A U H) (hq : ∀ a : Nat, a < H.size → ¬ A a → H1[a]? = H[a]?) : xZ A U H1 := ⟨h.1.kept hq, h.2.kept hq⟩
theorem xZ.narrow {A B : Nat → Prop} {U : State} {H : Heap} (h : xZ A U H) (hAB : ∀ q, B q → A q) : xZ B U H := ⟨h.1.narrow hAB, h.2.narrow hAB⟩
theorem blX {av : List Value} {D : va_G} {T : List (ClassId × FieldType)} {ws : va_W} {sz : Nat} {as : List Nat} : FrameBlind (va_Pc av (pX D T ws sz as)) := fun a U g mk q => by
  obtain ⟨q0, qW, qZ⟩ := q
  exact ⟨q0, (blW (av := av) okN_X a U g mk ⟨q0, qW⟩).2, xZ.moved (u := U) (U := U.calling g mk a) (Vm.Alike.refl U.vm) qZ⟩
theorem preX {av : List Value} {D : va_G} {T : List (ClassId × FieldType)} {ws : va_W} {as : List Nat} {A : Nat → Prop} {H : Heap} {s : State} {locs : List Loc} (hP : va_P D vwCl ws H) (hK : va_K D vwCl T s) (hD : va_D A ws) (n : nX s) (hZ : xZ A s s.heap) (hS : va_S A s.heap H locs) (hf : ∀ q : Nat, aA as H.size q → A q) : ∀ U : State, U.heap = H → s.WarmedH U.vm → va_Pc av (pX D T ws H.size as) av.toArray U := fun U hU hW => ⟨rfl, (preW (av := av) hP hK hD okN_X n U hU hW).2, by
  rw [hU]
  exact ((hZ.kept (fun a h1 h2 => hS.2.1 a h1 h2)).moved hW.alike).narrow hf⟩
/-- the end of a throw, in the world that stands -/
theorem thrW {px : St → Prop} {D : va_G} {T : List (ClassId × FieldType)} {P0 : St → va_W} {A : Nat → Prop} {H : Heap} {s t : State} {locs : List Loc} {S : St} {E : String} (hp : px S) (hP : va_P D vwCl (P0 S) H) (hK : va_K D vwCl T s) (hD : va_D A (P0 S)) (hS : va_S A s.heap H locs) (hvm : s.vm.Alike t.vm) (hsz : H.size < t.heap.size) (hkp : ∀ q : Nat, q < H.size → t.heap[q]? = H[q]?) : vx_X px (fun E' u t => E' = E ∧ oW D T (P0 u) A t ∧ s.heap.size < t.heap.size) A E s t :=
  ⟨S, hp, ⟨rfl, ⟨hP.kept (fun k q hk => hkp q.1 (hP k q hk).lt), va_K.moved hvm hK, hD⟩, Nat.lt_of_le_of_lt hS.1 hsz⟩, Nat.le_trans hS.1 (Nat.le_of_lt hsz), fun q h1 h2 => (hkp q (Nat.lt_of_lt_of_le h1 hS.1)).trans (hS.2.1 q h1 h2)⟩
theorem va_asS {P : St → Prop} {u v : St} (e : u = v) (h : P v) : P u := e ▸ h
section AS
variable {p : Program} {l : Launch} {e : Env} {R : Room} {s : State} {m : MethodId} {args : Array Value} {below : List Frame} {meth : Method} {c : Code} {H : Heap} {locs : List Loc} {cells slots : Nat} {Q : State → Prop} {pc : Nat} {ls : Array Slot} {rest : List Value}
theorem lv_asi {x y : Int32} (h : x = y) (k : W p l e R s m args below meth c H locs cells slots Q (F0 m pc ls (.int y :: rest))) : W p l e R s m args below meth c H locs cells slots Q (F0 m pc ls (.int x :: rest)) := h ▸ k
theorem lv_asl {x y : Int64} (h : x = y) (k : W p l e R s m args below meth c H locs cells slots Q (F0 m pc ls (.long y :: rest))) : W p l e R s m args below meth c H locs cells slots Q (F0 m pc ls (.long x :: rest)) := h ▸ k
end AS
theorem lp_ge {i N : Nat} (hN : N < 2 ^ 31) (hi : i ≤ N) (c : nI N ≤ nI i) : i = N := Nat.le_antisymm hi ((nI_leI hN (Nat.lt_of_le_of_lt hi hN)).mp c)
theorem lp_lt {i N : Nat} (hN : N < 2 ^ 31) (hi : i ≤ N) (c : ¬ nI N ≤ nI i) : i < N := Nat.lt_of_not_le fun h => c ((nI_leI hN (Nat.lt_of_le_of_lt hi hN)).mpr h)
/-- the ticks and the received bits as naturals; what the divisions and the rows of the check want -/
def tk (S : St) : Nat := (S.1 9).toNatClampNeg
def rc (S : St) : Nat := (S.1 24).toNatClampNeg
def okJ (S : St) : Prop := 0 ≤ S.1 3 ∧ S.1 3 ≤ 2000
def okM (n : Nat) (S : St) : Prop := okJ S ∧ (S.1 9 = nI (tk S) ∧ tk S ≤ n) ∧ S.1 24 = nI (rc S) ∧ rc S ≤ n
theorem jit_ne {x : Int32} (h : 0 ≤ x ∧ x ≤ 2000) : ¬ 2 * x + 1 = 0 := by
  obtain ⟨h1, h2⟩ := h
  have q1 : (0 : Int) ≤ x.toInt := Int32.le_iff_toInt_le.mp h1
  have q2 : x.toInt ≤ 2000 := Int32.le_iff_toInt_le.mp h2
  obtain ⟨j, hj, rfl⟩ : ∃ j : Nat, j ≤ 2000 ∧ x = nI j := ⟨x.toInt.toNat, by omega, by
    apply Int32.toInt_inj.mp
    rw [nI_toInt (by omega)]
    omega⟩
  have e : 2 * nI j + 1 = nI (2 * j + 1) := by
    show nI 2 * nI j + 1 = _
    rw [pk_mul, nI_1]
  rw [e]
  exact nI_ne0 (by omega) (by omega)
theorem jit_ne64 {x : Int32} (h : 0 ≤ x ∧ x ≤ 2000) : ¬ Int32.toInt64 (2 * x + 1) = 0 := by
  intro q
  apply jit_ne h
  have q1 := congrArg Int64.toInt q
  rw [Int32.toInt_toInt64] at q1
  exact Int32.toInt_inj.mp q1
theorem okM_of {n : Nat} {S T : St} (h : okM n S) (h3 : T.1 3 = S.1 3) (h9 : T.1 9 = S.1 9) (h24 : T.1 24 = S.1 24) : okM n T := by
  unfold okM okJ tk rc at *
  rw [h3, h9, h24]
  exact h
theorem okM_up {n n2 : Nat} {S : St} (h : okM n S) (q : n ≤ n2) : okM n2 S := ⟨h.1, ⟨h.2.1.1, Nat.le_trans h.2.1.2 q⟩, h.2.2.1, Nat.le_trans h.2.2.2 q⟩
theorem okM_tk {n : Nat} {S T : St} (hn : n < 2000000) (h : okM n S) (h3 : T.1 3 = S.1 3) (h9 : T.1 9 = S.1 9 + 1) (h24 : T.1 24 = S.1 24) : okM (n + 1) T := by
  obtain ⟨h1, ⟨h2, h4⟩, h5, h6⟩ := h
  have e : T.1 9 = nI (tk S + 1) := by rw [h9, h2, nI_1]
  have e2 : tk T = tk S + 1 := by unfold tk at *; rw [e]; exact nI_clamp (by omega)
  have e3 : rc T = rc S := by unfold rc; rw [h24]
  refine ⟨by unfold okJ at *; rw [h3]; exact h1, ⟨by rw [e2]; exact e, by omega⟩, by rw [h24, e3]; exact h5, by omega⟩
theorem okM_rc {n : Nat} {S T : St} (hn : n < 2000000) (h : okM n S) (hr : rc S + 1 ≤ n) (h3 : T.1 3 = S.1 3) (h9 : T.1 9 = S.1 9) (h24 : T.1 24 = S.1 24 + 1) : okM n T := by
  obtain ⟨h1, ⟨h2, h4⟩, h5, h6⟩ := h
  have e : T.1 24 = nI (rc S + 1) := by rw [h24, h5, nI_1]
  have e2 : rc T = rc S + 1 := by unfold rc at *; rw [e]; exact nI_clamp (by omega)
  have e3 : tk T = tk S := by unfold tk; rw [h9]
  refine ⟨by unfold okJ at *; rw [h3]; exact h1, ⟨by rw [h9, e3]; exact h2, by omega⟩, by rw [e2]; exact e, by omega⟩
theorem irem_nI {x d : Int32} {n m : Nat} (hx : x = nI n) (hd : d = nI m) (hn : n < 2 ^ 31) (h0 : 0 < m) (hm : m < 2 ^ 31) : x - x / d * d = nI (n % m) := by
  rw [hx, hd]; exact pk_rem hn h0 hm
theorem irem_in {x d : Int32} {n m : Nat} (hx : x = nI n) (hd : d = nI m) (hn : n < 2 ^ 31) (h0 : 0 < m) (hm : m < 2 ^ 31) : vp_in (x - x / d * d) m := by
  rw [irem_nI hx hd hn h0 hm]; exact vp_in_nI (Nat.mod_lt _ h0) hm
theorem i32_ne {x y : Int32} (h : ¬ x = y) : x.toInt ≠ y.toInt := fun q => h (Int32.toInt_inj.mp q)
theorem sw_1_3 {x : Int32} (h1 : ¬ x = 1) (h2 : ¬ x = 2) (h3 : ¬ x = 3) : x.toInt < 1 ∨ 3 < x.toInt := by
  have q1 : x.toInt ≠ 1 := i32_ne h1
  have q2 : x.toInt ≠ 2 := i32_ne h2
  have q3 : x.toInt ≠ 3 := i32_ne h3
  omega
theorem sw_1_4 {x : Int32} (h1 : ¬ x = 1) (h2 : ¬ x = 2) (h3 : ¬ x = 3) (h4 : ¬ x = 4) : x.toInt < 1 ∨ 4 < x.toInt := by
  have q1 : x.toInt ≠ 1 := i32_ne h1
  have q2 : x.toInt ≠ 2 := i32_ne h2
  have q3 : x.toInt ≠ 3 := i32_ne h3
  have q4 : x.toInt ≠ 4 := i32_ne h4
  omega
end
section
def v_X10_isWithin_1 (S : St) (p0 : Int32) (p1 : Int32) (p2 : Int32) : Int32 := if p0 < p1 then 0 else if p2 < p0 then 0 else 1
def r_X10_isWithin (S : St) (p0 : Int32) (p1 : Int32) (p2 : Int32) : Int32 := (v_X10_isWithin_1 S p0 p1 p2)
def rm_X10_isWithin : Room := { frames := 0, cells := 0, slots := 0, locals := 0 }
set_option maxRecDepth 100000 in
set_option maxHeartbeats 4000000 in
theorem k_X10_isWithin (l : Launch) (D : va_G) (a : Nat → Nat) (cZ cI : ClassId) (S : St) (sz : Nat) (p0 : Int32) (p1 : Int32) (p2 : Int32) : Met l yX10_isWithin wsX10_isWithin rm_X10_isWithin (va_Pc [.int p0, .int p1, .int p2] (pW D (tyZI cZ cI) (wP a cZ cI S) sz nP)) (va_Qi (fun (r : Int32) (u : St) => u = S ∧ r = r_X10_isWithin S p0 p1 p2) (fun u t => oW D (tyZI cZ cI) (wP a cZ cI u) (aA (adP a) sz) t) (aA (adP a) sz)) 0 0 (aA (adP a) sz) := by
  refine Met.ofW (cc := cX10_isWithin) (maxL := 3) (ret := (some .boolean)) (by decide +kernel) rfl ?_
  intro p e s m args below meth c s₁ B hml hv
  obtain ⟨rfl, hsz, hP0, hK, hD9, hN⟩ := hv
  have hx := B.exec
  have hb := B.bytes
  have hr := B.returns
  have hts := atoms_spec (ws := wsX10_isWithin) B.pre
  have hown : s.vm.findClass RX10 = some m.cls := findClass_of_methodNamed B.named
  have hlocks := B.notSynchronized
  subst hsz
  have hD0 := aA_self (sz := s.heap.size) (as := adP a) hD9 rfl
  generalize hAe : aA (adP a) s.heap.size = A at hD0 ⊢
  have hA : ∀ q : Nat, s.heap.size ≤ q → A q := fun q h => by rw [← hAe]; exact Or.inr h
  have hAc : ∀ q : Nat, q ∈ adP a → A q := fun q h => by rw [← hAe]; exact Or.inl h
  have hS0 : va_S A s.heap s.heap [] := va_S.rf
  have hl0 := lv_entry ([.int p0, .int p1, .int p2]) (n := 3) (Nat.le_of_ble_eq_true rfl)
  rw [lg_entry_eq]
  generalize (lg_sl ([.int p0, .int p1, .int p2]) ++ List.replicate (3 - (lg_sl ([.int p0, .int p1, .int p2])).length) Slot.unset).toArray = ls0 at hl0 ⊢
  have hl0 : lv_has ls0 3 [(0, .int p0), (1, .int p1), (2, .int p2)] := hl0
  generalize hQ : MQ below _ _ s _ _ _ = Q
  clear hD9 B
  refine lv_iload_n hx hb dX10_isWithin_0 rfl (lv_at hl0 0 rfl) ?_
  refine lv_iload_n hx hb dX10_isWithin_1 rfl (lv_at hl0 1 rfl) ?_
  have J1_2 : W p l e (headSpec wsX10_isWithin rm_X10_isWithin).room s m ([.int p0, .int p1, .int p2] : List Value).toArray below meth c s.heap [] 0 0 Q (F0 m 15 ls0 [.int (v_X10_isWithin_1 S p0 p1 p2)]) := by
    subst hQ; exact W.zret (v := (v_X10_isWithin_1 S p0 p1 p2)) hx hb hr (by unfold v_X10_isWithin_1; (repeat' split) <;> decide) (fun t ht hW => ⟨⟨(v_X10_isWithin_1 S p0 p1 p2), S, rfl, ⟨rfl, (show (v_X10_isWithin_1 S p0 p1 p2) = r_X10_isWithin S p0 p1 p2 from rfl)⟩, endW hP0 hK hD0 ht hW⟩, hS0.F ht⟩) hS0.2.2 dX10_isWithin_15
  refine lv_icmp_lt (tgt := 14) hx hb dX10_isWithin_2 (by decide) (fun c1_2 => ?_) (fun c1_2 => ?_)
  · refine lv_iconst (v := 0) hx hb dX10_isWithin_14 (by decide) ?_
    refine lv_asi (y := (v_X10_isWithin_1 S p0 p1 p2)) (show (v_X10_isWithin_1 S p0 p1 p2) = 0 from (if_pos c1_2)).symm ?_
    exact J1_2
  · refine lv_iload_n hx hb dX10_isWithin_5 rfl (lv_at hl0 0 rfl) ?_
    refine lv_iload_n hx hb dX10_isWithin_6 rfl (lv_at hl0 2 rfl) ?_
    refine lv_icmp_gt (tgt := 14) hx hb dX10_isWithin_7 (by decide) (fun c2_7 => ?_) (fun c2_7 => ?_)
    · refine lv_iconst (v := 0) hx hb dX10_isWithin_14 (by decide) ?_
      refine lv_asi (y := (v_X10_isWithin_1 S p0 p1 p2)) (show (v_X10_isWithin_1 S p0 p1 p2) = 0 from ((if_neg c1_2).trans (if_pos c2_7))).symm ?_
      exact J1_2
    · refine lv_iconst (v := 1) hx hb dX10_isWithin_10 (by decide) ?_
      refine lv_goto (tgt := 15) hx hb dX10_isWithin_11 (by decide) ?_
      refine lv_asi (y := (v_X10_isWithin_1 S p0 p1 p2)) (show (v_X10_isWithin_1 S p0 p1 p2) = 1 from ((if_neg c1_2).trans (if_neg c2_7))).symm ?_
      exact J1_2
theorem z_X10_isWithin (S : St) (p0 : Int32) (p1 : Int32) (p2 : Int32) : narrow .boolean (.int (r_X10_isWithin S p0 p1 p2)) = .int (r_X10_isWithin S p0 p1 p2) := by
  unfold r_X10_isWithin
  first
    | ((repeat' split) <;> decide)
    | (simp only [v_X10_isWithin_1]; (repeat' split) <;> decide)
end
section
def v_X1_remembers_1 (S : St) (p0 : Int32) : Int32 := if (S.1 24) < 32 then (S.1 24) else 32
def v_X1_remembers_2 (S : St) (p0 : Int32) : Int32 := r_X10_isWithin S p0 1 (v_X1_remembers_1 S p0)
def r_X1_remembers (S : St) (p0 : Int32) : Int32 := (v_X1_remembers_2 S p0)
def rm_X1_remembers : Room := { frames := 1, cells := 0, slots := 0, locals := 22 }
set_option maxRecDepth 100000 in
set_option maxHeartbeats 4000000 in
theorem k_X1_remembers (l : Launch) (D : va_G) (a : Nat → Nat) (cZ cI : ClassId) (S : St) (sz : Nat) (p0 : Int32) : Met l yX1_remembers wsX1_remembers rm_X1_remembers (va_Pc [.ref (a 7), .int p0] (pW D (tyZI cZ cI) (wP a cZ cI S) sz nP)) (va_Qi (fun (r : Int32) (u : St) => u = S ∧ r = r_X1_remembers S p0) (fun u t => oW D (tyZI cZ cI) (wP a cZ cI u) (aA (adP a) sz) t) (aA (adP a) sz)) 0 0 (aA (adP a) sz) := by
  refine Met.ofW (cc := cX1_remembers) (maxL := 2) (ret := (some .boolean)) (by decide +kernel) rfl ?_
  intro p e s m args below meth c s₁ B hml hv
  obtain ⟨rfl, hsz, hP0, hK, hD9, hN⟩ := hv
  have hx := B.exec
  have hb := B.bytes
  have hr := B.returns
  have hts := atoms_spec (ws := wsX1_remembers) B.pre
  have hown : s.vm.findClass RX1 = some m.cls := findClass_of_methodNamed B.named
  have hlocks := B.notSynchronized
  subst hsz
  have hD0 := aA_self (sz := s.heap.size) (as := adP a) hD9 rfl
  generalize hAe : aA (adP a) s.heap.size = A at hD0 ⊢
  have hA : ∀ q : Nat, s.heap.size ≤ q → A q := fun q h => by rw [← hAe]; exact Or.inr h
  have hAc : ∀ q : Nat, q ∈ adP a → A q := fun q h => by rw [← hAe]; exact Or.inl h
  have hS0 : va_S A s.heap s.heap [] := va_S.rf
  have hl0 := lv_entry ([.ref (a 7), .int p0]) (n := 2) (Nat.le_of_ble_eq_true rfl)
  rw [lg_entry_eq]
  generalize (lg_sl ([.ref (a 7), .int p0]) ++ List.replicate (2 - (lg_sl ([.ref (a 7), .int p0])).length) Slot.unset).toArray = ls0 at hl0 ⊢
  have hl0 : lv_has ls0 2 [(0, .ref (a 7)), (1, .int p0)] := hl0
  generalize hQ : MQ below _ _ s _ _ _ = Q
  clear hD9 B
  refine lv_iload_n hx hb dX1_remembers_0 rfl (lv_at hl0 1 rfl) ?_
  refine lv_iconst (v := 1) hx hb dX1_remembers_1 (by decide) ?_
  refine lv_bipush (v := 32) hx hb dX1_remembers_2 (by decide) ?_
  refine lv_aload_n hx hb dX1_remembers_4 rfl (lv_at hl0 0 rfl) ?_
  refine va_get (D := D) (ci := 1) (v := .int (S.1 24)) (C := RX1) (T := TX1) (N := 2) hx hb hts (fun _ h => List.mem_cons_of_mem _ (List.mem_append_right _ (h))) hown hK hP0 7 rfl rfl 0 (by decide) (hts (.fieldLink RX1 9 "Phaselock$BitLog" "count" "I") (List.mem_cons_of_mem _ (List.mem_append_left _ (List.mem_of_getElem? (i := 0) rfl)))) (fun _ h9 => h9) rfl dX1_remembers_5 ?_
  refine va_mmin hx hb (hml.trans hl0.1.symm) hown (hts (.methodLink RX1 18 Lib.Math.min.name) (List.mem_cons_of_mem _ (List.mem_append_left _ (List.mem_of_getElem? (i := 1) rfl)))) (hts (.static Lib.Math.min.name) (List.mem_cons_of_mem _ (List.mem_append_left _ (List.mem_of_getElem? (i := 2) rfl)))) (hts (.initialized "java/lang/Math") (List.mem_cons_of_mem _ (List.mem_append_left _ (List.mem_of_getElem? (i := 3) rfl)))) (hts (.code Lib.Math.min.name Lib.Math.min.code 2 (some .int)) (List.mem_cons_of_mem _ (List.mem_append_left _ (List.mem_of_getElem? (i := 4) rfl)))) (Nat.le_of_ble_eq_true rfl) (Nat.le_of_ble_eq_true rfl) (Nat.le_refl 0) (Nat.le_refl 0) dX1_remembers_8 ?_
  refine lv_asi (y := (v_X1_remembers_1 S p0)) rfl ?_
  refine va_calli (va_runSN (As := [.int p0, .int 1, .int (v_X1_remembers_1 S p0)]) (rest := []) ⟨hx, hb, hml, hown, hts⟩ (k_X10_isWithin l D a cZ cI S s.heap.size p0 1 (v_X1_remembers_1 S p0)) ⟨va_cnB 3 hts gX1_remembers_X10_isWithin_n24 rfl rfl rfl hN.2.2 (hts (.initialized RX10) (List.mem_cons_of_mem _ (List.mem_append_left _ (List.mem_of_getElem? (i := 6) rfl)))) (by decide +kernel) ⟨Nat.le_of_ble_eq_true rfl, Nat.le_of_ble_eq_true rfl⟩, (hts (.static yX10_isWithin) (List.mem_cons_of_mem _ (List.mem_append_left _ (List.mem_of_getElem? (i := 5) rfl)))), trivial⟩ ⟨blW okN_P, preW hP0 hK hD0 okN_P hN⟩ rfl rfl hl0.1 rfl (lv_room (Nat.le_of_ble_eq_true rfl)) dX1_remembers_11 ⟨Nat.zero_le _, Nat.zero_le _⟩) hS0 (aA_in hAc) (aA_free hAc hA hS0) (fun r1 u1 t1 H1 L1 ht1 hvm1 hw1 hB1 _ _ hS1 => ?_)
  obtain ⟨hP1, hD1⟩ := backW hB1 ht1 (aA_free hAc hA hS0)
  clear hB1 ht1 hvm1 t1
  obtain ⟨hu1, hr1⟩ := hw1
  subst u1; subst r1
  clear hP0 hD0 hS0
  refine lv_asi (y := (v_X1_remembers_2 S p0)) rfl ?_
  subst hQ; exact W.zret (v := (v_X1_remembers_2 S p0)) hx hb hr (z_X10_isWithin S p0 1 (v_X1_remembers_1 S p0)) (fun t ht hW => ⟨⟨(v_X1_remembers_2 S p0), S, rfl, ⟨rfl, (show (v_X1_remembers_2 S p0) = r_X1_remembers S p0 from rfl)⟩, endW hP1 hK hD1 ht hW⟩, hS1.F ht⟩) hS1.2.2 dX1_remembers_14
theorem z_X1_remembers (S : St) (p0 : Int32) : narrow .boolean (.int (r_X1_remembers S p0)) = .int (r_X1_remembers S p0) := by
  exact z_X10_isWithin S p0 1 (v_X1_remembers_1 S p0)

def v_X1_findBit_1 (S : St) (p0 : Int32) : Int32 := p0 - 1
def v_X1_findBit_2 (S : St) (p0 : Int32) : Int32 := ((S.1 25).toUInt32 >>> ((v_X1_findBit_1 S p0).toUInt32 &&& Int32.toUInt32 31)).toInt32
def v_X1_findBit_3 (S : St) (p0 : Int32) : Int32 := (v_X1_findBit_2 S p0) &&& 1
def r_X1_findBit (S : St) (p0 : Int32) : Int32 := (v_X1_findBit_3 S p0)
def rm_X1_findBit : Room := { frames := 0, cells := 0, slots := 0, locals := 0 }
set_option maxRecDepth 100000 in
set_option maxHeartbeats 4000000 in
theorem k_X1_findBit (l : Launch) (D : va_G) (a : Nat → Nat) (cZ cI : ClassId) (S : St) (sz : Nat) (p0 : Int32) : Met l yX1_findBit wsX1_findBit rm_X1_findBit (va_Pc [.ref (a 7), .int p0] (pW D (tyZI cZ cI) (wP a cZ cI S) sz nP)) (va_Qi (fun (r : Int32) (u : St) => u = S ∧ r = r_X1_findBit S p0) (fun u t => oW D (tyZI cZ cI) (wP a cZ cI u) (aA (adP a) sz) t) (aA (adP a) sz)) 0 0 (aA (adP a) sz) := by
  refine Met.ofW (cc := cX1_findBit) (maxL := 2) (ret := (some .int)) (by decide +kernel) rfl ?_
  intro p e s m args below meth c s₁ B hml hv
  obtain ⟨rfl, hsz, hP0, hK, hD9, hN⟩ := hv
  have hx := B.exec
  have hb := B.bytes
  have hr := B.returns
  have hts := atoms_spec (ws := wsX1_findBit) B.pre
  have hown : s.vm.findClass RX1 = some m.cls := findClass_of_methodNamed B.named
  have hlocks := B.notSynchronized
  subst hsz
  have hD0 := aA_self (sz := s.heap.size) (as := adP a) hD9 rfl
  generalize hAe : aA (adP a) s.heap.size = A at hD0 ⊢
  have hA : ∀ q : Nat, s.heap.size ≤ q → A q := fun q h => by rw [← hAe]; exact Or.inr h
  have hAc : ∀ q : Nat, q ∈ adP a → A q := fun q h => by rw [← hAe]; exact Or.inl h
  have hS0 : va_S A s.heap s.heap [] := va_S.rf
  have hl0 := lv_entry ([.ref (a 7), .int p0]) (n := 2) (Nat.le_of_ble_eq_true rfl)
  rw [lg_entry_eq]
  generalize (lg_sl ([.ref (a 7), .int p0]) ++ List.replicate (2 - (lg_sl ([.ref (a 7), .int p0])).length) Slot.unset).toArray = ls0 at hl0 ⊢
  have hl0 : lv_has ls0 2 [(0, .ref (a 7)), (1, .int p0)] := hl0
  generalize hQ : MQ below _ _ s _ _ _ = Q
  clear hD9 B
  refine lv_aload_n hx hb dX1_findBit_0 rfl (lv_at hl0 0 rfl) ?_
  refine va_get (D := D) (ci := 1) (v := .int (S.1 25)) (C := RX1) (T := TX1) (N := 2) hx hb hts (fun _ h => List.mem_cons_of_mem _ (List.mem_append_right _ (h))) hown hK hP0 7 rfl rfl 1 (by decide) (hts (.fieldLink RX1 15 "Phaselock$BitLog" "latest32" "I") (List.mem_cons_of_mem _ (List.mem_append_left _ (List.mem_of_getElem? (i := 0) rfl)))) (fun _ h9 => h9) rfl dX1_findBit_1 ?_
  refine lv_iload_n hx hb dX1_findBit_4 rfl (lv_at hl0 1 rfl) ?_
  refine lv_iconst (v := 1) hx hb dX1_findBit_5 (by decide) ?_
  refine lv_isub hx hb dX1_findBit_6 ?_
  refine lv_asi (y := (v_X1_findBit_1 S p0)) rfl ?_
  refine lv_iushr (v := (v_X1_findBit_2 S p0)) hx hb dX1_findBit_7 rfl ?_
  refine lv_iconst (v := 1) hx hb dX1_findBit_8 (by decide) ?_
  refine lv_iand hx hb dX1_findBit_9 ?_
  refine lv_asi (y := (v_X1_findBit_3 S p0)) rfl ?_
  subst hQ; exact W.iret (v := (v_X1_findBit_3 S p0)) hx hb hr (fun t ht hW => ⟨⟨(v_X1_findBit_3 S p0), S, rfl, ⟨rfl, (show (v_X1_findBit_3 S p0) = r_X1_findBit S p0 from rfl)⟩, endW hP0 hK hD0 ht hW⟩, hS0.F ht⟩) hS0.2.2 dX1_findBit_10

def v_X2_findDistance_1 (S : St) (p0 : Int32) (p1 : Int32) : Int32 := p0 - p1
def v_X2_findDistance_2 (S : St) (p0 : Int32) (p1 : Int32) : Int32 := (v_X2_findDistance_1 S p0 p1) &&& 15
def v_X2_findDistance_3 (S : St) (p0 : Int32) (p1 : Int32) : Int32 := p1 - p0
def v_X2_findDistance_4 (S : St) (p0 : Int32) (p1 : Int32) : Int32 := (v_X2_findDistance_3 S p0 p1) &&& 15
def v_X2_findDistance_5 (S : St) (p0 : Int32) (p1 : Int32) : Int32 := if (v_X2_findDistance_4 S p0 p1) < (v_X2_findDistance_2 S p0 p1) then (v_X2_findDistance_4 S p0 p1) else (v_X2_findDistance_2 S p0 p1)
def r_X2_findDistance (S : St) (p0 : Int32) (p1 : Int32) : Int32 := (v_X2_findDistance_5 S p0 p1)
def rm_X2_findDistance : Room := { frames := 1, cells := 0, slots := 0, locals := 21 }
set_option maxRecDepth 100000 in
set_option maxHeartbeats 4000000 in
theorem k_X2_findDistance (l : Launch) (D : va_G) (a : Nat → Nat) (cZ cI : ClassId) (S : St) (sz : Nat) (p0 : Int32) (p1 : Int32) : Met l yX2_findDistance wsX2_findDistance rm_X2_findDistance (va_Pc [.int p0, .int p1] (pW D (tyZI cZ cI) (wP a cZ cI S) sz nP)) (va_Qi (fun (r : Int32) (u : St) => u = S ∧ r = r_X2_findDistance S p0 p1) (fun u t => oW D (tyZI cZ cI) (wP a cZ cI u) (aA (adP a) sz) t) (aA (adP a) sz)) 0 0 (aA (adP a) sz) := by
  refine Met.ofW (cc := cX2_findDistance) (maxL := 4) (ret := (some .int)) (by decide +kernel) rfl ?_
  intro p e s m args below meth c s₁ B hml hv
  obtain ⟨rfl, hsz, hP0, hK, hD9, hN⟩ := hv
  have hx := B.exec
  have hb := B.bytes
  have hr := B.returns
  have hts := atoms_spec (ws := wsX2_findDistance) B.pre
  have hown : s.vm.findClass RX2 = some m.cls := findClass_of_methodNamed B.named
  have hlocks := B.notSynchronized
  subst hsz
  have hD0 := aA_self (sz := s.heap.size) (as := adP a) hD9 rfl
  generalize hAe : aA (adP a) s.heap.size = A at hD0 ⊢
  have hA : ∀ q : Nat, s.heap.size ≤ q → A q := fun q h => by rw [← hAe]; exact Or.inr h
  have hAc : ∀ q : Nat, q ∈ adP a → A q := fun q h => by rw [← hAe]; exact Or.inl h
  have hS0 : va_S A s.heap s.heap [] := va_S.rf
  have hl0 := lv_entry ([.int p0, .int p1]) (n := 4) (Nat.le_of_ble_eq_true rfl)
  rw [lg_entry_eq]
  generalize (lg_sl ([.int p0, .int p1]) ++ List.replicate (4 - (lg_sl ([.int p0, .int p1])).length) Slot.unset).toArray = ls0 at hl0 ⊢
  have hl0 : lv_has ls0 4 [(0, .int p0), (1, .int p1)] := hl0
  generalize hQ : MQ below _ _ s _ _ _ = Q
  clear hD9 B
  refine lv_iload_n hx hb dX2_findDistance_0 rfl (lv_at hl0 0 rfl) ?_
  refine lv_iload_n hx hb dX2_findDistance_1 rfl (lv_at hl0 1 rfl) ?_
  refine lv_isub hx hb dX2_findDistance_2 ?_
  refine lv_asi (y := (v_X2_findDistance_1 S p0 p1)) rfl ?_
  refine lv_bipush (v := 15) hx hb dX2_findDistance_3 (by decide) ?_
  refine lv_iand hx hb dX2_findDistance_5 ?_
  refine lv_asi (y := (v_X2_findDistance_2 S p0 p1)) rfl ?_
  refine lv_istore_n (lv' := [(2, .int (v_X2_findDistance_2 S p0 p1)), (0, .int p0), (1, .int p1)]) hx hb dX2_findDistance_6 rfl hl0 (by decide) rfl (fun ls1 hl1 => ?_)
  clear hl0
  refine lv_iload_n hx hb dX2_findDistance_7 rfl (lv_at hl1 2 rfl) ?_
  refine lv_iload_n hx hb dX2_findDistance_8 rfl (lv_at hl1 1 rfl) ?_
  refine lv_isub hx hb dX2_findDistance_9 ?_
  refine lv_asi (y := (v_X2_findDistance_3 S p0 p1)) rfl ?_
  refine lv_bipush (v := 15) hx hb dX2_findDistance_10 (by decide) ?_
  refine lv_iand hx hb dX2_findDistance_12 ?_
  refine lv_asi (y := (v_X2_findDistance_4 S p0 p1)) rfl ?_
  refine lv_istore_n (lv' := [(3, .int (v_X2_findDistance_4 S p0 p1)), (2, .int (v_X2_findDistance_2 S p0 p1)), (0, .int p0), (1, .int p1)]) hx hb dX2_findDistance_13 rfl hl1 (by decide) rfl (fun ls2 hl2 => ?_)
  clear hl1
  refine lv_iload_n hx hb dX2_findDistance_14 rfl (lv_at hl2 1 rfl) ?_
  refine lv_iload_n hx hb dX2_findDistance_15 rfl (lv_at hl2 0 rfl) ?_
  refine va_mmin hx hb (hml.trans hl2.1.symm) hown (hts (.methodLink RX2 21 Lib.Math.min.name) (List.mem_cons_of_mem _ (List.mem_of_getElem? (i := 0) rfl))) (hts (.static Lib.Math.min.name) (List.mem_cons_of_mem _ (List.mem_of_getElem? (i := 1) rfl))) (hts (.initialized "java/lang/Math") (List.mem_cons_of_mem _ (List.mem_of_getElem? (i := 2) rfl))) (hts (.code Lib.Math.min.name Lib.Math.min.code 2 (some .int)) (List.mem_cons_of_mem _ (List.mem_of_getElem? (i := 3) rfl))) (Nat.le_of_ble_eq_true rfl) (Nat.le_of_ble_eq_true rfl) (Nat.le_refl 0) (Nat.le_refl 0) dX2_findDistance_16 ?_
  refine lv_asi (y := (v_X2_findDistance_5 S p0 p1)) rfl ?_
  subst hQ; exact W.iret (v := (v_X2_findDistance_5 S p0 p1)) hx hb hr (fun t ht hW => ⟨⟨(v_X2_findDistance_5 S p0 p1), S, rfl, ⟨rfl, (show (v_X2_findDistance_5 S p0 p1) = r_X2_findDistance S p0 p1 from rfl)⟩, endW hP0 hK hD0 ht hW⟩, hS0.F ht⟩) hS0.2.2 dX2_findDistance_19

def scost (S : St) (p0 : Int32) : Nat → Int32
  | 0 => 0
  | i + 1 => if S.2.2.1 (nI i).toNatClampNeg = 0 then scost S p0 i else scost S p0 i + (8 - r_X2_findDistance S p0 (nI i))
def v_X2_sumCosts_2 (S : St) (p0 : Int32) (i : Nat) : Int32 := S.2.2.1 ((nI i)).toNatClampNeg
def v_X2_sumCosts_3 (S : St) (p0 : Int32) (i : Nat) : Int32 := r_X2_findDistance S p0 (nI i)
def v_X2_sumCosts_4 (S : St) (p0 : Int32) (i : Nat) : Int32 := 8 - (v_X2_sumCosts_3 S p0 i)
def v_X2_sumCosts_5 (S : St) (p0 : Int32) (i : Nat) : Int32 := (scost S p0 i) + (v_X2_sumCosts_4 S p0 i)
def v_X2_sumCosts_6 (S : St) (p0 : Int32) (i : Nat) : Int32 := if (v_X2_sumCosts_2 S p0 i) = 0 then (scost S p0 i) else (v_X2_sumCosts_5 S p0 i)
def v_X2_sumCosts_7 (S : St) (p0 : Int32) (i : Nat) : Int32 := (nI i) + 1
def r_X2_sumCosts (S : St) (p0 : Int32) : Int32 := (scost S p0 256)
def rm_X2_sumCosts : Room := { frames := 2, cells := 0, slots := 0, locals := 44 }
set_option maxRecDepth 100000 in
set_option maxHeartbeats 4000000 in
theorem k_X2_sumCosts (l : Launch) (D : va_G) (a : Nat → Nat) (cZ cI : ClassId) (S : St) (sz : Nat) (p0 : Int32) : Met l yX2_sumCosts wsX2_sumCosts rm_X2_sumCosts (va_Pc [.ref (a 3), .int p0] (pW D (tyZI cZ cI) (wP a cZ cI S) sz nP)) (va_Qi (fun (r : Int32) (u : St) => u = S ∧ r = r_X2_sumCosts S p0) (fun u t => oW D (tyZI cZ cI) (wP a cZ cI u) (aA (adP a) sz) t) (aA (adP a) sz)) 0 0 (aA (adP a) sz) := by
  refine Met.ofW (cc := cX2_sumCosts) (maxL := 4) (ret := (some .int)) (by decide +kernel) rfl ?_
  intro p e s m args below meth c s₁ B hml hv
  obtain ⟨rfl, hsz, hP0, hK, hD9, hN⟩ := hv
  have hx := B.exec
  have hb := B.bytes
  have hr := B.returns
  have hts := atoms_spec (ws := wsX2_sumCosts) B.pre
  have hown : s.vm.findClass RX2 = some m.cls := findClass_of_methodNamed B.named
  have hlocks := B.notSynchronized
  subst hsz
  have hD0 := aA_self (sz := s.heap.size) (as := adP a) hD9 rfl
  generalize hAe : aA (adP a) s.heap.size = A at hD0 ⊢
  have hA : ∀ q : Nat, s.heap.size ≤ q → A q := fun q h => by rw [← hAe]; exact Or.inr h
  have hAc : ∀ q : Nat, q ∈ adP a → A q := fun q h => by rw [← hAe]; exact Or.inl h
  have hS0 : va_S A s.heap s.heap [] := va_S.rf
  have hl0 := lv_entry ([.ref (a 3), .int p0]) (n := 4) (Nat.le_of_ble_eq_true rfl)
  rw [lg_entry_eq]
  generalize (lg_sl ([.ref (a 3), .int p0]) ++ List.replicate (4 - (lg_sl ([.ref (a 3), .int p0])).length) Slot.unset).toArray = ls0 at hl0 ⊢
  have hl0 : lv_has ls0 4 [(0, .ref (a 3)), (1, .int p0)] := hl0
  generalize hQ : MQ below _ _ s _ _ _ = Q
  clear hD9 B
  refine lv_iconst (v := 0) hx hb dX2_sumCosts_0 (by decide) ?_
  refine lv_istore_n (lv' := [(2, .int 0), (0, .ref (a 3)), (1, .int p0)]) hx hb dX2_sumCosts_1 rfl hl0 (by decide) rfl (fun ls1 hl1 => ?_)
  clear hl0
  refine lv_iconst (v := 0) hx hb dX2_sumCosts_2 (by decide) ?_
  refine lv_istore_n (lv' := [(3, .int 0), (2, .int 0), (0, .ref (a 3)), (1, .int p0)]) hx hb dX2_sumCosts_3 rfl hl1 (by decide) rfl (fun ls2 hl2 => ?_)
  clear hl1
  have LOOP : ∀ (n i : Nat), i ≤ 256 → 256 < i + n → ∀ (H1 : Heap) (L1 : List Loc), va_P D vwCl (wP a cZ cI S) H1 → va_D A (wP a cZ cI S) → va_S A s.heap H1 L1 → ∀ ls3 : Array Slot, lv_has ls3 4 [(3, .int (nI i)), (2, .int (scost S p0 i)), (0, .ref (a 3)), (1, .int p0)] → W p l e (headSpec wsX2_sumCosts rm_X2_sumCosts).room s m ([.ref (a 3), .int p0] : List Value).toArray below meth c H1 L1 0 0 Q (F0 m 4 ls3 []) := by
    clear hP0 hD0 hS0 hl2
    intro n
    induction n with
    | zero => exact fun i h1 h2 => absurd h2 (by omega)
    | succ n ih =>
      intro i hi hin H1 L1 hP1 hD1 hS1 ls3 hl3
      refine lv_iload_n hx hb dX2_sumCosts_4 rfl (lv_at hl3 0 rfl) ?_
      refine lv_sipush (v := 256) hx hb dX2_sumCosts_5 (by decide) ?_
      refine lv_icmp_ge (tgt := 37) hx hb dX2_sumCosts_8 (by decide) (fun c1_8 => ?_) (fun c1_8 => ?_)
      · have hie : i = 256 := lp_ge (N := 256) (by decide) hi c1_8
        subst hie
        refine lv_iload_n hx hb dX2_sumCosts_37 rfl (lv_at hl3 1 rfl) ?_
        subst hQ; exact W.iret (v := (scost S p0 256)) hx hb hr (fun t ht hW => ⟨⟨(scost S p0 256), S, rfl, ⟨rfl, (show (scost S p0 256) = r_X2_sumCosts S p0 from rfl)⟩, endW hP1 hK hD1 ht hW⟩, hS1.F ht⟩) hS1.2.2 dX2_sumCosts_38
      · have hlt : i < 256 := lp_lt (N := 256) (by decide) hi c1_8
        refine lv_aload_n hx hb dX2_sumCosts_11 rfl (lv_at hl3 2 rfl) ?_
        refine va_get (D := D) (ci := 2) (v := .ref (a 11)) (C := RX2) (T := TX2) (N := 2) hx hb hts (fun _ h => List.mem_cons_of_mem _ (List.mem_append_right _ (h))) hown hK hP1 3 rfl rfl 1 (by decide) (hts (.fieldLink RX2 13 "Phaselock$EdgeLog" "changed" "[Z") (List.mem_cons_of_mem _ (List.mem_append_left _ (List.mem_of_getElem? (i := 0) rfl)))) (fun _ h9 => h9) rfl dX2_sumCosts_12 ?_
        refine lv_iload_n hx hb dX2_sumCosts_15 rfl (lv_at hl3 0 rfl) ?_
        refine va_zald (D := D) hx hb hK hP1 11 0 rfl rfl (vp_in_nI hlt (by decide)) dX2_sumCosts_16 ?_
        refine lv_asi (y := (v_X2_sumCosts_2 S p0 i)) rfl ?_
        have J1_17 : ∀ (H3 : Heap) (L3 : List Loc), va_P D vwCl (wP a cZ cI S) H3 → va_D A (wP a cZ cI S) → va_S A s.heap H3 L3 → ∀ ls5 : Array Slot, lv_has ls5 4 [(3, .int (nI i)), (2, .int (v_X2_sumCosts_6 S p0 i)), (0, .ref (a 3)), (1, .int p0)] → W p l e (headSpec wsX2_sumCosts rm_X2_sumCosts).room s m ([.ref (a 3), .int p0] : List Value).toArray below meth c H3 L3 0 0 Q (F0 m 31 ls5 []) := by
          intro H3 L3 hP3 hD3 hS3 ls5 hl5
          clear hP1 hD1 hS1
          clear hl3
          refine lv_iinc (v := (v_X2_sumCosts_7 S p0 i)) (lv' := [(3, .int (v_X2_sumCosts_7 S p0 i)), (2, .int (v_X2_sumCosts_6 S p0 i)), (0, .ref (a 3)), (1, .int p0)]) hx hb dX2_sumCosts_31 hl5 (k := 0) rfl rfl (by decide) rfl (fun ls6 hl6 => ?_)
          clear hl5
          refine lv_goto (tgt := 4) hx hb dX2_sumCosts_34 (by decide) ?_
          exact ih (i + 1) (by omega) (by omega) _ _ hP3 hD3 hS3 _ (by rw [show (nI (i + 1)) = (v_X2_sumCosts_7 S p0 i) from (nI_1 i).symm, show (scost S p0 (i + 1)) = (v_X2_sumCosts_6 S p0 i) from rfl]; exact lv_sub (l' := [(3, .int (v_X2_sumCosts_7 S p0 i)), (2, .int (v_X2_sumCosts_6 S p0 i)), (0, .ref (a 3)), (1, .int p0)]) hl6 [0, 1, 2, 3] rfl)
        refine lv_if_eq (tgt := 31) hx hb dX2_sumCosts_17 (by decide) (fun c2_17 => ?_) (fun c2_17 => ?_)
        · exact J1_17 _ _ hP1 hD1 hS1 _ (by rw [show (v_X2_sumCosts_6 S p0 i) = (scost S p0 i) from (if_pos c2_17)]; exact lv_sub (l' := [(3, .int (nI i)), (2, .int (scost S p0 i)), (0, .ref (a 3)), (1, .int p0)]) hl3 [0, 1, 2, 3] rfl)
        · refine lv_iload_n hx hb dX2_sumCosts_20 rfl (lv_at hl3 1 rfl) ?_
          refine lv_bipush (v := 8) hx hb dX2_sumCosts_21 (by decide) ?_
          refine lv_iload_n hx hb dX2_sumCosts_23 rfl (lv_at hl3 3 rfl) ?_
          refine lv_iload_n hx hb dX2_sumCosts_24 rfl (lv_at hl3 0 rfl) ?_
          refine va_calli (va_runS (As := [.int p0, .int (nI i)]) (rest := [.int 8, .int (scost S p0 i)]) ⟨hx, hb, hml, hown, hts⟩ (k_X2_findDistance l D a cZ cI S H1.size p0 (nI i)) (va_cwS 2 hts gX2_sumCosts_X2_findDistance rfl rfl rfl (by decide +kernel) ⟨Nat.le_of_ble_eq_true rfl, Nat.le_of_ble_eq_true rfl⟩) ⟨blW okN_P, preW hP1 hK hD1 okN_P hN⟩ rfl rfl hl3.1 rfl (lv_room (Nat.le_of_ble_eq_true rfl)) dX2_sumCosts_25 ⟨Nat.zero_le _, Nat.zero_le _⟩) hS1 (aA_in hAc) (aA_free hAc hA hS1) (fun r2 u2 t2 H2 L2 ht2 hvm2 hw2 hB2 _ _ hS2 => ?_)
          obtain ⟨hP2, hD2⟩ := backW hB2 ht2 (aA_free hAc hA hS1)
          clear hB2 ht2 hvm2 t2
          obtain ⟨hu2, hr2⟩ := hw2
          subst u2; subst r2
          clear hP1 hD1 hS1
          refine lv_asi (y := (v_X2_sumCosts_3 S p0 i)) rfl ?_
          refine lv_isub hx hb dX2_sumCosts_28 ?_
          refine lv_asi (y := (v_X2_sumCosts_4 S p0 i)) rfl ?_
          refine lv_iadd hx hb dX2_sumCosts_29 ?_
          refine lv_asi (y := (v_X2_sumCosts_5 S p0 i)) rfl ?_
          refine lv_istore_n (lv' := [(2, .int (v_X2_sumCosts_5 S p0 i)), (3, .int (nI i)), (0, .ref (a 3)), (1, .int p0)]) hx hb dX2_sumCosts_30 rfl hl3 (by decide) rfl (fun ls4 hl4 => ?_)
          clear hl3
          exact J1_17 _ _ hP2 hD2 hS2 _ (by rw [show (v_X2_sumCosts_6 S p0 i) = (v_X2_sumCosts_5 S p0 i) from (if_neg c2_17)]; exact lv_sub (l' := [(3, .int (nI i)), (2, .int (v_X2_sumCosts_5 S p0 i)), (0, .ref (a 3)), (1, .int p0)]) hl4 [1, 0, 2, 3] rfl)
  exact LOOP (256 + 1) 0 (Nat.zero_le _) (by omega) _ _ hP0 hD0 hS0 _ (lv_sub (l' := [(3, .int (nI 0)), (2, .int (scost S p0 0)), (0, .ref (a 3)), (1, .int p0)]) hl2 [0, 1, 2, 3] rfl)

def v_J6_bitCount_0f7a4_1 (S : St) (p0 : Int32) : Int32 := (p0.toUInt32 >>> ((1 : Int32).toUInt32 &&& Int32.toUInt32 31)).toInt32
def v_J6_bitCount_0f7a4_2 (S : St) (p0 : Int32) : Int32 := (v_J6_bitCount_0f7a4_1 S p0) &&& 1431655765
def v_J6_bitCount_0f7a4_3 (S : St) (p0 : Int32) : Int32 := p0 - (v_J6_bitCount_0f7a4_2 S p0)
def v_J6_bitCount_0f7a4_4 (S : St) (p0 : Int32) : Int32 := (v_J6_bitCount_0f7a4_3 S p0) &&& 858993459
def v_J6_bitCount_0f7a4_5 (S : St) (p0 : Int32) : Int32 := ((v_J6_bitCount_0f7a4_3 S p0).toUInt32 >>> ((2 : Int32).toUInt32 &&& Int32.toUInt32 31)).toInt32
def v_J6_bitCount_0f7a4_6 (S : St) (p0 : Int32) : Int32 := (v_J6_bitCount_0f7a4_5 S p0) &&& 858993459
def v_J6_bitCount_0f7a4_7 (S : St) (p0 : Int32) : Int32 := (v_J6_bitCount_0f7a4_4 S p0) + (v_J6_bitCount_0f7a4_6 S p0)
def v_J6_bitCount_0f7a4_8 (S : St) (p0 : Int32) : Int32 := ((v_J6_bitCount_0f7a4_7 S p0).toUInt32 >>> ((4 : Int32).toUInt32 &&& Int32.toUInt32 31)).toInt32
def v_J6_bitCount_0f7a4_9 (S : St) (p0 : Int32) : Int32 := (v_J6_bitCount_0f7a4_7 S p0) + (v_J6_bitCount_0f7a4_8 S p0)
def v_J6_bitCount_0f7a4_10 (S : St) (p0 : Int32) : Int32 := (v_J6_bitCount_0f7a4_9 S p0) &&& 252645135
def v_J6_bitCount_0f7a4_11 (S : St) (p0 : Int32) : Int32 := ((v_J6_bitCount_0f7a4_10 S p0).toUInt32 >>> ((8 : Int32).toUInt32 &&& Int32.toUInt32 31)).toInt32
def v_J6_bitCount_0f7a4_12 (S : St) (p0 : Int32) : Int32 := (v_J6_bitCount_0f7a4_10 S p0) + (v_J6_bitCount_0f7a4_11 S p0)
def v_J6_bitCount_0f7a4_13 (S : St) (p0 : Int32) : Int32 := ((v_J6_bitCount_0f7a4_12 S p0).toUInt32 >>> ((16 : Int32).toUInt32 &&& Int32.toUInt32 31)).toInt32
def v_J6_bitCount_0f7a4_14 (S : St) (p0 : Int32) : Int32 := (v_J6_bitCount_0f7a4_12 S p0) + (v_J6_bitCount_0f7a4_13 S p0)
def v_J6_bitCount_0f7a4_15 (S : St) (p0 : Int32) : Int32 := (v_J6_bitCount_0f7a4_14 S p0) &&& 63
def r_J6_bitCount_0f7a4 (S : St) (p0 : Int32) : Int32 := (v_J6_bitCount_0f7a4_15 S p0)
def rm_J6_bitCount_0f7a4 : Room := { frames := 0, cells := 0, slots := 0, locals := 0 }
set_option maxRecDepth 100000 in
set_option maxHeartbeats 4000000 in
theorem k_J6_bitCount_0f7a4 (l : Launch) (D : va_G) (a : Nat → Nat) (cZ cI : ClassId) (S : St) (sz : Nat) (p0 : Int32) : Met l yJ6_bitCount_0f7a4 wsJ6_bitCount_0f7a4 rm_J6_bitCount_0f7a4 (va_Pc [.int p0] (pW D (tyZI cZ cI) (wP a cZ cI S) sz nP)) (va_Qi (fun (r : Int32) (u : St) => u = S ∧ r = r_J6_bitCount_0f7a4 S p0) (fun u t => oW D (tyZI cZ cI) (wP a cZ cI u) (aA (adP a) sz) t) (aA (adP a) sz)) 0 0 (aA (adP a) sz) := by
  refine Met.ofW (cc := cJ6_bitCount_0f7a4) (maxL := 1) (ret := (some .int)) (by decide +kernel) rfl ?_
  intro p e s m args below meth c s₁ B hml hv
  obtain ⟨rfl, hsz, hP0, hK, hD9, hN⟩ := hv
  have hx := B.exec
  have hb := B.bytes
  have hr := B.returns
  have hts := atoms_spec (ws := wsJ6_bitCount_0f7a4) B.pre
  have hown : s.vm.findClass RJ6 = some m.cls := findClass_of_methodNamed B.named
  have hlocks := B.notSynchronized
  subst hsz
  have hD0 := aA_self (sz := s.heap.size) (as := adP a) hD9 rfl
  generalize hAe : aA (adP a) s.heap.size = A at hD0 ⊢
  have hA : ∀ q : Nat, s.heap.size ≤ q → A q := fun q h => by rw [← hAe]; exact Or.inr h
  have hAc : ∀ q : Nat, q ∈ adP a → A q := fun q h => by rw [← hAe]; exact Or.inl h
  have hS0 : va_S A s.heap s.heap [] := va_S.rf
  have hl0 := lv_entry ([.int p0]) (n := 1) (Nat.le_of_ble_eq_true rfl)
  rw [lg_entry_eq]
  generalize (lg_sl ([.int p0]) ++ List.replicate (1 - (lg_sl ([.int p0])).length) Slot.unset).toArray = ls0 at hl0 ⊢
  have hl0 : lv_has ls0 1 [(0, .int p0)] := hl0
  generalize hQ : MQ below _ _ s _ _ _ = Q
  clear hD9 B
  refine lv_iload_n hx hb dJ6_bitCount_0f7a4_0 rfl (lv_at hl0 0 rfl) ?_
  refine lv_iload_n hx hb dJ6_bitCount_0f7a4_1 rfl (lv_at hl0 0 rfl) ?_
  refine lv_iconst (v := 1) hx hb dJ6_bitCount_0f7a4_2 (by decide) ?_
  refine lv_iushr (v := (v_J6_bitCount_0f7a4_1 S p0)) hx hb dJ6_bitCount_0f7a4_3 rfl ?_
  refine lv_ldcw (v := 1431655765) hx hb hown (hts (.constant RJ6 265 (1431655765)) (List.mem_cons_of_mem _ (List.mem_of_getElem? (i := 0) rfl))) dJ6_bitCount_0f7a4_4 ?_
  refine lv_iand hx hb dJ6_bitCount_0f7a4_7 ?_
  refine lv_asi (y := (v_J6_bitCount_0f7a4_2 S p0)) rfl ?_
  refine lv_isub hx hb dJ6_bitCount_0f7a4_8 ?_
  refine lv_asi (y := (v_J6_bitCount_0f7a4_3 S p0)) rfl ?_
  refine lv_istore_n (lv' := [(0, .int (v_J6_bitCount_0f7a4_3 S p0))]) hx hb dJ6_bitCount_0f7a4_9 rfl hl0 (by decide) rfl (fun ls1 hl1 => ?_)
  clear hl0
  refine lv_iload_n hx hb dJ6_bitCount_0f7a4_10 rfl (lv_at hl1 0 rfl) ?_
  refine lv_ldcw (v := 858993459) hx hb hown (hts (.constant RJ6 266 (858993459)) (List.mem_cons_of_mem _ (List.mem_of_getElem? (i := 1) rfl))) dJ6_bitCount_0f7a4_11 ?_
  refine lv_iand hx hb dJ6_bitCount_0f7a4_14 ?_
  refine lv_asi (y := (v_J6_bitCount_0f7a4_4 S p0)) rfl ?_
  refine lv_iload_n hx hb dJ6_bitCount_0f7a4_15 rfl (lv_at hl1 0 rfl) ?_
  refine lv_iconst (v := 2) hx hb dJ6_bitCount_0f7a4_16 (by decide) ?_
  refine lv_iushr (v := (v_J6_bitCount_0f7a4_5 S p0)) hx hb dJ6_bitCount_0f7a4_17 rfl ?_
  refine lv_ldcw (v := 858993459) hx hb hown (hts (.constant RJ6 266 (858993459)) (List.mem_cons_of_mem _ (List.mem_of_getElem? (i := 1) rfl))) dJ6_bitCount_0f7a4_18 ?_
  refine lv_iand hx hb dJ6_bitCount_0f7a4_21 ?_
  refine lv_asi (y := (v_J6_bitCount_0f7a4_6 S p0)) rfl ?_
  refine lv_iadd hx hb dJ6_bitCount_0f7a4_22 ?_
  refine lv_asi (y := (v_J6_bitCount_0f7a4_7 S p0)) rfl ?_
  refine lv_istore_n (lv' := [(0, .int (v_J6_bitCount_0f7a4_7 S p0))]) hx hb dJ6_bitCount_0f7a4_23 rfl hl1 (by decide) rfl (fun ls2 hl2 => ?_)
  clear hl1
  refine lv_iload_n hx hb dJ6_bitCount_0f7a4_24 rfl (lv_at hl2 0 rfl) ?_
  refine lv_iload_n hx hb dJ6_bitCount_0f7a4_25 rfl (lv_at hl2 0 rfl) ?_
  refine lv_iconst (v := 4) hx hb dJ6_bitCount_0f7a4_26 (by decide) ?_
  refine lv_iushr (v := (v_J6_bitCount_0f7a4_8 S p0)) hx hb dJ6_bitCount_0f7a4_27 rfl ?_
  refine lv_iadd hx hb dJ6_bitCount_0f7a4_28 ?_
  refine lv_asi (y := (v_J6_bitCount_0f7a4_9 S p0)) rfl ?_
  refine lv_ldcw (v := 252645135) hx hb hown (hts (.constant RJ6 267 (252645135)) (List.mem_cons_of_mem _ (List.mem_of_getElem? (i := 2) rfl))) dJ6_bitCount_0f7a4_29 ?_
  refine lv_iand hx hb dJ6_bitCount_0f7a4_32 ?_
  refine lv_asi (y := (v_J6_bitCount_0f7a4_10 S p0)) rfl ?_
  refine lv_istore_n (lv' := [(0, .int (v_J6_bitCount_0f7a4_10 S p0))]) hx hb dJ6_bitCount_0f7a4_33 rfl hl2 (by decide) rfl (fun ls3 hl3 => ?_)
  clear hl2
  refine lv_iload_n hx hb dJ6_bitCount_0f7a4_34 rfl (lv_at hl3 0 rfl) ?_
  refine lv_iload_n hx hb dJ6_bitCount_0f7a4_35 rfl (lv_at hl3 0 rfl) ?_
  refine lv_bipush (v := 8) hx hb dJ6_bitCount_0f7a4_36 (by decide) ?_
  refine lv_iushr (v := (v_J6_bitCount_0f7a4_11 S p0)) hx hb dJ6_bitCount_0f7a4_38 rfl ?_
  refine lv_iadd hx hb dJ6_bitCount_0f7a4_39 ?_
  refine lv_asi (y := (v_J6_bitCount_0f7a4_12 S p0)) rfl ?_
  refine lv_istore_n (lv' := [(0, .int (v_J6_bitCount_0f7a4_12 S p0))]) hx hb dJ6_bitCount_0f7a4_40 rfl hl3 (by decide) rfl (fun ls4 hl4 => ?_)
  clear hl3
  refine lv_iload_n hx hb dJ6_bitCount_0f7a4_41 rfl (lv_at hl4 0 rfl) ?_
  refine lv_iload_n hx hb dJ6_bitCount_0f7a4_42 rfl (lv_at hl4 0 rfl) ?_
  refine lv_bipush (v := 16) hx hb dJ6_bitCount_0f7a4_43 (by decide) ?_
  refine lv_iushr (v := (v_J6_bitCount_0f7a4_13 S p0)) hx hb dJ6_bitCount_0f7a4_45 rfl ?_
  refine lv_iadd hx hb dJ6_bitCount_0f7a4_46 ?_
  refine lv_asi (y := (v_J6_bitCount_0f7a4_14 S p0)) rfl ?_
  refine lv_istore_n (lv' := [(0, .int (v_J6_bitCount_0f7a4_14 S p0))]) hx hb dJ6_bitCount_0f7a4_47 rfl hl4 (by decide) rfl (fun ls5 hl5 => ?_)
  clear hl4
  refine lv_iload_n hx hb dJ6_bitCount_0f7a4_48 rfl (lv_at hl5 0 rfl) ?_
  refine lv_bipush (v := 63) hx hb dJ6_bitCount_0f7a4_49 (by decide) ?_
  refine lv_iand hx hb dJ6_bitCount_0f7a4_51 ?_
  refine lv_asi (y := (v_J6_bitCount_0f7a4_15 S p0)) rfl ?_
  subst hQ; exact W.iret (v := (v_J6_bitCount_0f7a4_15 S p0)) hx hb hr (fun t ht hW => ⟨⟨(v_J6_bitCount_0f7a4_15 S p0), S, rfl, ⟨rfl, (show (v_J6_bitCount_0f7a4_15 S p0) = r_J6_bitCount_0f7a4 S p0 from rfl)⟩, endW hP0 hK hD0 ht hW⟩, hS0.F ht⟩) hS0.2.2 dJ6_bitCount_0f7a4_52

def v_X3_findLevel_1 (S : St) : Int32 := (S.1 8) &&& 255
def v_X3_findLevel_2 (S : St) : Int32 := r_J6_bitCount_0f7a4 S (v_X3_findLevel_1 S)
def v_X3_findLevel_3 (S : St) : Int32 := 2 * (v_X3_findLevel_2 S)
def v_X3_findLevel_4 (S : St) : Int32 := (v_X3_findLevel_3 S) - 8
def r_X3_findLevel (S : St) : Int32 := (v_X3_findLevel_4 S)
def rm_X3_findLevel : Room := { frames := 1, cells := 0, slots := 0, locals := 20 }
set_option maxRecDepth 100000 in
set_option maxHeartbeats 4000000 in
theorem k_X3_findLevel (l : Launch) (D : va_G) (a : Nat → Nat) (cZ cI : ClassId) (S : St) (sz : Nat) : Met l yX3_findLevel wsX3_findLevel rm_X3_findLevel (va_Pc [.ref (a 2)] (pW D (tyZI cZ cI) (wP a cZ cI S) sz nP)) (va_Qi (fun (r : Int32) (u : St) => u = S ∧ r = r_X3_findLevel S) (fun u t => oW D (tyZI cZ cI) (wP a cZ cI u) (aA (adP a) sz) t) (aA (adP a) sz)) 0 0 (aA (adP a) sz) := by
  refine Met.ofW (cc := cX3_findLevel) (maxL := 1) (ret := (some .int)) (by decide +kernel) rfl ?_
  intro p e s m args below meth c s₁ B hml hv
  obtain ⟨rfl, hsz, hP0, hK, hD9, hN⟩ := hv
  have hx := B.exec
  have hb := B.bytes
  have hr := B.returns
  have hts := atoms_spec (ws := wsX3_findLevel) B.pre
  have hown : s.vm.findClass RX3 = some m.cls := findClass_of_methodNamed B.named
  have hlocks := B.notSynchronized
  subst hsz
  have hD0 := aA_self (sz := s.heap.size) (as := adP a) hD9 rfl
  generalize hAe : aA (adP a) s.heap.size = A at hD0 ⊢
  have hA : ∀ q : Nat, s.heap.size ≤ q → A q := fun q h => by rw [← hAe]; exact Or.inr h
  have hAc : ∀ q : Nat, q ∈ adP a → A q := fun q h => by rw [← hAe]; exact Or.inl h
  have hS0 : va_S A s.heap s.heap [] := va_S.rf
  have hl0 := lv_entry ([.ref (a 2)]) (n := 1) (Nat.le_of_ble_eq_true rfl)
  rw [lg_entry_eq]
  generalize (lg_sl ([.ref (a 2)]) ++ List.replicate (1 - (lg_sl ([.ref (a 2)])).length) Slot.unset).toArray = ls0 at hl0 ⊢
  have hl0 : lv_has ls0 1 [(0, .ref (a 2))] := hl0
  generalize hQ : MQ below _ _ s _ _ _ = Q
  clear hD9 B
  refine lv_iconst (v := 2) hx hb dX3_findLevel_0 (by decide) ?_
  refine lv_aload_n hx hb dX3_findLevel_1 rfl (lv_at hl0 0 rfl) ?_
  refine va_get (D := D) (ci := 3) (v := .int (S.1 8)) (C := RX3) (T := TX3) (N := 1) hx hb hts (fun _ h => List.mem_cons_of_mem _ (List.mem_append_right _ (h))) hown hK hP0 2 rfl rfl 0 (by decide) (hts (.fieldLink RX3 8 "Phaselock$LineMemory" "values" "I") (List.mem_cons_of_mem _ (List.mem_append_left _ (List.mem_of_getElem? (i := 0) rfl)))) (fun _ h9 => h9) rfl dX3_findLevel_2 ?_
  refine lv_sipush (v := 255) hx hb dX3_findLevel_5 (by decide) ?_
  refine lv_iand hx hb dX3_findLevel_8 ?_
  refine lv_asi (y := (v_X3_findLevel_1 S)) rfl ?_
  refine va_calli (va_runS (As := [.int (v_X3_findLevel_1 S)]) (rest := [.int 2]) ⟨hx, hb, hml, hown, hts⟩ (k_J6_bitCount_0f7a4 l D a cZ cI S s.heap.size (v_X3_findLevel_1 S)) (va_cwS 1 hts gX3_findLevel_J6_bitCount_0f7a4 rfl rfl rfl (by decide +kernel) ⟨Nat.le_of_ble_eq_true rfl, Nat.le_of_ble_eq_true rfl⟩) ⟨blW okN_P, preW hP0 hK hD0 okN_P hN⟩ rfl rfl hl0.1 rfl (lv_room (Nat.le_of_ble_eq_true rfl)) dX3_findLevel_9 ⟨Nat.zero_le _, Nat.zero_le _⟩) hS0 (aA_in hAc) (aA_free hAc hA hS0) (fun r1 u1 t1 H1 L1 ht1 hvm1 hw1 hB1 _ _ hS1 => ?_)
  obtain ⟨hP1, hD1⟩ := backW hB1 ht1 (aA_free hAc hA hS0)
  clear hB1 ht1 hvm1 t1
  obtain ⟨hu1, hr1⟩ := hw1
  subst u1; subst r1
  clear hP0 hD0 hS0
  refine lv_asi (y := (v_X3_findLevel_2 S)) rfl ?_
  refine lv_imul hx hb dX3_findLevel_12 ?_
  refine lv_asi (y := (v_X3_findLevel_3 S)) rfl ?_
  refine lv_bipush (v := 8) hx hb dX3_findLevel_13 (by decide) ?_
  refine lv_isub hx hb dX3_findLevel_15 ?_
  refine lv_asi (y := (v_X3_findLevel_4 S)) rfl ?_
  subst hQ; exact W.iret (v := (v_X3_findLevel_4 S)) hx hb hr (fun t ht hW => ⟨⟨(v_X3_findLevel_4 S), S, rfl, ⟨rfl, (show (v_X3_findLevel_4 S) = r_X3_findLevel S from rfl)⟩, endW hP1 hK hD1 ht hW⟩, hS1.F ht⟩) hS1.2.2 dX3_findLevel_16
end
section
def v_X7_isSteady_1 (S : St) : Int32 := if (S.1 43) < 32 then 0 else 1
def r_X7_isSteady (S : St) : Int32 := (v_X7_isSteady_1 S)
def rm_X7_isSteady : Room := { frames := 0, cells := 0, slots := 0, locals := 0 }
set_option maxRecDepth 100000 in
set_option maxHeartbeats 4000000 in
theorem k_X7_isSteady (l : Launch) (D : va_G) (a : Nat → Nat) (cZ cI : ClassId) (S : St) (sz : Nat) : Met l yX7_isSteady wsX7_isSteady rm_X7_isSteady (va_Pc [.ref (a 9)] (pW D (tyZI cZ cI) (wP a cZ cI S) sz nP)) (va_Qi (fun (r : Int32) (u : St) => u = S ∧ r = r_X7_isSteady S) (fun u t => oW D (tyZI cZ cI) (wP a cZ cI u) (aA (adP a) sz) t) (aA (adP a) sz)) 0 0 (aA (adP a) sz) := by
  refine Met.ofW (cc := cX7_isSteady) (maxL := 1) (ret := (some .boolean)) (by decide +kernel) rfl ?_
  intro p e s m args below meth c s₁ B hml hv
  obtain ⟨rfl, hsz, hP0, hK, hD9, hN⟩ := hv
  have hx := B.exec
  have hb := B.bytes
  have hr := B.returns
  have hts := atoms_spec (ws := wsX7_isSteady) B.pre
  have hown : s.vm.findClass RX7 = some m.cls := findClass_of_methodNamed B.named
  have hlocks := B.notSynchronized
  subst hsz
  have hD0 := aA_self (sz := s.heap.size) (as := adP a) hD9 rfl
  generalize hAe : aA (adP a) s.heap.size = A at hD0 ⊢
  have hA : ∀ q : Nat, s.heap.size ≤ q → A q := fun q h => by rw [← hAe]; exact Or.inr h
  have hAc : ∀ q : Nat, q ∈ adP a → A q := fun q h => by rw [← hAe]; exact Or.inl h
  have hS0 : va_S A s.heap s.heap [] := va_S.rf
  have hl0 := lv_entry ([.ref (a 9)]) (n := 1) (Nat.le_of_ble_eq_true rfl)
  rw [lg_entry_eq]
  generalize (lg_sl ([.ref (a 9)]) ++ List.replicate (1 - (lg_sl ([.ref (a 9)])).length) Slot.unset).toArray = ls0 at hl0 ⊢
  have hl0 : lv_has ls0 1 [(0, .ref (a 9))] := hl0
  generalize hQ : MQ below _ _ s _ _ _ = Q
  clear hD9 B
  refine lv_aload_n hx hb dX7_isSteady_0 rfl (lv_at hl0 0 rfl) ?_
  refine va_get (D := D) (ci := 7) (v := .int (S.1 43)) (C := RX7) (T := TX7) (N := 4) hx hb hts (fun _ h => List.mem_cons_of_mem _ (List.mem_append_right _ (h))) hown hK hP0 9 rfl rfl 2 (by decide) (hts (.fieldLink RX7 18 "Phaselock$PhaseLog" "steadyCount" "I") (List.mem_cons_of_mem _ (List.mem_append_left _ (List.mem_of_getElem? (i := 0) rfl)))) (fun _ h9 => h9) rfl dX7_isSteady_1 ?_
  refine lv_bipush (v := 32) hx hb dX7_isSteady_4 (by decide) ?_
  have J1_6 : W p l e (headSpec wsX7_isSteady rm_X7_isSteady).room s m ([.ref (a 9)] : List Value).toArray below meth c s.heap [] 0 0 Q (F0 m 14 ls0 [.int (v_X7_isSteady_1 S)]) := by
    subst hQ; exact W.zret (v := (v_X7_isSteady_1 S)) hx hb hr (by unfold v_X7_isSteady_1; (repeat' split) <;> decide) (fun t ht hW => ⟨⟨(v_X7_isSteady_1 S), S, rfl, ⟨rfl, (show (v_X7_isSteady_1 S) = r_X7_isSteady S from rfl)⟩, endW hP0 hK hD0 ht hW⟩, hS0.F ht⟩) hS0.2.2 dX7_isSteady_14
  refine lv_icmp_lt (tgt := 13) hx hb dX7_isSteady_6 (by decide) (fun c1_6 => ?_) (fun c1_6 => ?_)
  · refine lv_iconst (v := 0) hx hb dX7_isSteady_13 (by decide) ?_
    refine lv_asi (y := (v_X7_isSteady_1 S)) (show (v_X7_isSteady_1 S) = 0 from (if_pos c1_6)).symm ?_
    exact J1_6
  · refine lv_iconst (v := 1) hx hb dX7_isSteady_9 (by decide) ?_
    refine lv_goto (tgt := 14) hx hb dX7_isSteady_10 (by decide) ?_
    refine lv_asi (y := (v_X7_isSteady_1 S)) (show (v_X7_isSteady_1 S) = 1 from (if_neg c1_6)).symm ?_
    exact J1_6
theorem z_X7_isSteady (S : St) : narrow .boolean (.int (r_X7_isSteady S)) = .int (r_X7_isSteady S) := by
  unfold r_X7_isSteady
  first
    | ((repeat' split) <;> decide)
    | (simp only [v_X7_isSteady_1]; (repeat' split) <;> decide)

def sabs (S : St) : Nat → Int32
  | 0 => 0
  | i + 1 => sabs S i + (if 0 ≤ S.2.2.2 (nI i).toNatClampNeg then S.2.2.2 (nI i).toNatClampNeg else 0 - S.2.2.2 (nI i).toNatClampNeg)
def v_X7_sumAbsolutes_2 (S : St) (i : Nat) : Int32 := S.2.2.2 ((nI i)).toNatClampNeg
def v_X7_sumAbsolutes_3 (S : St) (i : Nat) : Int32 := if 0 ≤ (v_X7_sumAbsolutes_2 S i) then (v_X7_sumAbsolutes_2 S i) else 0 - (v_X7_sumAbsolutes_2 S i)
def v_X7_sumAbsolutes_4 (S : St) (i : Nat) : Int32 := (sabs S i) + (v_X7_sumAbsolutes_3 S i)
def v_X7_sumAbsolutes_5 (S : St) (i : Nat) : Int32 := (nI i) + 1
def r_X7_sumAbsolutes (S : St) : Int32 := (sabs S 32)
def rm_X7_sumAbsolutes : Room := { frames := 1, cells := 0, slots := 0, locals := 21 }
set_option maxRecDepth 100000 in
set_option maxHeartbeats 4000000 in
theorem k_X7_sumAbsolutes (l : Launch) (D : va_G) (a : Nat → Nat) (cZ cI : ClassId) (S : St) (sz : Nat) : Met l yX7_sumAbsolutes wsX7_sumAbsolutes rm_X7_sumAbsolutes (va_Pc [.ref (a 9)] (pW D (tyZI cZ cI) (wP a cZ cI S) sz nP)) (va_Qi (fun (r : Int32) (u : St) => u = S ∧ r = r_X7_sumAbsolutes S) (fun u t => oW D (tyZI cZ cI) (wP a cZ cI u) (aA (adP a) sz) t) (aA (adP a) sz)) 0 0 (aA (adP a) sz) := by
  refine Met.ofW (cc := cX7_sumAbsolutes) (maxL := 3) (ret := (some .int)) (by decide +kernel) rfl ?_
  intro p e s m args below meth c s₁ B hml hv
  obtain ⟨rfl, hsz, hP0, hK, hD9, hN⟩ := hv
  have hx := B.exec
  have hb := B.bytes
  have hr := B.returns
  have hts := atoms_spec (ws := wsX7_sumAbsolutes) B.pre
  have hown : s.vm.findClass RX7 = some m.cls := findClass_of_methodNamed B.named
  have hlocks := B.notSynchronized
  subst hsz
  have hD0 := aA_self (sz := s.heap.size) (as := adP a) hD9 rfl
  generalize hAe : aA (adP a) s.heap.size = A at hD0 ⊢
  have hA : ∀ q : Nat, s.heap.size ≤ q → A q := fun q h => by rw [← hAe]; exact Or.inr h
  have hAc : ∀ q : Nat, q ∈ adP a → A q := fun q h => by rw [← hAe]; exact Or.inl h
  have hS0 : va_S A s.heap s.heap [] := va_S.rf
  have hl0 := lv_entry ([.ref (a 9)]) (n := 3) (Nat.le_of_ble_eq_true rfl)
  rw [lg_entry_eq]
  generalize (lg_sl ([.ref (a 9)]) ++ List.replicate (3 - (lg_sl ([.ref (a 9)])).length) Slot.unset).toArray = ls0 at hl0 ⊢
  have hl0 : lv_has ls0 3 [(0, .ref (a 9))] := hl0
  generalize hQ : MQ below _ _ s _ _ _ = Q
  clear hD9 B
  refine lv_iconst (v := 0) hx hb dX7_sumAbsolutes_0 (by decide) ?_
  refine lv_istore_n (lv' := [(1, .int 0), (0, .ref (a 9))]) hx hb dX7_sumAbsolutes_1 rfl hl0 (by decide) rfl (fun ls1 hl1 => ?_)
  clear hl0
  refine lv_iconst (v := 0) hx hb dX7_sumAbsolutes_2 (by decide) ?_
  refine lv_istore_n (lv' := [(2, .int 0), (1, .int 0), (0, .ref (a 9))]) hx hb dX7_sumAbsolutes_3 rfl hl1 (by decide) rfl (fun ls2 hl2 => ?_)
  clear hl1
  have LOOP : ∀ (n i : Nat), i ≤ 32 → 32 < i + n → ∀ (H1 : Heap) (L1 : List Loc), va_P D vwCl (wP a cZ cI S) H1 → va_D A (wP a cZ cI S) → va_S A s.heap H1 L1 → ∀ ls3 : Array Slot, lv_has ls3 3 [(2, .int (nI i)), (1, .int (sabs S i)), (0, .ref (a 9))] → W p l e (headSpec wsX7_sumAbsolutes rm_X7_sumAbsolutes).room s m ([.ref (a 9)] : List Value).toArray below meth c H1 L1 0 0 Q (F0 m 4 ls3 []) := by
    clear hP0 hD0 hS0 hl2
    intro n
    induction n with
    | zero => exact fun i h1 h2 => absurd h2 (by omega)
    | succ n ih =>
      intro i hi hin H1 L1 hP1 hD1 hS1 ls3 hl3
      refine lv_iload_n hx hb dX7_sumAbsolutes_4 rfl (lv_at hl3 0 rfl) ?_
      refine lv_bipush (v := 32) hx hb dX7_sumAbsolutes_5 (by decide) ?_
      refine lv_icmp_ge (tgt := 28) hx hb dX7_sumAbsolutes_7 (by decide) (fun c1_7 => ?_) (fun c1_7 => ?_)
      · have hie : i = 32 := lp_ge (N := 32) (by decide) hi c1_7
        subst hie
        refine lv_iload_n hx hb dX7_sumAbsolutes_28 rfl (lv_at hl3 1 rfl) ?_
        subst hQ; exact W.iret (v := (sabs S 32)) hx hb hr (fun t ht hW => ⟨⟨(sabs S 32), S, rfl, ⟨rfl, (show (sabs S 32) = r_X7_sumAbsolutes S from rfl)⟩, endW hP1 hK hD1 ht hW⟩, hS1.F ht⟩) hS1.2.2 dX7_sumAbsolutes_29
      · have hlt : i < 32 := lp_lt (N := 32) (by decide) hi c1_7
        refine lv_iload_n hx hb dX7_sumAbsolutes_10 rfl (lv_at hl3 1 rfl) ?_
        refine lv_aload_n hx hb dX7_sumAbsolutes_11 rfl (lv_at hl3 2 rfl) ?_
        refine va_get (D := D) (ci := 7) (v := .ref (a 12)) (C := RX7) (T := TX7) (N := 4) hx hb hts (fun _ h => List.mem_cons_of_mem _ (List.mem_append_right _ (h))) hown hK hP1 9 rfl rfl 3 (by decide) (hts (.fieldLink RX7 21 "Phaselock$PhaseLog" "window" "[I") (List.mem_cons_of_mem _ (List.mem_append_left _ (List.mem_of_getElem? (i := 0) rfl)))) (fun _ h9 => h9) rfl dX7_sumAbsolutes_12 ?_
        refine lv_iload_n hx hb dX7_sumAbsolutes_15 rfl (lv_at hl3 0 rfl) ?_
        refine va_iald (D := D) hx hb hK hP1 12 1 rfl rfl (vp_in_nI hlt (by decide)) dX7_sumAbsolutes_16 ?_
        refine lv_asi (y := (v_X7_sumAbsolutes_2 S i)) rfl ?_
        refine va_mabs hx hb (hml.trans hl3.1.symm) hown (hts (.methodLink RX7 29 Lib.Math.abs.name) (List.mem_cons_of_mem _ (List.mem_append_left _ (List.mem_of_getElem? (i := 1) rfl)))) (hts (.static Lib.Math.abs.name) (List.mem_cons_of_mem _ (List.mem_append_left _ (List.mem_of_getElem? (i := 2) rfl)))) (hts (.initialized "java/lang/Math") (List.mem_cons_of_mem _ (List.mem_append_left _ (List.mem_of_getElem? (i := 3) rfl)))) (hts (.code Lib.Math.abs.name Lib.Math.abs.code 1 (some .int)) (List.mem_cons_of_mem _ (List.mem_append_left _ (List.mem_of_getElem? (i := 4) rfl)))) (Nat.le_of_ble_eq_true rfl) (Nat.le_of_ble_eq_true rfl) (Nat.le_refl 0) (Nat.le_refl 0) dX7_sumAbsolutes_17 ?_
        refine lv_asi (y := (v_X7_sumAbsolutes_3 S i)) rfl ?_
        refine lv_iadd hx hb dX7_sumAbsolutes_20 ?_
        refine lv_asi (y := (v_X7_sumAbsolutes_4 S i)) rfl ?_
        refine lv_istore_n (lv' := [(1, .int (v_X7_sumAbsolutes_4 S i)), (2, .int (nI i)), (0, .ref (a 9))]) hx hb dX7_sumAbsolutes_21 rfl hl3 (by decide) rfl (fun ls4 hl4 => ?_)
        clear hl3
        refine lv_iinc (v := (v_X7_sumAbsolutes_5 S i)) (lv' := [(2, .int (v_X7_sumAbsolutes_5 S i)), (1, .int (v_X7_sumAbsolutes_4 S i)), (0, .ref (a 9))]) hx hb dX7_sumAbsolutes_22 hl4 (k := 1) rfl rfl (by decide) rfl (fun ls5 hl5 => ?_)
        clear hl4
        refine lv_goto (tgt := 4) hx hb dX7_sumAbsolutes_25 (by decide) ?_
        exact ih (i + 1) (by omega) (by omega) _ _ hP1 hD1 hS1 _ (by rw [show (nI (i + 1)) = (v_X7_sumAbsolutes_5 S i) from (nI_1 i).symm, show (sabs S (i + 1)) = (v_X7_sumAbsolutes_4 S i) from rfl]; exact lv_sub (l' := [(2, .int (v_X7_sumAbsolutes_5 S i)), (1, .int (v_X7_sumAbsolutes_4 S i)), (0, .ref (a 9))]) hl5 [0, 1, 2] rfl)
  exact LOOP (32 + 1) 0 (Nat.zero_le _) (by omega) _ _ hP0 hD0 hS0 _ (lv_sub (l' := [(2, .int (nI 0)), (1, .int (sabs S 0)), (0, .ref (a 9))]) hl2 [0, 1, 2] rfl)
end
section
def r_X10_ticks (S : St) : Int32 := (S.1 9)
def rm_X10_ticks : Room := { frames := 0, cells := 0, slots := 0, locals := 0 }
set_option maxRecDepth 100000 in
set_option maxHeartbeats 4000000 in
theorem k_X10_ticks (l : Launch) (D : va_G) (a : Nat → Nat) (cZ cI : ClassId) (S : St) (sz : Nat) : Met l yX10_ticks wsX10_ticks rm_X10_ticks (va_Pc [.ref (a 0)] (pW D (tyZI cZ cI) (wP a cZ cI S) sz nP)) (va_Qi (fun (r : Int32) (u : St) => u = S ∧ r = r_X10_ticks S) (fun u t => oW D (tyZI cZ cI) (wP a cZ cI u) (aA (adP a) sz) t) (aA (adP a) sz)) 0 0 (aA (adP a) sz) := by
  refine Met.ofW (cc := cX10_ticks) (maxL := 1) (ret := (some .int)) (by decide +kernel) rfl ?_
  intro p e s m args below meth c s₁ B hml hv
  obtain ⟨rfl, hsz, hP0, hK, hD9, hN⟩ := hv
  have hx := B.exec
  have hb := B.bytes
  have hr := B.returns
  have hts := atoms_spec (ws := wsX10_ticks) B.pre
  have hown : s.vm.findClass RX10 = some m.cls := findClass_of_methodNamed B.named
  have hlocks := B.notSynchronized
  subst hsz
  have hD0 := aA_self (sz := s.heap.size) (as := adP a) hD9 rfl
  generalize hAe : aA (adP a) s.heap.size = A at hD0 ⊢
  have hA : ∀ q : Nat, s.heap.size ≤ q → A q := fun q h => by rw [← hAe]; exact Or.inr h
  have hAc : ∀ q : Nat, q ∈ adP a → A q := fun q h => by rw [← hAe]; exact Or.inl h
  have hS0 : va_S A s.heap s.heap [] := va_S.rf
  have hl0 := lv_entry ([.ref (a 0)]) (n := 1) (Nat.le_of_ble_eq_true rfl)
  rw [lg_entry_eq]
  generalize (lg_sl ([.ref (a 0)]) ++ List.replicate (1 - (lg_sl ([.ref (a 0)])).length) Slot.unset).toArray = ls0 at hl0 ⊢
  have hl0 : lv_has ls0 1 [(0, .ref (a 0))] := hl0
  generalize hQ : MQ below _ _ s _ _ _ = Q
  clear hD9 B
  refine lv_aload_n hx hb dX10_ticks_0 rfl (lv_at hl0 0 rfl) ?_
  refine va_get (D := D) (ci := 10) (v := .ref (a 3)) (C := RX10) (T := TX10) (N := 10) hx hb hts (fun _ h => List.mem_cons_of_mem _ (List.mem_append_left _ (List.mem_append_right _ (h)))) hown hK hP0 0 rfl rfl 2 (by decide) (hts (.fieldLink RX10 26 "Phaselock" "edges" "LPhaselock$EdgeLog;") (List.mem_cons_of_mem _ (List.mem_append_left _ (List.mem_append_left _ (List.mem_of_getElem? (i := 0) rfl))))) (fun _ h9 => h9) rfl dX10_ticks_1 ?_
  refine va_get (D := D) (ci := 2) (v := .int (S.1 9)) (C := RX2) (T := TX2) (N := 2) hx hb hts (fun _ h => List.mem_cons_of_mem _ (List.mem_append_right _ (h))) hown hK hP0 3 rfl rfl 0 (by decide) (hts (.fieldLink RX10 140 "Phaselock$EdgeLog" "ticks" "I") (List.mem_cons_of_mem _ (List.mem_append_left _ (List.mem_append_left _ (List.mem_of_getElem? (i := 1) rfl))))) (fun _ h9 => h9) rfl dX10_ticks_4 ?_
  subst hQ; exact W.iret (v := (S.1 9)) hx hb hr (fun t ht hW => ⟨⟨(S.1 9), S, rfl, ⟨rfl, (show (S.1 9) = r_X10_ticks S from rfl)⟩, endW hP0 hK hD0 ht hW⟩, hS0.F ht⟩) hS0.2.2 dX10_ticks_7

def r_X10_sent (S : St) : Int32 := (S.1 5)
def rm_X10_sent : Room := { frames := 0, cells := 0, slots := 0, locals := 0 }
set_option maxRecDepth 100000 in
set_option maxHeartbeats 4000000 in
theorem k_X10_sent (l : Launch) (D : va_G) (a : Nat → Nat) (cZ cI : ClassId) (S : St) (sz : Nat) : Met l yX10_sent wsX10_sent rm_X10_sent (va_Pc [.ref (a 0)] (pW D (tyZI cZ cI) (wP a cZ cI S) sz nP)) (va_Qi (fun (r : Int32) (u : St) => u = S ∧ r = r_X10_sent S) (fun u t => oW D (tyZI cZ cI) (wP a cZ cI u) (aA (adP a) sz) t) (aA (adP a) sz)) 0 0 (aA (adP a) sz) := by
  refine Met.ofW (cc := cX10_sent) (maxL := 1) (ret := (some .int)) (by decide +kernel) rfl ?_
  intro p e s m args below meth c s₁ B hml hv
  obtain ⟨rfl, hsz, hP0, hK, hD9, hN⟩ := hv
  have hx := B.exec
  have hb := B.bytes
  have hr := B.returns
  have hts := atoms_spec (ws := wsX10_sent) B.pre
  have hown : s.vm.findClass RX10 = some m.cls := findClass_of_methodNamed B.named
  have hlocks := B.notSynchronized
  subst hsz
  have hD0 := aA_self (sz := s.heap.size) (as := adP a) hD9 rfl
  generalize hAe : aA (adP a) s.heap.size = A at hD0 ⊢
  have hA : ∀ q : Nat, s.heap.size ≤ q → A q := fun q h => by rw [← hAe]; exact Or.inr h
  have hAc : ∀ q : Nat, q ∈ adP a → A q := fun q h => by rw [← hAe]; exact Or.inl h
  have hS0 : va_S A s.heap s.heap [] := va_S.rf
  have hl0 := lv_entry ([.ref (a 0)]) (n := 1) (Nat.le_of_ble_eq_true rfl)
  rw [lg_entry_eq]
  generalize (lg_sl ([.ref (a 0)]) ++ List.replicate (1 - (lg_sl ([.ref (a 0)])).length) Slot.unset).toArray = ls0 at hl0 ⊢
  have hl0 : lv_has ls0 1 [(0, .ref (a 0))] := hl0
  generalize hQ : MQ below _ _ s _ _ _ = Q
  clear hD9 B
  refine lv_aload_n hx hb dX10_sent_0 rfl (lv_at hl0 0 rfl) ?_
  refine va_get (D := D) (ci := 10) (v := .ref (a 1)) (C := RX10) (T := TX10) (N := 10) hx hb hts (fun _ h => List.mem_cons_of_mem _ (List.mem_append_left _ (List.mem_append_right _ (h)))) hown hK hP0 0 rfl rfl 0 (by decide) (hts (.fieldLink RX10 10 "Phaselock" "transmitter" "LPhaselock$Transmitter;") (List.mem_cons_of_mem _ (List.mem_append_left _ (List.mem_append_left _ (List.mem_of_getElem? (i := 0) rfl))))) (fun _ h9 => h9) rfl dX10_sent_1 ?_
  refine va_get (D := D) (ci := 9) (v := .int (S.1 5)) (C := RX9) (T := TX9) (N := 7) hx hb hts (fun _ h => List.mem_cons_of_mem _ (List.mem_append_right _ (h))) hown hK hP0 1 rfl rfl 4 (by decide) (hts (.fieldLink RX10 143 "Phaselock$Transmitter" "number" "I") (List.mem_cons_of_mem _ (List.mem_append_left _ (List.mem_append_left _ (List.mem_of_getElem? (i := 1) rfl))))) (fun _ h9 => h9) rfl dX10_sent_4 ?_
  subst hQ; exact W.iret (v := (S.1 5)) hx hb hr (fun t ht hW => ⟨⟨(S.1 5), S, rfl, ⟨rfl, (show (S.1 5) = r_X10_sent S from rfl)⟩, endW hP0 hK hD0 ht hW⟩, hS0.F ht⟩) hS0.2.2 dX10_sent_7

def r_X10_line (S : St) : Int32 := (S.1 7)
def rm_X10_line : Room := { frames := 0, cells := 0, slots := 0, locals := 0 }
set_option maxRecDepth 100000 in
set_option maxHeartbeats 4000000 in
theorem k_X10_line (l : Launch) (D : va_G) (a : Nat → Nat) (cZ cI : ClassId) (S : St) (sz : Nat) : Met l yX10_line wsX10_line rm_X10_line (va_Pc [.ref (a 0)] (pW D (tyZI cZ cI) (wP a cZ cI S) sz nP)) (va_Qi (fun (r : Int32) (u : St) => u = S ∧ r = r_X10_line S) (fun u t => oW D (tyZI cZ cI) (wP a cZ cI u) (aA (adP a) sz) t) (aA (adP a) sz)) 0 0 (aA (adP a) sz) := by
  refine Met.ofW (cc := cX10_line) (maxL := 1) (ret := (some .int)) (by decide +kernel) rfl ?_
  intro p e s m args below meth c s₁ B hml hv
  obtain ⟨rfl, hsz, hP0, hK, hD9, hN⟩ := hv
  have hx := B.exec
  have hb := B.bytes
  have hr := B.returns
  have hts := atoms_spec (ws := wsX10_line) B.pre
  have hown : s.vm.findClass RX10 = some m.cls := findClass_of_methodNamed B.named
  have hlocks := B.notSynchronized
  subst hsz
  have hD0 := aA_self (sz := s.heap.size) (as := adP a) hD9 rfl
  generalize hAe : aA (adP a) s.heap.size = A at hD0 ⊢
  have hA : ∀ q : Nat, s.heap.size ≤ q → A q := fun q h => by rw [← hAe]; exact Or.inr h
  have hAc : ∀ q : Nat, q ∈ adP a → A q := fun q h => by rw [← hAe]; exact Or.inl h
  have hS0 : va_S A s.heap s.heap [] := va_S.rf
  have hl0 := lv_entry ([.ref (a 0)]) (n := 1) (Nat.le_of_ble_eq_true rfl)
  rw [lg_entry_eq]
  generalize (lg_sl ([.ref (a 0)]) ++ List.replicate (1 - (lg_sl ([.ref (a 0)])).length) Slot.unset).toArray = ls0 at hl0 ⊢
  have hl0 : lv_has ls0 1 [(0, .ref (a 0))] := hl0
  generalize hQ : MQ below _ _ s _ _ _ = Q
  clear hD9 B
  refine lv_aload_n hx hb dX10_line_0 rfl (lv_at hl0 0 rfl) ?_
  refine va_get (D := D) (ci := 10) (v := .ref (a 1)) (C := RX10) (T := TX10) (N := 10) hx hb hts (fun _ h => List.mem_cons_of_mem _ (List.mem_append_left _ (List.mem_append_right _ (h)))) hown hK hP0 0 rfl rfl 0 (by decide) (hts (.fieldLink RX10 10 "Phaselock" "transmitter" "LPhaselock$Transmitter;") (List.mem_cons_of_mem _ (List.mem_append_left _ (List.mem_append_left _ (List.mem_of_getElem? (i := 0) rfl))))) (fun _ h9 => h9) rfl dX10_line_1 ?_
  refine va_get (D := D) (ci := 9) (v := .int (S.1 7)) (C := RX9) (T := TX9) (N := 7) hx hb hts (fun _ h => List.mem_cons_of_mem _ (List.mem_append_right _ (h))) hown hK hP0 1 rfl rfl 5 (by decide) (hts (.fieldLink RX10 146 "Phaselock$Transmitter" "value" "I") (List.mem_cons_of_mem _ (List.mem_append_left _ (List.mem_append_left _ (List.mem_of_getElem? (i := 1) rfl))))) (fun _ h9 => h9) rfl dX10_line_4 ?_
  subst hQ; exact W.iret (v := (S.1 7)) hx hb hr (fun t ht hW => ⟨⟨(S.1 7), S, rfl, ⟨rfl, (show (S.1 7) = r_X10_line S from rfl)⟩, endW hP0 hK hD0 ht hW⟩, hS0.F ht⟩) hS0.2.2 dX10_line_7

def v_X10_level_1 (S : St) : Int32 := r_X3_findLevel S
def r_X10_level (S : St) : Int32 := (v_X10_level_1 S)
def rm_X10_level : Room := { frames := 2, cells := 0, slots := 0, locals := 40 }
set_option maxRecDepth 100000 in
set_option maxHeartbeats 4000000 in
theorem k_X10_level (l : Launch) (D : va_G) (a : Nat → Nat) (cZ cI : ClassId) (S : St) (sz : Nat) : Met l yX10_level wsX10_level rm_X10_level (va_Pc [.ref (a 0)] (pW D (tyZI cZ cI) (wP a cZ cI S) sz nP)) (va_Qi (fun (r : Int32) (u : St) => u = S ∧ r = r_X10_level S) (fun u t => oW D (tyZI cZ cI) (wP a cZ cI u) (aA (adP a) sz) t) (aA (adP a) sz)) 0 0 (aA (adP a) sz) := by
  refine Met.ofW (cc := cX10_level) (maxL := 1) (ret := (some .int)) (by decide +kernel) rfl ?_
  intro p e s m args below meth c s₁ B hml hv
  obtain ⟨rfl, hsz, hP0, hK, hD9, hN⟩ := hv
  have hx := B.exec
  have hb := B.bytes
  have hr := B.returns
  have hts := atoms_spec (ws := wsX10_level) B.pre
  have hown : s.vm.findClass RX10 = some m.cls := findClass_of_methodNamed B.named
  have hlocks := B.notSynchronized
  subst hsz
  have hD0 := aA_self (sz := s.heap.size) (as := adP a) hD9 rfl
  generalize hAe : aA (adP a) s.heap.size = A at hD0 ⊢
  have hA : ∀ q : Nat, s.heap.size ≤ q → A q := fun q h => by rw [← hAe]; exact Or.inr h
  have hAc : ∀ q : Nat, q ∈ adP a → A q := fun q h => by rw [← hAe]; exact Or.inl h
  have hS0 : va_S A s.heap s.heap [] := va_S.rf
  have hl0 := lv_entry ([.ref (a 0)]) (n := 1) (Nat.le_of_ble_eq_true rfl)
  rw [lg_entry_eq]
  generalize (lg_sl ([.ref (a 0)]) ++ List.replicate (1 - (lg_sl ([.ref (a 0)])).length) Slot.unset).toArray = ls0 at hl0 ⊢
  have hl0 : lv_has ls0 1 [(0, .ref (a 0))] := hl0
  generalize hQ : MQ below _ _ s _ _ _ = Q
  clear hD9 B
  refine lv_aload_n hx hb dX10_level_0 rfl (lv_at hl0 0 rfl) ?_
  refine va_get (D := D) (ci := 10) (v := .ref (a 2)) (C := RX10) (T := TX10) (N := 10) hx hb hts (fun _ h => List.mem_cons_of_mem _ (List.mem_append_left _ (List.mem_append_right _ (h)))) hown hK hP0 0 rfl rfl 1 (by decide) (hts (.fieldLink RX10 19 "Phaselock" "memory" "LPhaselock$LineMemory;") (List.mem_cons_of_mem _ (List.mem_append_left _ (List.mem_append_left _ (List.mem_of_getElem? (i := 0) rfl))))) (fun _ h9 => h9) rfl dX10_level_1 ?_
  refine va_calli (va_runV (As := []) (rest := []) ⟨hx, hb, hml, hown, hts⟩ (k_X3_findLevel l D a cZ cI S s.heap.size) (cwV 0 hts gX10_level_X3_findLevel rfl rfl rfl (by decide +kernel) ⟨Nat.le_of_ble_eq_true rfl, Nat.le_of_ble_eq_true rfl⟩) ⟨blW okN_P, va_recv hK hP0 (ci := 3) (q0 := 2) rfl rfl, preW hP0 hK hD0 okN_P hN⟩ rfl rfl hl0.1 rfl (lv_room (Nat.le_of_ble_eq_true rfl)) dX10_level_4 ⟨Nat.zero_le _, Nat.zero_le _⟩) hS0 (aA_in hAc) (aA_free hAc hA hS0) (fun r1 u1 t1 H1 L1 ht1 hvm1 hw1 hB1 _ _ hS1 => ?_)
  obtain ⟨hP1, hD1⟩ := backW hB1 ht1 (aA_free hAc hA hS0)
  clear hB1 ht1 hvm1 t1
  obtain ⟨hu1, hr1⟩ := hw1
  subst u1; subst r1
  clear hP0 hD0 hS0
  refine lv_asi (y := (v_X10_level_1 S)) rfl ?_
  subst hQ; exact W.iret (v := (v_X10_level_1 S)) hx hb hr (fun t ht hW => ⟨⟨(v_X10_level_1 S), S, rfl, ⟨rfl, (show (v_X10_level_1 S) = r_X10_level S from rfl)⟩, endW hP1 hK hD1 ht hW⟩, hS1.F ht⟩) hS1.2.2 dX10_level_7

def r_X10_sender (S : St) : Int32 := (S.1 1)
def rm_X10_sender : Room := { frames := 0, cells := 0, slots := 0, locals := 0 }
set_option maxRecDepth 100000 in
set_option maxHeartbeats 4000000 in
theorem k_X10_sender (l : Launch) (D : va_G) (a : Nat → Nat) (cZ cI : ClassId) (S : St) (sz : Nat) : Met l yX10_sender wsX10_sender rm_X10_sender (va_Pc [.ref (a 0)] (pW D (tyZI cZ cI) (wP a cZ cI S) sz nP)) (va_Qi (fun (r : Int32) (u : St) => u = S ∧ r = r_X10_sender S) (fun u t => oW D (tyZI cZ cI) (wP a cZ cI u) (aA (adP a) sz) t) (aA (adP a) sz)) 0 0 (aA (adP a) sz) := by
  refine Met.ofW (cc := cX10_sender) (maxL := 1) (ret := (some .int)) (by decide +kernel) rfl ?_
  intro p e s m args below meth c s₁ B hml hv
  obtain ⟨rfl, hsz, hP0, hK, hD9, hN⟩ := hv
  have hx := B.exec
  have hb := B.bytes
  have hr := B.returns
  have hts := atoms_spec (ws := wsX10_sender) B.pre
  have hown : s.vm.findClass RX10 = some m.cls := findClass_of_methodNamed B.named
  have hlocks := B.notSynchronized
  subst hsz
  have hD0 := aA_self (sz := s.heap.size) (as := adP a) hD9 rfl
  generalize hAe : aA (adP a) s.heap.size = A at hD0 ⊢
  have hA : ∀ q : Nat, s.heap.size ≤ q → A q := fun q h => by rw [← hAe]; exact Or.inr h
  have hAc : ∀ q : Nat, q ∈ adP a → A q := fun q h => by rw [← hAe]; exact Or.inl h
  have hS0 : va_S A s.heap s.heap [] := va_S.rf
  have hl0 := lv_entry ([.ref (a 0)]) (n := 1) (Nat.le_of_ble_eq_true rfl)
  rw [lg_entry_eq]
  generalize (lg_sl ([.ref (a 0)]) ++ List.replicate (1 - (lg_sl ([.ref (a 0)])).length) Slot.unset).toArray = ls0 at hl0 ⊢
  have hl0 : lv_has ls0 1 [(0, .ref (a 0))] := hl0
  generalize hQ : MQ below _ _ s _ _ _ = Q
  clear hD9 B
  refine lv_aload_n hx hb dX10_sender_0 rfl (lv_at hl0 0 rfl) ?_
  refine va_get (D := D) (ci := 10) (v := .ref (a 1)) (C := RX10) (T := TX10) (N := 10) hx hb hts (fun _ h => List.mem_cons_of_mem _ (List.mem_append_left _ (List.mem_append_right _ (h)))) hown hK hP0 0 rfl rfl 0 (by decide) (hts (.fieldLink RX10 10 "Phaselock" "transmitter" "LPhaselock$Transmitter;") (List.mem_cons_of_mem _ (List.mem_append_left _ (List.mem_append_left _ (List.mem_of_getElem? (i := 0) rfl))))) (fun _ h9 => h9) rfl dX10_sender_1 ?_
  refine va_get (D := D) (ci := 9) (v := .int (S.1 1)) (C := RX9) (T := TX9) (N := 7) hx hb hts (fun _ h => List.mem_cons_of_mem _ (List.mem_append_right _ (h))) hown hK hP0 1 rfl rfl 0 (by decide) (hts (.fieldLink RX10 153 "Phaselock$Transmitter" "phase" "I") (List.mem_cons_of_mem _ (List.mem_append_left _ (List.mem_append_left _ (List.mem_of_getElem? (i := 1) rfl))))) (fun _ h9 => h9) rfl dX10_sender_4 ?_
  subst hQ; exact W.iret (v := (S.1 1)) hx hb hr (fun t ht hW => ⟨⟨(S.1 1), S, rfl, ⟨rfl, (show (S.1 1) = r_X10_sender S from rfl)⟩, endW hP0 hK hD0 ht hW⟩, hS0.F ht⟩) hS0.2.2 dX10_sender_7

def r_X10_receiver (S : St) : Int32 := (S.1 11)
def rm_X10_receiver : Room := { frames := 0, cells := 0, slots := 0, locals := 0 }
set_option maxRecDepth 100000 in
set_option maxHeartbeats 4000000 in
theorem k_X10_receiver (l : Launch) (D : va_G) (a : Nat → Nat) (cZ cI : ClassId) (S : St) (sz : Nat) : Met l yX10_receiver wsX10_receiver rm_X10_receiver (va_Pc [.ref (a 0)] (pW D (tyZI cZ cI) (wP a cZ cI S) sz nP)) (va_Qi (fun (r : Int32) (u : St) => u = S ∧ r = r_X10_receiver S) (fun u t => oW D (tyZI cZ cI) (wP a cZ cI u) (aA (adP a) sz) t) (aA (adP a) sz)) 0 0 (aA (adP a) sz) := by
  refine Met.ofW (cc := cX10_receiver) (maxL := 1) (ret := (some .int)) (by decide +kernel) rfl ?_
  intro p e s m args below meth c s₁ B hml hv
  obtain ⟨rfl, hsz, hP0, hK, hD9, hN⟩ := hv
  have hx := B.exec
  have hb := B.bytes
  have hr := B.returns
  have hts := atoms_spec (ws := wsX10_receiver) B.pre
  have hown : s.vm.findClass RX10 = some m.cls := findClass_of_methodNamed B.named
  have hlocks := B.notSynchronized
  subst hsz
  have hD0 := aA_self (sz := s.heap.size) (as := adP a) hD9 rfl
  generalize hAe : aA (adP a) s.heap.size = A at hD0 ⊢
  have hA : ∀ q : Nat, s.heap.size ≤ q → A q := fun q h => by rw [← hAe]; exact Or.inr h
  have hAc : ∀ q : Nat, q ∈ adP a → A q := fun q h => by rw [← hAe]; exact Or.inl h
  have hS0 : va_S A s.heap s.heap [] := va_S.rf
  have hl0 := lv_entry ([.ref (a 0)]) (n := 1) (Nat.le_of_ble_eq_true rfl)
  rw [lg_entry_eq]
  generalize (lg_sl ([.ref (a 0)]) ++ List.replicate (1 - (lg_sl ([.ref (a 0)])).length) Slot.unset).toArray = ls0 at hl0 ⊢
  have hl0 : lv_has ls0 1 [(0, .ref (a 0))] := hl0
  generalize hQ : MQ below _ _ s _ _ _ = Q
  clear hD9 B
  refine lv_aload_n hx hb dX10_receiver_0 rfl (lv_at hl0 0 rfl) ?_
  refine va_get (D := D) (ci := 10) (v := .ref (a 4)) (C := RX10) (T := TX10) (N := 10) hx hb hts (fun _ h => List.mem_cons_of_mem _ (List.mem_append_left _ (List.mem_append_right _ (h)))) hown hK hP0 0 rfl rfl 3 (by decide) (hts (.fieldLink RX10 33 "Phaselock" "oscillator" "LPhaselock$Oscillator;") (List.mem_cons_of_mem _ (List.mem_append_left _ (List.mem_append_left _ (List.mem_of_getElem? (i := 0) rfl))))) (fun _ h9 => h9) rfl dX10_receiver_1 ?_
  refine va_get (D := D) (ci := 5) (v := .int (S.1 11)) (C := RX5) (T := TX5) (N := 1) hx hb hts (fun _ h => List.mem_cons_of_mem _ (List.mem_append_right _ (h))) hown hK hP0 4 rfl rfl 0 (by decide) (hts (.fieldLink RX10 123 "Phaselock$Oscillator" "phase" "I") (List.mem_cons_of_mem _ (List.mem_append_left _ (List.mem_append_left _ (List.mem_of_getElem? (i := 1) rfl))))) (fun _ h9 => h9) rfl dX10_receiver_4 ?_
  subst hQ; exact W.iret (v := (S.1 11)) hx hb hr (fun t ht hW => ⟨⟨(S.1 11), S, rfl, ⟨rfl, (show (S.1 11) = r_X10_receiver S from rfl)⟩, endW hP0 hK hD0 ht hW⟩, hS0.F ht⟩) hS0.2.2 dX10_receiver_7

def r_X10_error (S : St) : Int32 := (S.1 14)
def rm_X10_error : Room := { frames := 0, cells := 0, slots := 0, locals := 0 }
set_option maxRecDepth 100000 in
set_option maxHeartbeats 4000000 in
theorem k_X10_error (l : Launch) (D : va_G) (a : Nat → Nat) (cZ cI : ClassId) (S : St) (sz : Nat) : Met l yX10_error wsX10_error rm_X10_error (va_Pc [.ref (a 0)] (pW D (tyZI cZ cI) (wP a cZ cI S) sz nP)) (va_Qi (fun (r : Int32) (u : St) => u = S ∧ r = r_X10_error S) (fun u t => oW D (tyZI cZ cI) (wP a cZ cI u) (aA (adP a) sz) t) (aA (adP a) sz)) 0 0 (aA (adP a) sz) := by
  refine Met.ofW (cc := cX10_error) (maxL := 1) (ret := (some .int)) (by decide +kernel) rfl ?_
  intro p e s m args below meth c s₁ B hml hv
  obtain ⟨rfl, hsz, hP0, hK, hD9, hN⟩ := hv
  have hx := B.exec
  have hb := B.bytes
  have hr := B.returns
  have hts := atoms_spec (ws := wsX10_error) B.pre
  have hown : s.vm.findClass RX10 = some m.cls := findClass_of_methodNamed B.named
  have hlocks := B.notSynchronized
  subst hsz
  have hD0 := aA_self (sz := s.heap.size) (as := adP a) hD9 rfl
  generalize hAe : aA (adP a) s.heap.size = A at hD0 ⊢
  have hA : ∀ q : Nat, s.heap.size ≤ q → A q := fun q h => by rw [← hAe]; exact Or.inr h
  have hAc : ∀ q : Nat, q ∈ adP a → A q := fun q h => by rw [← hAe]; exact Or.inl h
  have hS0 : va_S A s.heap s.heap [] := va_S.rf
  have hl0 := lv_entry ([.ref (a 0)]) (n := 1) (Nat.le_of_ble_eq_true rfl)
  rw [lg_entry_eq]
  generalize (lg_sl ([.ref (a 0)]) ++ List.replicate (1 - (lg_sl ([.ref (a 0)])).length) Slot.unset).toArray = ls0 at hl0 ⊢
  have hl0 : lv_has ls0 1 [(0, .ref (a 0))] := hl0
  generalize hQ : MQ below _ _ s _ _ _ = Q
  clear hD9 B
  refine lv_aload_n hx hb dX10_error_0 rfl (lv_at hl0 0 rfl) ?_
  refine va_get (D := D) (ci := 10) (v := .ref (a 6)) (C := RX10) (T := TX10) (N := 10) hx hb hts (fun _ h => List.mem_cons_of_mem _ (List.mem_append_left _ (List.mem_append_right _ (h)))) hown hK hP0 0 rfl rfl 5 (by decide) (hts (.fieldLink RX10 47 "Phaselock" "filter" "LPhaselock$LoopFilter;") (List.mem_cons_of_mem _ (List.mem_append_left _ (List.mem_append_left _ (List.mem_of_getElem? (i := 0) rfl))))) (fun _ h9 => h9) rfl dX10_error_1 ?_
  refine va_get (D := D) (ci := 4) (v := .int (S.1 14)) (C := RX4) (T := TX4) (N := 5) hx hb hts (fun _ h => List.mem_cons_of_mem _ (List.mem_append_right _ (h))) hown hK hP0 6 rfl rfl 2 (by decide) (hts (.fieldLink RX10 154 "Phaselock$LoopFilter" "error" "I") (List.mem_cons_of_mem _ (List.mem_append_left _ (List.mem_append_left _ (List.mem_of_getElem? (i := 1) rfl))))) (fun _ h9 => h9) rfl dX10_error_4 ?_
  subst hQ; exact W.iret (v := (S.1 14)) hx hb hr (fun t ht hW => ⟨⟨(S.1 14), S, rfl, ⟨rfl, (show (S.1 14) = r_X10_error S from rfl)⟩, endW hP0 hK hD0 ht hW⟩, hS0.F ht⟩) hS0.2.2 dX10_error_7

def r_X10_integral (S : St) : Int32 := (S.1 13)
def rm_X10_integral : Room := { frames := 0, cells := 0, slots := 0, locals := 0 }
set_option maxRecDepth 100000 in
set_option maxHeartbeats 4000000 in
theorem k_X10_integral (l : Launch) (D : va_G) (a : Nat → Nat) (cZ cI : ClassId) (S : St) (sz : Nat) : Met l yX10_integral wsX10_integral rm_X10_integral (va_Pc [.ref (a 0)] (pW D (tyZI cZ cI) (wP a cZ cI S) sz nP)) (va_Qi (fun (r : Int32) (u : St) => u = S ∧ r = r_X10_integral S) (fun u t => oW D (tyZI cZ cI) (wP a cZ cI u) (aA (adP a) sz) t) (aA (adP a) sz)) 0 0 (aA (adP a) sz) := by
  refine Met.ofW (cc := cX10_integral) (maxL := 1) (ret := (some .int)) (by decide +kernel) rfl ?_
  intro p e s m args below meth c s₁ B hml hv
  obtain ⟨rfl, hsz, hP0, hK, hD9, hN⟩ := hv
  have hx := B.exec
  have hb := B.bytes
  have hr := B.returns
  have hts := atoms_spec (ws := wsX10_integral) B.pre
  have hown : s.vm.findClass RX10 = some m.cls := findClass_of_methodNamed B.named
  have hlocks := B.notSynchronized
  subst hsz
  have hD0 := aA_self (sz := s.heap.size) (as := adP a) hD9 rfl
  generalize hAe : aA (adP a) s.heap.size = A at hD0 ⊢
  have hA : ∀ q : Nat, s.heap.size ≤ q → A q := fun q h => by rw [← hAe]; exact Or.inr h
  have hAc : ∀ q : Nat, q ∈ adP a → A q := fun q h => by rw [← hAe]; exact Or.inl h
  have hS0 : va_S A s.heap s.heap [] := va_S.rf
  have hl0 := lv_entry ([.ref (a 0)]) (n := 1) (Nat.le_of_ble_eq_true rfl)
  rw [lg_entry_eq]
  generalize (lg_sl ([.ref (a 0)]) ++ List.replicate (1 - (lg_sl ([.ref (a 0)])).length) Slot.unset).toArray = ls0 at hl0 ⊢
  have hl0 : lv_has ls0 1 [(0, .ref (a 0))] := hl0
  generalize hQ : MQ below _ _ s _ _ _ = Q
  clear hD9 B
  refine lv_aload_n hx hb dX10_integral_0 rfl (lv_at hl0 0 rfl) ?_
  refine va_get (D := D) (ci := 10) (v := .ref (a 6)) (C := RX10) (T := TX10) (N := 10) hx hb hts (fun _ h => List.mem_cons_of_mem _ (List.mem_append_left _ (List.mem_append_right _ (h)))) hown hK hP0 0 rfl rfl 5 (by decide) (hts (.fieldLink RX10 47 "Phaselock" "filter" "LPhaselock$LoopFilter;") (List.mem_cons_of_mem _ (List.mem_append_left _ (List.mem_append_left _ (List.mem_of_getElem? (i := 0) rfl))))) (fun _ h9 => h9) rfl dX10_integral_1 ?_
  refine va_get (D := D) (ci := 4) (v := .int (S.1 13)) (C := RX4) (T := TX4) (N := 5) hx hb hts (fun _ h => List.mem_cons_of_mem _ (List.mem_append_right _ (h))) hown hK hP0 6 rfl rfl 3 (by decide) (hts (.fieldLink RX10 126 "Phaselock$LoopFilter" "integral" "I") (List.mem_cons_of_mem _ (List.mem_append_left _ (List.mem_append_left _ (List.mem_of_getElem? (i := 1) rfl))))) (fun _ h9 => h9) rfl dX10_integral_4 ?_
  subst hQ; exact W.iret (v := (S.1 13)) hx hb hr (fun t ht hW => ⟨⟨(S.1 13), S, rfl, ⟨rfl, (show (S.1 13) = r_X10_integral S from rfl)⟩, endW hP0 hK hD0 ht hW⟩, hS0.F ht⟩) hS0.2.2 dX10_integral_7

def r_X10_control (S : St) : Int32 := (S.1 12)
def rm_X10_control : Room := { frames := 0, cells := 0, slots := 0, locals := 0 }
set_option maxRecDepth 100000 in
set_option maxHeartbeats 4000000 in
theorem k_X10_control (l : Launch) (D : va_G) (a : Nat → Nat) (cZ cI : ClassId) (S : St) (sz : Nat) : Met l yX10_control wsX10_control rm_X10_control (va_Pc [.ref (a 0)] (pW D (tyZI cZ cI) (wP a cZ cI S) sz nP)) (va_Qi (fun (r : Int32) (u : St) => u = S ∧ r = r_X10_control S) (fun u t => oW D (tyZI cZ cI) (wP a cZ cI u) (aA (adP a) sz) t) (aA (adP a) sz)) 0 0 (aA (adP a) sz) := by
  refine Met.ofW (cc := cX10_control) (maxL := 1) (ret := (some .int)) (by decide +kernel) rfl ?_
  intro p e s m args below meth c s₁ B hml hv
  obtain ⟨rfl, hsz, hP0, hK, hD9, hN⟩ := hv
  have hx := B.exec
  have hb := B.bytes
  have hr := B.returns
  have hts := atoms_spec (ws := wsX10_control) B.pre
  have hown : s.vm.findClass RX10 = some m.cls := findClass_of_methodNamed B.named
  have hlocks := B.notSynchronized
  subst hsz
  have hD0 := aA_self (sz := s.heap.size) (as := adP a) hD9 rfl
  generalize hAe : aA (adP a) s.heap.size = A at hD0 ⊢
  have hA : ∀ q : Nat, s.heap.size ≤ q → A q := fun q h => by rw [← hAe]; exact Or.inr h
  have hAc : ∀ q : Nat, q ∈ adP a → A q := fun q h => by rw [← hAe]; exact Or.inl h
  have hS0 : va_S A s.heap s.heap [] := va_S.rf
  have hl0 := lv_entry ([.ref (a 0)]) (n := 1) (Nat.le_of_ble_eq_true rfl)
  rw [lg_entry_eq]
  generalize (lg_sl ([.ref (a 0)]) ++ List.replicate (1 - (lg_sl ([.ref (a 0)])).length) Slot.unset).toArray = ls0 at hl0 ⊢
  have hl0 : lv_has ls0 1 [(0, .ref (a 0))] := hl0
  generalize hQ : MQ below _ _ s _ _ _ = Q
  clear hD9 B
  refine lv_aload_n hx hb dX10_control_0 rfl (lv_at hl0 0 rfl) ?_
  refine va_get (D := D) (ci := 10) (v := .ref (a 6)) (C := RX10) (T := TX10) (N := 10) hx hb hts (fun _ h => List.mem_cons_of_mem _ (List.mem_append_left _ (List.mem_append_right _ (h)))) hown hK hP0 0 rfl rfl 5 (by decide) (hts (.fieldLink RX10 47 "Phaselock" "filter" "LPhaselock$LoopFilter;") (List.mem_cons_of_mem _ (List.mem_append_left _ (List.mem_append_left _ (List.mem_of_getElem? (i := 0) rfl))))) (fun _ h9 => h9) rfl dX10_control_1 ?_
  refine va_get (D := D) (ci := 4) (v := .int (S.1 12)) (C := RX4) (T := TX4) (N := 5) hx hb hts (fun _ h => List.mem_cons_of_mem _ (List.mem_append_right _ (h))) hown hK hP0 6 rfl rfl 4 (by decide) (hts (.fieldLink RX10 129 "Phaselock$LoopFilter" "control" "I") (List.mem_cons_of_mem _ (List.mem_append_left _ (List.mem_append_left _ (List.mem_of_getElem? (i := 1) rfl))))) (fun _ h9 => h9) rfl dX10_control_4 ?_
  subst hQ; exact W.iret (v := (S.1 12)) hx hb hr (fun t ht hW => ⟨⟨(S.1 12), S, rfl, ⟨rfl, (show (S.1 12) = r_X10_control S from rfl)⟩, endW hP0 hK hD0 ht hW⟩, hS0.F ht⟩) hS0.2.2 dX10_control_7

def r_X10_received (S : St) : Int32 := (S.1 24)
def rm_X10_received : Room := { frames := 0, cells := 0, slots := 0, locals := 0 }
set_option maxRecDepth 100000 in
set_option maxHeartbeats 4000000 in
theorem k_X10_received (l : Launch) (D : va_G) (a : Nat → Nat) (cZ cI : ClassId) (S : St) (sz : Nat) : Met l yX10_received wsX10_received rm_X10_received (va_Pc [.ref (a 0)] (pW D (tyZI cZ cI) (wP a cZ cI S) sz nP)) (va_Qi (fun (r : Int32) (u : St) => u = S ∧ r = r_X10_received S) (fun u t => oW D (tyZI cZ cI) (wP a cZ cI u) (aA (adP a) sz) t) (aA (adP a) sz)) 0 0 (aA (adP a) sz) := by
  refine Met.ofW (cc := cX10_received) (maxL := 1) (ret := (some .int)) (by decide +kernel) rfl ?_
  intro p e s m args below meth c s₁ B hml hv
  obtain ⟨rfl, hsz, hP0, hK, hD9, hN⟩ := hv
  have hx := B.exec
  have hb := B.bytes
  have hr := B.returns
  have hts := atoms_spec (ws := wsX10_received) B.pre
  have hown : s.vm.findClass RX10 = some m.cls := findClass_of_methodNamed B.named
  have hlocks := B.notSynchronized
  subst hsz
  have hD0 := aA_self (sz := s.heap.size) (as := adP a) hD9 rfl
  generalize hAe : aA (adP a) s.heap.size = A at hD0 ⊢
  have hA : ∀ q : Nat, s.heap.size ≤ q → A q := fun q h => by rw [← hAe]; exact Or.inr h
  have hAc : ∀ q : Nat, q ∈ adP a → A q := fun q h => by rw [← hAe]; exact Or.inl h
  have hS0 : va_S A s.heap s.heap [] := va_S.rf
  have hl0 := lv_entry ([.ref (a 0)]) (n := 1) (Nat.le_of_ble_eq_true rfl)
  rw [lg_entry_eq]
  generalize (lg_sl ([.ref (a 0)]) ++ List.replicate (1 - (lg_sl ([.ref (a 0)])).length) Slot.unset).toArray = ls0 at hl0 ⊢
  have hl0 : lv_has ls0 1 [(0, .ref (a 0))] := hl0
  generalize hQ : MQ below _ _ s _ _ _ = Q
  clear hD9 B
  refine lv_aload_n hx hb dX10_received_0 rfl (lv_at hl0 0 rfl) ?_
  refine va_get (D := D) (ci := 10) (v := .ref (a 7)) (C := RX10) (T := TX10) (N := 10) hx hb hts (fun _ h => List.mem_cons_of_mem _ (List.mem_append_left _ (List.mem_append_right _ (h)))) hown hK hP0 0 rfl rfl 6 (by decide) (hts (.fieldLink RX10 54 "Phaselock" "bits" "LPhaselock$BitLog;") (List.mem_cons_of_mem _ (List.mem_append_left _ (List.mem_append_left _ (List.mem_of_getElem? (i := 0) rfl))))) (fun _ h9 => h9) rfl dX10_received_1 ?_
  refine va_get (D := D) (ci := 1) (v := .int (S.1 24)) (C := RX1) (T := TX1) (N := 2) hx hb hts (fun _ h => List.mem_cons_of_mem _ (List.mem_append_right _ (h))) hown hK hP0 7 rfl rfl 0 (by decide) (hts (.fieldLink RX10 134 "Phaselock$BitLog" "count" "I") (List.mem_cons_of_mem _ (List.mem_append_left _ (List.mem_append_left _ (List.mem_of_getElem? (i := 1) rfl))))) (fun _ h9 => h9) rfl dX10_received_4 ?_
  subst hQ; exact W.iret (v := (S.1 24)) hx hb hr (fun t ht hW => ⟨⟨(S.1 24), S, rfl, ⟨rfl, (show (S.1 24) = r_X10_received S from rfl)⟩, endW hP0 hK hD0 ht hW⟩, hS0.F ht⟩) hS0.2.2 dX10_received_7

def r_X10_repeated (S : St) : Int32 := (S.1 27)
def rm_X10_repeated : Room := { frames := 0, cells := 0, slots := 0, locals := 0 }
set_option maxRecDepth 100000 in
set_option maxHeartbeats 4000000 in
theorem k_X10_repeated (l : Launch) (D : va_G) (a : Nat → Nat) (cZ cI : ClassId) (S : St) (sz : Nat) : Met l yX10_repeated wsX10_repeated rm_X10_repeated (va_Pc [.ref (a 0)] (pW D (tyZI cZ cI) (wP a cZ cI S) sz nP)) (va_Qi (fun (r : Int32) (u : St) => u = S ∧ r = r_X10_repeated S) (fun u t => oW D (tyZI cZ cI) (wP a cZ cI u) (aA (adP a) sz) t) (aA (adP a) sz)) 0 0 (aA (adP a) sz) := by
  refine Met.ofW (cc := cX10_repeated) (maxL := 1) (ret := (some .int)) (by decide +kernel) rfl ?_
  intro p e s m args below meth c s₁ B hml hv
  obtain ⟨rfl, hsz, hP0, hK, hD9, hN⟩ := hv
  have hx := B.exec
  have hb := B.bytes
  have hr := B.returns
  have hts := atoms_spec (ws := wsX10_repeated) B.pre
  have hown : s.vm.findClass RX10 = some m.cls := findClass_of_methodNamed B.named
  have hlocks := B.notSynchronized
  subst hsz
  have hD0 := aA_self (sz := s.heap.size) (as := adP a) hD9 rfl
  generalize hAe : aA (adP a) s.heap.size = A at hD0 ⊢
  have hA : ∀ q : Nat, s.heap.size ≤ q → A q := fun q h => by rw [← hAe]; exact Or.inr h
  have hAc : ∀ q : Nat, q ∈ adP a → A q := fun q h => by rw [← hAe]; exact Or.inl h
  have hS0 : va_S A s.heap s.heap [] := va_S.rf
  have hl0 := lv_entry ([.ref (a 0)]) (n := 1) (Nat.le_of_ble_eq_true rfl)
  rw [lg_entry_eq]
  generalize (lg_sl ([.ref (a 0)]) ++ List.replicate (1 - (lg_sl ([.ref (a 0)])).length) Slot.unset).toArray = ls0 at hl0 ⊢
  have hl0 : lv_has ls0 1 [(0, .ref (a 0))] := hl0
  generalize hQ : MQ below _ _ s _ _ _ = Q
  clear hD9 B
  refine lv_aload_n hx hb dX10_repeated_0 rfl (lv_at hl0 0 rfl) ?_
  refine va_get (D := D) (ci := 10) (v := .ref (a 8)) (C := RX10) (T := TX10) (N := 10) hx hb hts (fun _ h => List.mem_cons_of_mem _ (List.mem_append_left _ (List.mem_append_right _ (h)))) hown hK hP0 0 rfl rfl 7 (by decide) (hts (.fieldLink RX10 61 "Phaselock" "slips" "LPhaselock$SlipCounter;") (List.mem_cons_of_mem _ (List.mem_append_left _ (List.mem_append_left _ (List.mem_of_getElem? (i := 0) rfl))))) (fun _ h9 => h9) rfl dX10_repeated_1 ?_
  refine va_get (D := D) (ci := 8) (v := .int (S.1 27)) (C := RX8) (T := TX8) (N := 4) hx hb hts (fun _ h => List.mem_cons_of_mem _ (List.mem_append_right _ (h))) hown hK hP0 8 rfl rfl 0 (by decide) (hts (.fieldLink RX10 179 "Phaselock$SlipCounter" "repeated" "I") (List.mem_cons_of_mem _ (List.mem_append_left _ (List.mem_append_left _ (List.mem_of_getElem? (i := 1) rfl))))) (fun _ h9 => h9) rfl dX10_repeated_4 ?_
  subst hQ; exact W.iret (v := (S.1 27)) hx hb hr (fun t ht hW => ⟨⟨(S.1 27), S, rfl, ⟨rfl, (show (S.1 27) = r_X10_repeated S from rfl)⟩, endW hP0 hK hD0 ht hW⟩, hS0.F ht⟩) hS0.2.2 dX10_repeated_7

def r_X10_skipped (S : St) : Int32 := (S.1 28)
def rm_X10_skipped : Room := { frames := 0, cells := 0, slots := 0, locals := 0 }
set_option maxRecDepth 100000 in
set_option maxHeartbeats 4000000 in
theorem k_X10_skipped (l : Launch) (D : va_G) (a : Nat → Nat) (cZ cI : ClassId) (S : St) (sz : Nat) : Met l yX10_skipped wsX10_skipped rm_X10_skipped (va_Pc [.ref (a 0)] (pW D (tyZI cZ cI) (wP a cZ cI S) sz nP)) (va_Qi (fun (r : Int32) (u : St) => u = S ∧ r = r_X10_skipped S) (fun u t => oW D (tyZI cZ cI) (wP a cZ cI u) (aA (adP a) sz) t) (aA (adP a) sz)) 0 0 (aA (adP a) sz) := by
  refine Met.ofW (cc := cX10_skipped) (maxL := 1) (ret := (some .int)) (by decide +kernel) rfl ?_
  intro p e s m args below meth c s₁ B hml hv
  obtain ⟨rfl, hsz, hP0, hK, hD9, hN⟩ := hv
  have hx := B.exec
  have hb := B.bytes
  have hr := B.returns
  have hts := atoms_spec (ws := wsX10_skipped) B.pre
  have hown : s.vm.findClass RX10 = some m.cls := findClass_of_methodNamed B.named
  have hlocks := B.notSynchronized
  subst hsz
  have hD0 := aA_self (sz := s.heap.size) (as := adP a) hD9 rfl
  generalize hAe : aA (adP a) s.heap.size = A at hD0 ⊢
  have hA : ∀ q : Nat, s.heap.size ≤ q → A q := fun q h => by rw [← hAe]; exact Or.inr h
  have hAc : ∀ q : Nat, q ∈ adP a → A q := fun q h => by rw [← hAe]; exact Or.inl h
  have hS0 : va_S A s.heap s.heap [] := va_S.rf
  have hl0 := lv_entry ([.ref (a 0)]) (n := 1) (Nat.le_of_ble_eq_true rfl)
  rw [lg_entry_eq]
  generalize (lg_sl ([.ref (a 0)]) ++ List.replicate (1 - (lg_sl ([.ref (a 0)])).length) Slot.unset).toArray = ls0 at hl0 ⊢
  have hl0 : lv_has ls0 1 [(0, .ref (a 0))] := hl0
  generalize hQ : MQ below _ _ s _ _ _ = Q
  clear hD9 B
  refine lv_aload_n hx hb dX10_skipped_0 rfl (lv_at hl0 0 rfl) ?_
  refine va_get (D := D) (ci := 10) (v := .ref (a 8)) (C := RX10) (T := TX10) (N := 10) hx hb hts (fun _ h => List.mem_cons_of_mem _ (List.mem_append_left _ (List.mem_append_right _ (h)))) hown hK hP0 0 rfl rfl 7 (by decide) (hts (.fieldLink RX10 61 "Phaselock" "slips" "LPhaselock$SlipCounter;") (List.mem_cons_of_mem _ (List.mem_append_left _ (List.mem_append_left _ (List.mem_of_getElem? (i := 0) rfl))))) (fun _ h9 => h9) rfl dX10_skipped_1 ?_
  refine va_get (D := D) (ci := 8) (v := .int (S.1 28)) (C := RX8) (T := TX8) (N := 4) hx hb hts (fun _ h => List.mem_cons_of_mem _ (List.mem_append_right _ (h))) hown hK hP0 8 rfl rfl 1 (by decide) (hts (.fieldLink RX10 182 "Phaselock$SlipCounter" "skipped" "I") (List.mem_cons_of_mem _ (List.mem_append_left _ (List.mem_append_left _ (List.mem_of_getElem? (i := 1) rfl))))) (fun _ h9 => h9) rfl dX10_skipped_4 ?_
  subst hQ; exact W.iret (v := (S.1 28)) hx hb hr (fun t ht hW => ⟨⟨(S.1 28), S, rfl, ⟨rfl, (show (S.1 28) = r_X10_skipped S from rfl)⟩, endW hP0 hK hD0 ht hW⟩, hS0.F ht⟩) hS0.2.2 dX10_skipped_7

def v_X10_isLocked_1 (S : St) : Int32 := r_X7_isSteady S
def r_X10_isLocked (S : St) : Int32 := (v_X10_isLocked_1 S)
def rm_X10_isLocked : Room := { frames := 1, cells := 0, slots := 0, locals := 20 }
set_option maxRecDepth 100000 in
set_option maxHeartbeats 4000000 in
theorem k_X10_isLocked (l : Launch) (D : va_G) (a : Nat → Nat) (cZ cI : ClassId) (S : St) (sz : Nat) : Met l yX10_isLocked wsX10_isLocked rm_X10_isLocked (va_Pc [.ref (a 0)] (pW D (tyZI cZ cI) (wP a cZ cI S) sz nP)) (va_Qi (fun (r : Int32) (u : St) => u = S ∧ r = r_X10_isLocked S) (fun u t => oW D (tyZI cZ cI) (wP a cZ cI u) (aA (adP a) sz) t) (aA (adP a) sz)) 0 0 (aA (adP a) sz) := by
  refine Met.ofW (cc := cX10_isLocked) (maxL := 1) (ret := (some .boolean)) (by decide +kernel) rfl ?_
  intro p e s m args below meth c s₁ B hml hv
  obtain ⟨rfl, hsz, hP0, hK, hD9, hN⟩ := hv
  have hx := B.exec
  have hb := B.bytes
  have hr := B.returns
  have hts := atoms_spec (ws := wsX10_isLocked) B.pre
  have hown : s.vm.findClass RX10 = some m.cls := findClass_of_methodNamed B.named
  have hlocks := B.notSynchronized
  subst hsz
  have hD0 := aA_self (sz := s.heap.size) (as := adP a) hD9 rfl
  generalize hAe : aA (adP a) s.heap.size = A at hD0 ⊢
  have hA : ∀ q : Nat, s.heap.size ≤ q → A q := fun q h => by rw [← hAe]; exact Or.inr h
  have hAc : ∀ q : Nat, q ∈ adP a → A q := fun q h => by rw [← hAe]; exact Or.inl h
  have hS0 : va_S A s.heap s.heap [] := va_S.rf
  have hl0 := lv_entry ([.ref (a 0)]) (n := 1) (Nat.le_of_ble_eq_true rfl)
  rw [lg_entry_eq]
  generalize (lg_sl ([.ref (a 0)]) ++ List.replicate (1 - (lg_sl ([.ref (a 0)])).length) Slot.unset).toArray = ls0 at hl0 ⊢
  have hl0 : lv_has ls0 1 [(0, .ref (a 0))] := hl0
  generalize hQ : MQ below _ _ s _ _ _ = Q
  clear hD9 B
  refine lv_aload_n hx hb dX10_isLocked_0 rfl (lv_at hl0 0 rfl) ?_
  refine va_get (D := D) (ci := 10) (v := .ref (a 9)) (C := RX10) (T := TX10) (N := 10) hx hb hts (fun _ h => List.mem_cons_of_mem _ (List.mem_append_left _ (List.mem_append_right _ (h)))) hown hK hP0 0 rfl rfl 8 (by decide) (hts (.fieldLink RX10 68 "Phaselock" "phases" "LPhaselock$PhaseLog;") (List.mem_cons_of_mem _ (List.mem_append_left _ (List.mem_append_left _ (List.mem_of_getElem? (i := 0) rfl))))) (fun _ h9 => h9) rfl dX10_isLocked_1 ?_
  refine va_calli (va_runV (As := []) (rest := []) ⟨hx, hb, hml, hown, hts⟩ (k_X7_isSteady l D a cZ cI S s.heap.size) (cwV 0 hts gX10_isLocked_X7_isSteady rfl rfl rfl (by decide +kernel) ⟨Nat.le_of_ble_eq_true rfl, Nat.le_of_ble_eq_true rfl⟩) ⟨blW okN_P, va_recv hK hP0 (ci := 7) (q0 := 9) rfl rfl, preW hP0 hK hD0 okN_P hN⟩ rfl rfl hl0.1 rfl (lv_room (Nat.le_of_ble_eq_true rfl)) dX10_isLocked_4 ⟨Nat.zero_le _, Nat.zero_le _⟩) hS0 (aA_in hAc) (aA_free hAc hA hS0) (fun r1 u1 t1 H1 L1 ht1 hvm1 hw1 hB1 _ _ hS1 => ?_)
  obtain ⟨hP1, hD1⟩ := backW hB1 ht1 (aA_free hAc hA hS0)
  clear hB1 ht1 hvm1 t1
  obtain ⟨hu1, hr1⟩ := hw1
  subst u1; subst r1
  clear hP0 hD0 hS0
  refine lv_asi (y := (v_X10_isLocked_1 S)) rfl ?_
  subst hQ; exact W.zret (v := (v_X10_isLocked_1 S)) hx hb hr (z_X7_isSteady S) (fun t ht hW => ⟨⟨(v_X10_isLocked_1 S), S, rfl, ⟨rfl, (show (v_X10_isLocked_1 S) = r_X10_isLocked S from rfl)⟩, endW hP1 hK hD1 ht hW⟩, hS1.F ht⟩) hS1.2.2 dX10_isLocked_7
theorem z_X10_isLocked (S : St) : narrow .boolean (.int (r_X10_isLocked S)) = .int (r_X10_isLocked S) := by
  exact z_X7_isSteady S

def v_X10_wander_1 (S : St) : Int32 := r_X7_sumAbsolutes S
def r_X10_wander (S : St) : Int32 := (v_X10_wander_1 S)
def rm_X10_wander : Room := { frames := 2, cells := 0, slots := 0, locals := 43 }
set_option maxRecDepth 100000 in
set_option maxHeartbeats 4000000 in
theorem k_X10_wander (l : Launch) (D : va_G) (a : Nat → Nat) (cZ cI : ClassId) (S : St) (sz : Nat) : Met l yX10_wander wsX10_wander rm_X10_wander (va_Pc [.ref (a 0)] (pW D (tyZI cZ cI) (wP a cZ cI S) sz nP)) (va_Qi (fun (r : Int32) (u : St) => u = S ∧ r = r_X10_wander S) (fun u t => oW D (tyZI cZ cI) (wP a cZ cI u) (aA (adP a) sz) t) (aA (adP a) sz)) 0 0 (aA (adP a) sz) := by
  refine Met.ofW (cc := cX10_wander) (maxL := 1) (ret := (some .int)) (by decide +kernel) rfl ?_
  intro p e s m args below meth c s₁ B hml hv
  obtain ⟨rfl, hsz, hP0, hK, hD9, hN⟩ := hv
  have hx := B.exec
  have hb := B.bytes
  have hr := B.returns
  have hts := atoms_spec (ws := wsX10_wander) B.pre
  have hown : s.vm.findClass RX10 = some m.cls := findClass_of_methodNamed B.named
  have hlocks := B.notSynchronized
  subst hsz
  have hD0 := aA_self (sz := s.heap.size) (as := adP a) hD9 rfl
  generalize hAe : aA (adP a) s.heap.size = A at hD0 ⊢
  have hA : ∀ q : Nat, s.heap.size ≤ q → A q := fun q h => by rw [← hAe]; exact Or.inr h
  have hAc : ∀ q : Nat, q ∈ adP a → A q := fun q h => by rw [← hAe]; exact Or.inl h
  have hS0 : va_S A s.heap s.heap [] := va_S.rf
  have hl0 := lv_entry ([.ref (a 0)]) (n := 1) (Nat.le_of_ble_eq_true rfl)
  rw [lg_entry_eq]
  generalize (lg_sl ([.ref (a 0)]) ++ List.replicate (1 - (lg_sl ([.ref (a 0)])).length) Slot.unset).toArray = ls0 at hl0 ⊢
  have hl0 : lv_has ls0 1 [(0, .ref (a 0))] := hl0
  generalize hQ : MQ below _ _ s _ _ _ = Q
  clear hD9 B
  refine lv_aload_n hx hb dX10_wander_0 rfl (lv_at hl0 0 rfl) ?_
  refine va_get (D := D) (ci := 10) (v := .ref (a 9)) (C := RX10) (T := TX10) (N := 10) hx hb hts (fun _ h => List.mem_cons_of_mem _ (List.mem_append_left _ (List.mem_append_right _ (h)))) hown hK hP0 0 rfl rfl 8 (by decide) (hts (.fieldLink RX10 68 "Phaselock" "phases" "LPhaselock$PhaseLog;") (List.mem_cons_of_mem _ (List.mem_append_left _ (List.mem_append_left _ (List.mem_of_getElem? (i := 0) rfl))))) (fun _ h9 => h9) rfl dX10_wander_1 ?_
  refine va_calli (va_runV (As := []) (rest := []) ⟨hx, hb, hml, hown, hts⟩ (k_X7_sumAbsolutes l D a cZ cI S s.heap.size) (cwV 0 hts gX10_wander_X7_sumAbsolutes rfl rfl rfl (by decide +kernel) ⟨Nat.le_of_ble_eq_true rfl, Nat.le_of_ble_eq_true rfl⟩) ⟨blW okN_P, va_recv hK hP0 (ci := 7) (q0 := 9) rfl rfl, preW hP0 hK hD0 okN_P hN⟩ rfl rfl hl0.1 rfl (lv_room (Nat.le_of_ble_eq_true rfl)) dX10_wander_4 ⟨Nat.zero_le _, Nat.zero_le _⟩) hS0 (aA_in hAc) (aA_free hAc hA hS0) (fun r1 u1 t1 H1 L1 ht1 hvm1 hw1 hB1 _ _ hS1 => ?_)
  obtain ⟨hP1, hD1⟩ := backW hB1 ht1 (aA_free hAc hA hS0)
  clear hB1 ht1 hvm1 t1
  obtain ⟨hu1, hr1⟩ := hw1
  subst u1; subst r1
  clear hP0 hD0 hS0
  refine lv_asi (y := (v_X10_wander_1 S)) rfl ?_
  subst hQ; exact W.iret (v := (v_X10_wander_1 S)) hx hb hr (fun t ht hW => ⟨⟨(v_X10_wander_1 S), S, rfl, ⟨rfl, (show (v_X10_wander_1 S) = r_X10_wander S from rfl)⟩, endW hP1 hK hD1 ht hW⟩, hS1.F ht⟩) hS1.2.2 dX10_wander_7

def r_X10_alignment (S : St) : Int32 := (S.1 31)
def rm_X10_alignment : Room := { frames := 0, cells := 0, slots := 0, locals := 0 }
set_option maxRecDepth 100000 in
set_option maxHeartbeats 4000000 in
theorem k_X10_alignment (l : Launch) (D : va_G) (a : Nat → Nat) (cZ cI : ClassId) (S : St) (sz : Nat) : Met l yX10_alignment wsX10_alignment rm_X10_alignment (va_Pc [.ref (a 0)] (pW D (tyZI cZ cI) (wP a cZ cI S) sz nP)) (va_Qi (fun (r : Int32) (u : St) => u = S ∧ r = r_X10_alignment S) (fun u t => oW D (tyZI cZ cI) (wP a cZ cI u) (aA (adP a) sz) t) (aA (adP a) sz)) 0 0 (aA (adP a) sz) := by
  refine Met.ofW (cc := cX10_alignment) (maxL := 1) (ret := (some .int)) (by decide +kernel) rfl ?_
  intro p e s m args below meth c s₁ B hml hv
  obtain ⟨rfl, hsz, hP0, hK, hD9, hN⟩ := hv
  have hx := B.exec
  have hb := B.bytes
  have hr := B.returns
  have hts := atoms_spec (ws := wsX10_alignment) B.pre
  have hown : s.vm.findClass RX10 = some m.cls := findClass_of_methodNamed B.named
  have hlocks := B.notSynchronized
  subst hsz
  have hD0 := aA_self (sz := s.heap.size) (as := adP a) hD9 rfl
  generalize hAe : aA (adP a) s.heap.size = A at hD0 ⊢
  have hA : ∀ q : Nat, s.heap.size ≤ q → A q := fun q h => by rw [← hAe]; exact Or.inr h
  have hAc : ∀ q : Nat, q ∈ adP a → A q := fun q h => by rw [← hAe]; exact Or.inl h
  have hS0 : va_S A s.heap s.heap [] := va_S.rf
  have hl0 := lv_entry ([.ref (a 0)]) (n := 1) (Nat.le_of_ble_eq_true rfl)
  rw [lg_entry_eq]
  generalize (lg_sl ([.ref (a 0)]) ++ List.replicate (1 - (lg_sl ([.ref (a 0)])).length) Slot.unset).toArray = ls0 at hl0 ⊢
  have hl0 : lv_has ls0 1 [(0, .ref (a 0))] := hl0
  generalize hQ : MQ below _ _ s _ _ _ = Q
  clear hD9 B
  refine lv_aload_n hx hb dX10_alignment_0 rfl (lv_at hl0 0 rfl) ?_
  refine va_get (D := D) (ci := 10) (v := .ref (a 10)) (C := RX10) (T := TX10) (N := 10) hx hb hts (fun _ h => List.mem_cons_of_mem _ (List.mem_append_left _ (List.mem_append_right _ (h)))) hown hK hP0 0 rfl rfl 9 (by decide) (hts (.fieldLink RX10 75 "Phaselock" "aligner" "LPhaselock$Aligner;") (List.mem_cons_of_mem _ (List.mem_append_left _ (List.mem_append_left _ (List.mem_of_getElem? (i := 0) rfl))))) (fun _ h9 => h9) rfl dX10_alignment_1 ?_
  refine va_get (D := D) (ci := 0) (v := .int (S.1 31)) (C := RX0) (T := TX0) (N := 6) hx hb hts (fun _ h => List.mem_cons_of_mem _ (List.mem_append_right _ (h))) hown hK hP0 10 rfl rfl 0 (by decide) (hts (.fieldLink RX10 192 "Phaselock$Aligner" "state" "I") (List.mem_cons_of_mem _ (List.mem_append_left _ (List.mem_append_left _ (List.mem_of_getElem? (i := 1) rfl))))) (fun _ h9 => h9) rfl dX10_alignment_4 ?_
  subst hQ; exact W.iret (v := (S.1 31)) hx hb hr (fun t ht hW => ⟨⟨(S.1 31), S, rfl, ⟨rfl, (show (S.1 31) = r_X10_alignment S from rfl)⟩, endW hP0 hK hD0 ht hW⟩, hS0.F ht⟩) hS0.2.2 dX10_alignment_7

def r_X10_frames (S : St) : Int32 := (S.1 35)
def rm_X10_frames : Room := { frames := 0, cells := 0, slots := 0, locals := 0 }
set_option maxRecDepth 100000 in
set_option maxHeartbeats 4000000 in
theorem k_X10_frames (l : Launch) (D : va_G) (a : Nat → Nat) (cZ cI : ClassId) (S : St) (sz : Nat) : Met l yX10_frames wsX10_frames rm_X10_frames (va_Pc [.ref (a 0)] (pW D (tyZI cZ cI) (wP a cZ cI S) sz nP)) (va_Qi (fun (r : Int32) (u : St) => u = S ∧ r = r_X10_frames S) (fun u t => oW D (tyZI cZ cI) (wP a cZ cI u) (aA (adP a) sz) t) (aA (adP a) sz)) 0 0 (aA (adP a) sz) := by
  refine Met.ofW (cc := cX10_frames) (maxL := 1) (ret := (some .int)) (by decide +kernel) rfl ?_
  intro p e s m args below meth c s₁ B hml hv
  obtain ⟨rfl, hsz, hP0, hK, hD9, hN⟩ := hv
  have hx := B.exec
  have hb := B.bytes
  have hr := B.returns
  have hts := atoms_spec (ws := wsX10_frames) B.pre
  have hown : s.vm.findClass RX10 = some m.cls := findClass_of_methodNamed B.named
  have hlocks := B.notSynchronized
  subst hsz
  have hD0 := aA_self (sz := s.heap.size) (as := adP a) hD9 rfl
  generalize hAe : aA (adP a) s.heap.size = A at hD0 ⊢
  have hA : ∀ q : Nat, s.heap.size ≤ q → A q := fun q h => by rw [← hAe]; exact Or.inr h
  have hAc : ∀ q : Nat, q ∈ adP a → A q := fun q h => by rw [← hAe]; exact Or.inl h
  have hS0 : va_S A s.heap s.heap [] := va_S.rf
  have hl0 := lv_entry ([.ref (a 0)]) (n := 1) (Nat.le_of_ble_eq_true rfl)
  rw [lg_entry_eq]
  generalize (lg_sl ([.ref (a 0)]) ++ List.replicate (1 - (lg_sl ([.ref (a 0)])).length) Slot.unset).toArray = ls0 at hl0 ⊢
  have hl0 : lv_has ls0 1 [(0, .ref (a 0))] := hl0
  generalize hQ : MQ below _ _ s _ _ _ = Q
  clear hD9 B
  refine lv_aload_n hx hb dX10_frames_0 rfl (lv_at hl0 0 rfl) ?_
  refine va_get (D := D) (ci := 10) (v := .ref (a 10)) (C := RX10) (T := TX10) (N := 10) hx hb hts (fun _ h => List.mem_cons_of_mem _ (List.mem_append_left _ (List.mem_append_right _ (h)))) hown hK hP0 0 rfl rfl 9 (by decide) (hts (.fieldLink RX10 75 "Phaselock" "aligner" "LPhaselock$Aligner;") (List.mem_cons_of_mem _ (List.mem_append_left _ (List.mem_append_left _ (List.mem_of_getElem? (i := 0) rfl))))) (fun _ h9 => h9) rfl dX10_frames_1 ?_
  refine va_get (D := D) (ci := 0) (v := .int (S.1 35)) (C := RX0) (T := TX0) (N := 6) hx hb hts (fun _ h => List.mem_cons_of_mem _ (List.mem_append_right _ (h))) hown hK hP0 10 rfl rfl 1 (by decide) (hts (.fieldLink RX10 195 "Phaselock$Aligner" "frames" "I") (List.mem_cons_of_mem _ (List.mem_append_left _ (List.mem_append_left _ (List.mem_of_getElem? (i := 1) rfl))))) (fun _ h9 => h9) rfl dX10_frames_4 ?_
  subst hQ; exact W.iret (v := (S.1 35)) hx hb hr (fun t ht hW => ⟨⟨(S.1 35), S, rfl, ⟨rfl, (show (S.1 35) = r_X10_frames S from rfl)⟩, endW hP0 hK hD0 ht hW⟩, hS0.F ht⟩) hS0.2.2 dX10_frames_7

def r_X10_losses (S : St) : Int32 := (S.1 36)
def rm_X10_losses : Room := { frames := 0, cells := 0, slots := 0, locals := 0 }
set_option maxRecDepth 100000 in
set_option maxHeartbeats 4000000 in
theorem k_X10_losses (l : Launch) (D : va_G) (a : Nat → Nat) (cZ cI : ClassId) (S : St) (sz : Nat) : Met l yX10_losses wsX10_losses rm_X10_losses (va_Pc [.ref (a 0)] (pW D (tyZI cZ cI) (wP a cZ cI S) sz nP)) (va_Qi (fun (r : Int32) (u : St) => u = S ∧ r = r_X10_losses S) (fun u t => oW D (tyZI cZ cI) (wP a cZ cI u) (aA (adP a) sz) t) (aA (adP a) sz)) 0 0 (aA (adP a) sz) := by
  refine Met.ofW (cc := cX10_losses) (maxL := 1) (ret := (some .int)) (by decide +kernel) rfl ?_
  intro p e s m args below meth c s₁ B hml hv
  obtain ⟨rfl, hsz, hP0, hK, hD9, hN⟩ := hv
  have hx := B.exec
  have hb := B.bytes
  have hr := B.returns
  have hts := atoms_spec (ws := wsX10_losses) B.pre
  have hown : s.vm.findClass RX10 = some m.cls := findClass_of_methodNamed B.named
  have hlocks := B.notSynchronized
  subst hsz
  have hD0 := aA_self (sz := s.heap.size) (as := adP a) hD9 rfl
  generalize hAe : aA (adP a) s.heap.size = A at hD0 ⊢
  have hA : ∀ q : Nat, s.heap.size ≤ q → A q := fun q h => by rw [← hAe]; exact Or.inr h
  have hAc : ∀ q : Nat, q ∈ adP a → A q := fun q h => by rw [← hAe]; exact Or.inl h
  have hS0 : va_S A s.heap s.heap [] := va_S.rf
  have hl0 := lv_entry ([.ref (a 0)]) (n := 1) (Nat.le_of_ble_eq_true rfl)
  rw [lg_entry_eq]
  generalize (lg_sl ([.ref (a 0)]) ++ List.replicate (1 - (lg_sl ([.ref (a 0)])).length) Slot.unset).toArray = ls0 at hl0 ⊢
  have hl0 : lv_has ls0 1 [(0, .ref (a 0))] := hl0
  generalize hQ : MQ below _ _ s _ _ _ = Q
  clear hD9 B
  refine lv_aload_n hx hb dX10_losses_0 rfl (lv_at hl0 0 rfl) ?_
  refine va_get (D := D) (ci := 10) (v := .ref (a 10)) (C := RX10) (T := TX10) (N := 10) hx hb hts (fun _ h => List.mem_cons_of_mem _ (List.mem_append_left _ (List.mem_append_right _ (h)))) hown hK hP0 0 rfl rfl 9 (by decide) (hts (.fieldLink RX10 75 "Phaselock" "aligner" "LPhaselock$Aligner;") (List.mem_cons_of_mem _ (List.mem_append_left _ (List.mem_append_left _ (List.mem_of_getElem? (i := 0) rfl))))) (fun _ h9 => h9) rfl dX10_losses_1 ?_
  refine va_get (D := D) (ci := 0) (v := .int (S.1 36)) (C := RX0) (T := TX0) (N := 6) hx hb hts (fun _ h => List.mem_cons_of_mem _ (List.mem_append_right _ (h))) hown hK hP0 10 rfl rfl 2 (by decide) (hts (.fieldLink RX10 198 "Phaselock$Aligner" "losses" "I") (List.mem_cons_of_mem _ (List.mem_append_left _ (List.mem_append_left _ (List.mem_of_getElem? (i := 1) rfl))))) (fun _ h9 => h9) rfl dX10_losses_4 ?_
  subst hQ; exact W.iret (v := (S.1 36)) hx hb hr (fun t ht hW => ⟨⟨(S.1 36), S, rfl, ⟨rfl, (show (S.1 36) = r_X10_losses S from rfl)⟩, endW hP0 hK hD0 ht hW⟩, hS0.F ht⟩) hS0.2.2 dX10_losses_7

def s_X10_release_1 (S : St) : St := si S 13 0
def s_X10_release_2 (S : St) : St := si (s_X10_release_1 S) 12 0
def s_X10_release (S : St) : St := (s_X10_release_2 S)
def rm_X10_release : Room := { frames := 0, cells := 0, slots := 0, locals := 0 }
set_option maxRecDepth 100000 in
set_option maxHeartbeats 4000000 in
theorem k_X10_release (l : Launch) (D : va_G) (a : Nat → Nat) (cZ cI : ClassId) (S : St) (sz : Nat) : Met l yX10_release wsX10_release rm_X10_release (va_Pc [.ref (a 0)] (pW D (tyZI cZ cI) (wP a cZ cI S) sz nP)) (va_Qv (fun u : St => u = s_X10_release S) (fun u t => oW D (tyZI cZ cI) (wP a cZ cI u) (aA (adP a) sz) t) (aA (adP a) sz)) 0 0 (aA (adP a) sz) := by
  refine Met.ofW (cc := cX10_release) (maxL := 1) (ret := none) (by decide +kernel) rfl ?_
  intro p e s m args below meth c s₁ B hml hv
  obtain ⟨rfl, hsz, hP0, hK, hD9, hN⟩ := hv
  have hx := B.exec
  have hb := B.bytes
  have hr := B.returns
  have hts := atoms_spec (ws := wsX10_release) B.pre
  have hown : s.vm.findClass RX10 = some m.cls := findClass_of_methodNamed B.named
  have hlocks := B.notSynchronized
  subst hsz
  have hD0 := aA_self (sz := s.heap.size) (as := adP a) hD9 rfl
  generalize hAe : aA (adP a) s.heap.size = A at hD0 ⊢
  have hA : ∀ q : Nat, s.heap.size ≤ q → A q := fun q h => by rw [← hAe]; exact Or.inr h
  have hAc : ∀ q : Nat, q ∈ adP a → A q := fun q h => by rw [← hAe]; exact Or.inl h
  have hS0 : va_S A s.heap s.heap [] := va_S.rf
  have hl0 := lv_entry ([.ref (a 0)]) (n := 1) (Nat.le_of_ble_eq_true rfl)
  rw [lg_entry_eq]
  generalize (lg_sl ([.ref (a 0)]) ++ List.replicate (1 - (lg_sl ([.ref (a 0)])).length) Slot.unset).toArray = ls0 at hl0 ⊢
  have hl0 : lv_has ls0 1 [(0, .ref (a 0))] := hl0
  generalize hQ : MQ below _ _ s _ _ _ = Q
  clear hD9 B
  refine lv_aload_n hx hb dX10_release_0 rfl (lv_at hl0 0 rfl) ?_
  refine va_get (D := D) (ci := 10) (v := .ref (a 6)) (C := RX10) (T := TX10) (N := 10) hx hb hts (fun _ h => List.mem_cons_of_mem _ (List.mem_append_left _ (List.mem_append_right _ (h)))) hown hK hP0 0 rfl rfl 5 (by decide) (hts (.fieldLink RX10 47 "Phaselock" "filter" "LPhaselock$LoopFilter;") (List.mem_cons_of_mem _ (List.mem_append_left _ (List.mem_append_left _ (List.mem_of_getElem? (i := 0) rfl))))) (fun _ h9 => h9) rfl dX10_release_1 ?_
  refine lv_iconst (v := 0) hx hb dX10_release_4 (by decide) ?_
  refine va_put (D := D) (ci := 4) (v := .int 0) (ty := .int) (C := RX4) (T := TX4) (N := 5) hx hb hts (fun _ h => List.mem_cons_of_mem _ (List.mem_append_right _ (h))) tyX4 tyX4_ok nmX4 hown hK hP0 hD0 hS0 6 rfl rfl 3 (by decide) (hts (.fieldLink RX10 126 "Phaselock$LoopFilter" "integral" "I") (List.mem_cons_of_mem _ (List.mem_append_left _ (List.mem_append_left _ (List.mem_of_getElem? (i := 1) rfl))))) (fun _ h9 => h9) rfl (by decide +kernel) rfl rfl (Nat.le_of_ble_eq_true rfl) dX10_release_5 (fun H1 L1 hP1 hD1 hS1 => ?_)
  replace hP1 : va_P D vwCl (wP a cZ cI (s_X10_release_1 S)) H1 := cvP (wP_s13 a cZ cI S 0) hP1
  replace hD1 : va_D A (wP a cZ cI (s_X10_release_1 S)) := cvD (wP_s13 a cZ cI S 0) hD1
  clear hP0 hD0 hS0
  refine lv_aload_n hx hb dX10_release_8 rfl (lv_at hl0 0 rfl) ?_
  refine va_get (D := D) (ci := 10) (v := .ref (a 6)) (C := RX10) (T := TX10) (N := 10) hx hb hts (fun _ h => List.mem_cons_of_mem _ (List.mem_append_left _ (List.mem_append_right _ (h)))) hown hK hP1 0 rfl rfl 5 (by decide) (hts (.fieldLink RX10 47 "Phaselock" "filter" "LPhaselock$LoopFilter;") (List.mem_cons_of_mem _ (List.mem_append_left _ (List.mem_append_left _ (List.mem_of_getElem? (i := 0) rfl))))) (fun _ h9 => h9) rfl dX10_release_9 ?_
  refine lv_iconst (v := 0) hx hb dX10_release_12 (by decide) ?_
  refine va_put (D := D) (ci := 4) (v := .int 0) (ty := .int) (C := RX4) (T := TX4) (N := 5) hx hb hts (fun _ h => List.mem_cons_of_mem _ (List.mem_append_right _ (h))) tyX4 tyX4_ok nmX4 hown hK hP1 hD1 hS1 6 rfl rfl 4 (by decide) (hts (.fieldLink RX10 129 "Phaselock$LoopFilter" "control" "I") (List.mem_cons_of_mem _ (List.mem_append_left _ (List.mem_append_left _ (List.mem_of_getElem? (i := 2) rfl))))) (fun _ h9 => h9) rfl (by decide +kernel) rfl rfl (Nat.le_of_ble_eq_true rfl) dX10_release_13 (fun H2 L2 hP2 hD2 hS2 => ?_)
  replace hP2 : va_P D vwCl (wP a cZ cI (s_X10_release_2 S)) H2 := cvP (wP_s12 a cZ cI (s_X10_release_1 S) 0) hP2
  replace hD2 : va_D A (wP a cZ cI (s_X10_release_2 S)) := cvD (wP_s12 a cZ cI (s_X10_release_1 S) 0) hD2
  clear hP1 hD1 hS1
  subst hQ; exact W.vret hx hb hr (fun t ht hW => ⟨⟨(s_X10_release_2 S), rfl, (show (s_X10_release_2 S) = s_X10_release S from rfl), endW hP2 hK hD2 ht hW⟩, hS2.F ht⟩) hS2.2.2 dX10_release_16
end
section
/-- what a throw needs of the tables besides: the casts of the three exceptions, the texts -/
def nY (U : State) : Prop := nP U ∧ va_Nw (.castable "java/lang/IllegalArgumentException" "java/lang/IllegalArgumentException") U ∧ va_Nw (.castable "java/lang/IndexOutOfBoundsException" "java/lang/IndexOutOfBoundsException") U ∧ va_Nw (.castable "java/lang/IllegalStateException" "java/lang/IllegalStateException") U ∧ va_Nw (.declares ⟨"java/lang/RuntimeException", "<init>", "(Ljava/lang/String;)V"⟩) U ∧ va_Nw (.declares ⟨"java/lang/Exception", "<init>", "(Ljava/lang/String;)V"⟩) U ∧ va_Nw (.declares ⟨"java/lang/Throwable", "<init>", "(Ljava/lang/String;)V"⟩) U ∧ (∃ sa, vk_R RX10 85 "offset is out of range" sa U) ∧ (∃ sa, vk_R RX10 94 "jitter is out of range" sa U) ∧ (∃ sa, vk_R RX10 96 "seed is out of range" sa U) ∧ (∃ sa, vk_R RX10 105 "detector is out of range" sa U) ∧ (∃ sa, vk_R RX10 110 "p is out of range" sa U) ∧ (∃ sa, vk_R RX10 112 "i is out of range" sa U) ∧ (∃ sa, vk_R RX10 121 "phase is out of range" sa U) ∧ (∃ sa, vk_R RX10 132 "ticks is out of range" sa U) ∧ (∃ sa, vk_R RX10 163 "there is no such bit" sa U) ∧ (∃ sa, vk_R RX10 173 "there was no data strobe" sa U) ∧ (∃ sa, vk_R RX10 204 "remainder is out of range" sa U)
theorem sy_85 {U : State} (h : nY U) : ∃ sa, vk_R RX10 85 "offset is out of range" sa U := h.2.2.2.2.2.2.2.1
theorem sy_94 {U : State} (h : nY U) : ∃ sa, vk_R RX10 94 "jitter is out of range" sa U := h.2.2.2.2.2.2.2.2.1
theorem sy_96 {U : State} (h : nY U) : ∃ sa, vk_R RX10 96 "seed is out of range" sa U := h.2.2.2.2.2.2.2.2.2.1
theorem sy_105 {U : State} (h : nY U) : ∃ sa, vk_R RX10 105 "detector is out of range" sa U := h.2.2.2.2.2.2.2.2.2.2.1
theorem sy_110 {U : State} (h : nY U) : ∃ sa, vk_R RX10 110 "p is out of range" sa U := h.2.2.2.2.2.2.2.2.2.2.2.1
theorem sy_112 {U : State} (h : nY U) : ∃ sa, vk_R RX10 112 "i is out of range" sa U := h.2.2.2.2.2.2.2.2.2.2.2.2.1
theorem sy_121 {U : State} (h : nY U) : ∃ sa, vk_R RX10 121 "phase is out of range" sa U := h.2.2.2.2.2.2.2.2.2.2.2.2.2.1
theorem sy_132 {U : State} (h : nY U) : ∃ sa, vk_R RX10 132 "ticks is out of range" sa U := h.2.2.2.2.2.2.2.2.2.2.2.2.2.2.1
theorem sy_163 {U : State} (h : nY U) : ∃ sa, vk_R RX10 163 "there is no such bit" sa U := h.2.2.2.2.2.2.2.2.2.2.2.2.2.2.2.1
theorem sy_173 {U : State} (h : nY U) : ∃ sa, vk_R RX10 173 "there was no data strobe" sa U := h.2.2.2.2.2.2.2.2.2.2.2.2.2.2.2.2.1
theorem sy_204 {U : State} (h : nY U) : ∃ sa, vk_R RX10 204 "remainder is out of range" sa U := h.2.2.2.2.2.2.2.2.2.2.2.2.2.2.2.2.2
theorem ey_same {own tx : String} {k : Nat} {u U : State} (hv : u.vm = U.vm) (h : ∃ sa, vk_R own k tx sa u) : ∃ sa, vk_R own k tx sa U := h.elim fun sa q => ⟨sa, vk_R.same hv.symm q⟩
theorem ey_warm {own tx : String} {k : Nat} {s U : State} (hW : s.WarmedH U.vm) (h : ∃ sa, vk_R own k tx sa s) : ∃ sa, vk_R own k tx sa U := h.elim fun sa q => ⟨sa, vk_R.warm hW q⟩
theorem okN_Y : okN nY := by
  refine ⟨fun u U h q => ?_, fun s U hW q => ?_⟩
  · obtain ⟨a0, a1, a2, a3, d0, d1, d2, b0, b1, b2, b3, b4, b5, b6, b7, b8, b9, b10⟩ := q
    exact ⟨okN_P.1 u U h a0, va_Nw.same rfl h a1, va_Nw.same rfl h a2, va_Nw.same rfl h a3, va_Nw.same rfl h d0, va_Nw.same rfl h d1, va_Nw.same rfl h d2, ey_same h b0, ey_same h b1, ey_same h b2, ey_same h b3, ey_same h b4, ey_same h b5, ey_same h b6, ey_same h b7, ey_same h b8, ey_same h b9, ey_same h b10⟩
  · obtain ⟨a0, a1, a2, a3, d0, d1, d2, b0, b1, b2, b3, b4, b5, b6, b7, b8, b9, b10⟩ := q
    exact ⟨okN_P.2 s U hW a0, va_Nw.warmC hW a1, va_Nw.warmC hW a2, va_Nw.warmC hW a3, va_Nw.warmD hW d0, va_Nw.warmD hW d1, va_Nw.warmD hW d2, ey_warm hW b0, ey_warm hW b1, ey_warm hW b2, ey_warm hW b3, ey_warm hW b4, ey_warm hW b5, ey_warm hW b6, ey_warm hW b7, ey_warm hW b8, ey_warm hW b9, ey_warm hW b10⟩
def pY (D : va_G) (T : List (ClassId × FieldType)) (ws : va_W) (sz : Nat) (as : List Nat) (U : State) : Prop := pW D T ws sz nY U ∧ xZ (aA as sz) U U.heap
theorem blY {av : List Value} {D : va_G} {T : List (ClassId × FieldType)} {ws : va_W} {sz : Nat} {as : List Nat} : FrameBlind (va_Pc av (pY D T ws sz as)) := fun a U g mk q => by
  obtain ⟨q0, qW, qZ⟩ := q
  exact ⟨q0, (blW (av := av) okN_Y a U g mk ⟨q0, qW⟩).2, xZ.moved (u := U) (U := U.calling g mk a) (Vm.Alike.refl U.vm) qZ⟩
theorem preY {av : List Value} {D : va_G} {T : List (ClassId × FieldType)} {ws : va_W} {as : List Nat} {A : Nat → Prop} {H : Heap} {s : State} {locs : List Loc} (hP : va_P D vwCl ws H) (hK : va_K D vwCl T s) (hD : va_D A ws) (n : nY s) (hZ : xZ A s s.heap) (hS : va_S A s.heap H locs) (hf : ∀ q : Nat, aA as H.size q → A q) : ∀ U : State, U.heap = H → s.WarmedH U.vm → va_Pc av (pY D T ws H.size as) av.toArray U := fun U hU hW => ⟨rfl, (preW (av := av) hP hK hD okN_Y n U hU hW).2, by
  rw [hU]
  exact ((hZ.kept (fun a h1 h2 => hS.2.1 a h1 h2)).moved hW.alike).narrow hf⟩
end
section
theorem bp_e {i : Nat} (hi : i ≤ 15) (c : 16 ≤ nI (i + 1)) : i = 15 := by
  have := (nI_leI (a := 16) (b := i + 1) (by omega) (by omega)).mp c
  omega
theorem bp_s {i : Nat} (hi : i ≤ 15) (c : ¬ 16 ≤ nI (i + 1)) : i < 15 := by
  apply Nat.lt_of_not_le
  intro q
  exact c ((nI_leI (a := 16) (b := i + 1) (by omega) (by omega)).mpr (by omega))
def v_X10_bestPhase_1 (S : St) : Int32 := r_X2_sumCosts S 0
def lcst (S : St) : Nat → Int32
  | 0 => r_X2_sumCosts S 0
  | i + 1 => if lcst S i ≤ r_X2_sumCosts S (nI (i + 1)) then lcst S i else r_X2_sumCosts S (nI (i + 1))
def bst (S : St) : Nat → Int32
  | 0 => 0
  | i + 1 => if lcst S i ≤ r_X2_sumCosts S (nI (i + 1)) then bst S i else nI (i + 1)
def v_X10_bestPhase_3 (S : St) (i : Nat) : Int32 := r_X2_sumCosts S (nI (i + 1))
def v_X10_bestPhase_4 (S : St) (i : Nat) : Int32 := if (lcst S i) ≤ (v_X10_bestPhase_3 S i) then (lcst S i) else (v_X10_bestPhase_3 S i)
def v_X10_bestPhase_5 (S : St) (i : Nat) : Int32 := if (lcst S i) ≤ (v_X10_bestPhase_3 S i) then (bst S i) else (nI (i + 1))
def v_X10_bestPhase_6 (S : St) (i : Nat) : Int32 := (nI (i + 1)) + 1
def r_X10_bestPhase (S : St) : Int32 := (bst S 15)
def rm_X10_bestPhase : Room := { frames := 3, cells := 0, slots := 0, locals := 67 }
set_option maxRecDepth 100000 in
set_option maxHeartbeats 4000000 in
theorem k_X10_bestPhase (l : Launch) (D : va_G) (a : Nat → Nat) (cZ cI : ClassId) (S : St) (sz : Nat) : Met l yX10_bestPhase wsX10_bestPhase rm_X10_bestPhase (va_Pc [.ref (a 0)] (pW D (tyZI cZ cI) (wP a cZ cI S) sz nP)) (va_Qi (fun (r : Int32) (u : St) => u = S ∧ r = r_X10_bestPhase S) (fun u t => oW D (tyZI cZ cI) (wP a cZ cI u) (aA (adP a) sz) t) (aA (adP a) sz)) 0 0 (aA (adP a) sz) := by
  refine Met.ofW (cc := cX10_bestPhase) (maxL := 5) (ret := (some .int)) (by decide +kernel) rfl ?_
  intro p e s m args below meth c s₁ B hml hv
  obtain ⟨rfl, hsz, hP0, hK, hD9, hN⟩ := hv
  have hx := B.exec
  have hb := B.bytes
  have hr := B.returns
  have hts := atoms_spec (ws := wsX10_bestPhase) B.pre
  have hown : s.vm.findClass RX10 = some m.cls := findClass_of_methodNamed B.named
  have hlocks := B.notSynchronized
  subst hsz
  have hD0 := aA_self (sz := s.heap.size) (as := adP a) hD9 rfl
  generalize hAe : aA (adP a) s.heap.size = A at hD0 ⊢
  have hA : ∀ q : Nat, s.heap.size ≤ q → A q := fun q h => by rw [← hAe]; exact Or.inr h
  have hAc : ∀ q : Nat, q ∈ adP a → A q := fun q h => by rw [← hAe]; exact Or.inl h
  have hS0 : va_S A s.heap s.heap [] := va_S.rf
  have hl0 := lv_entry ([.ref (a 0)]) (n := 5) (Nat.le_of_ble_eq_true rfl)
  rw [lg_entry_eq]
  generalize (lg_sl ([.ref (a 0)]) ++ List.replicate (5 - (lg_sl ([.ref (a 0)])).length) Slot.unset).toArray = ls0 at hl0 ⊢
  have hl0 : lv_has ls0 5 [(0, .ref (a 0))] := hl0
  generalize hQ : MQ below _ _ s _ _ _ = Q
  clear hD9 B
  refine lv_iconst (v := 0) hx hb dX10_bestPhase_0 (by decide) ?_
  refine lv_istore_n (lv' := [(1, .int 0), (0, .ref (a 0))]) hx hb dX10_bestPhase_1 rfl hl0 (by decide) rfl (fun ls1 hl1 => ?_)
  clear hl0
  refine lv_aload_n hx hb dX10_bestPhase_2 rfl (lv_at hl1 1 rfl) ?_
  refine va_get (D := D) (ci := 10) (v := .ref (a 3)) (C := RX10) (T := TX10) (N := 10) hx hb hts (fun _ h => List.mem_cons_of_mem _ (List.mem_append_left _ (List.mem_append_right _ (h)))) hown hK hP0 0 rfl rfl 2 (by decide) (hts (.fieldLink RX10 26 "Phaselock" "edges" "LPhaselock$EdgeLog;") (List.mem_cons_of_mem _ (List.mem_append_left _ (List.mem_append_left _ (List.mem_of_getElem? (i := 0) rfl))))) (fun _ h9 => h9) rfl dX10_bestPhase_3 ?_
  refine lv_iconst (v := 0) hx hb dX10_bestPhase_6 (by decide) ?_
  refine va_calli (va_runV (As := [.int 0]) (rest := []) ⟨hx, hb, hml, hown, hts⟩ (k_X2_sumCosts l D a cZ cI S s.heap.size 0) (cwV 1 hts gX10_bestPhase_X2_sumCosts rfl rfl rfl (by decide +kernel) ⟨Nat.le_of_ble_eq_true rfl, Nat.le_of_ble_eq_true rfl⟩) ⟨blW okN_P, va_recv hK hP0 (ci := 2) (q0 := 3) rfl rfl, preW hP0 hK hD0 okN_P hN⟩ rfl rfl hl1.1 rfl (lv_room (Nat.le_of_ble_eq_true rfl)) dX10_bestPhase_7 ⟨Nat.zero_le _, Nat.zero_le _⟩) hS0 (aA_in hAc) (aA_free hAc hA hS0) (fun r1 u1 t1 H1 L1 ht1 hvm1 hw1 hB1 _ _ hS1 => ?_)
  obtain ⟨hP1, hD1⟩ := backW hB1 ht1 (aA_free hAc hA hS0)
  clear hB1 ht1 hvm1 t1
  obtain ⟨hu1, hr1⟩ := hw1
  subst u1; subst r1
  clear hP0 hD0 hS0
  refine lv_asi (y := (v_X10_bestPhase_1 S)) rfl ?_
  refine lv_istore_n (lv' := [(2, .int (v_X10_bestPhase_1 S)), (1, .int 0), (0, .ref (a 0))]) hx hb dX10_bestPhase_10 rfl hl1 (by decide) rfl (fun ls2 hl2 => ?_)
  clear hl1
  refine lv_iconst (v := 1) hx hb dX10_bestPhase_11 (by decide) ?_
  refine lv_istore_n (lv' := [(3, .int 1), (2, .int (v_X10_bestPhase_1 S)), (1, .int 0), (0, .ref (a 0))]) hx hb dX10_bestPhase_12 rfl hl2 (by decide) rfl (fun ls3 hl3 => ?_)
  clear hl2
  have LOOP : ∀ (fu i : Nat), i ≤ 15 → 15 < i + fu → ∀ (H2 : Heap) (L2 : List Loc), va_P D vwCl (wP a cZ cI S) H2 → va_D A (wP a cZ cI S) → va_S A s.heap H2 L2 → ∀ ls4 : Array Slot, lv_has ls4 5 [(3, .int (nI (i + 1))), (2, .int (lcst S i)), (1, .int (bst S i)), (0, .ref (a 0))] → W p l e (headSpec wsX10_bestPhase rm_X10_bestPhase).room s m ([.ref (a 0)] : List Value).toArray below meth c H2 L2 0 0 Q (F0 m 13 ls4 []) := by
    clear hP1 hD1 hS1 hl3
    intro fu
    induction fu with
    | zero => exact fun i h1 h2 => absurd h2 (by omega)
    | succ fu ih =>
      intro i hi hin H2 L2 hP2 hD2 hS2 ls4 hl4
      refine lv_iload_n hx hb dX10_bestPhase_13 rfl (lv_at hl4 0 rfl) ?_
      refine lv_bipush (v := 16) hx hb dX10_bestPhase_14 (by decide) ?_
      refine lv_icmp_ge (tgt := 46) hx hb dX10_bestPhase_16 (by decide) (fun c1_16 => ?_) (fun c1_16 => ?_)
      · have hie : i = 15 := bp_e hi c1_16
        subst hie
        refine lv_iload_n hx hb dX10_bestPhase_46 rfl (lv_at hl4 2 rfl) ?_
        subst hQ; exact W.iret (v := (bst S 15)) hx hb hr (fun t ht hW => ⟨⟨(bst S 15), S, rfl, ⟨rfl, (show (bst S 15) = r_X10_bestPhase S from rfl)⟩, endW hP2 hK hD2 ht hW⟩, hS2.F ht⟩) hS2.2.2 dX10_bestPhase_47
      · have hlt : i < 15 := bp_s hi c1_16
        refine lv_aload_n hx hb dX10_bestPhase_19 rfl (lv_at hl4 3 rfl) ?_
        refine va_get (D := D) (ci := 10) (v := .ref (a 3)) (C := RX10) (T := TX10) (N := 10) hx hb hts (fun _ h => List.mem_cons_of_mem _ (List.mem_append_left _ (List.mem_append_right _ (h)))) hown hK hP2 0 rfl rfl 2 (by decide) (hts (.fieldLink RX10 26 "Phaselock" "edges" "LPhaselock$EdgeLog;") (List.mem_cons_of_mem _ (List.mem_append_left _ (List.mem_append_left _ (List.mem_of_getElem? (i := 0) rfl))))) (fun _ h9 => h9) rfl dX10_bestPhase_20 ?_
        refine lv_iload_n hx hb dX10_bestPhase_23 rfl (lv_at hl4 0 rfl) ?_
        refine va_calli (va_runV (As := [.int (nI (i + 1))]) (rest := []) ⟨hx, hb, hml, hown, hts⟩ (k_X2_sumCosts l D a cZ cI S H2.size (nI (i + 1))) (cwV 1 hts gX10_bestPhase_X2_sumCosts rfl rfl rfl (by decide +kernel) ⟨Nat.le_of_ble_eq_true rfl, Nat.le_of_ble_eq_true rfl⟩) ⟨blW okN_P, va_recv hK hP2 (ci := 2) (q0 := 3) rfl rfl, preW hP2 hK hD2 okN_P hN⟩ rfl rfl hl4.1 rfl (lv_room (Nat.le_of_ble_eq_true rfl)) dX10_bestPhase_24 ⟨Nat.zero_le _, Nat.zero_le _⟩) hS2 (aA_in hAc) (aA_free hAc hA hS2) (fun r3 u3 t3 H3 L3 ht3 hvm3 hw3 hB3 _ _ hS3 => ?_)
        obtain ⟨hP3, hD3⟩ := backW hB3 ht3 (aA_free hAc hA hS2)
        clear hB3 ht3 hvm3 t3
        obtain ⟨hu3, hr3⟩ := hw3
        subst u3; subst r3
        clear hP2 hD2 hS2
        refine lv_asi (y := (v_X10_bestPhase_3 S i)) rfl ?_
        refine lv_istore (lv' := [(4, .int (v_X10_bestPhase_3 S i)), (3, .int (nI (i + 1))), (2, .int (lcst S i)), (1, .int (bst S i)), (0, .ref (a 0))]) hx hb dX10_bestPhase_27 hl4 (by decide) rfl (fun ls5 hl5 => ?_)
        clear hl4
        refine lv_iload hx hb dX10_bestPhase_29 (lv_at hl5 0 rfl) ?_
        refine lv_iload_n hx hb dX10_bestPhase_31 rfl (lv_at hl5 2 rfl) ?_
        have J1_32 : ∀ ls8 : Array Slot, lv_has ls8 5 [(4, .int (v_X10_bestPhase_3 S i)), (3, .int (nI (i + 1))), (2, .int (v_X10_bestPhase_4 S i)), (1, .int (v_X10_bestPhase_5 S i)), (0, .ref (a 0))] → W p l e (headSpec wsX10_bestPhase rm_X10_bestPhase).room s m ([.ref (a 0)] : List Value).toArray below meth c H3 L3 0 0 Q (F0 m 40 ls8 []) := by
          intro ls8 hl8
          clear hl5
          refine lv_iinc (v := (v_X10_bestPhase_6 S i)) (lv' := [(3, .int (v_X10_bestPhase_6 S i)), (4, .int (v_X10_bestPhase_3 S i)), (2, .int (v_X10_bestPhase_4 S i)), (1, .int (v_X10_bestPhase_5 S i)), (0, .ref (a 0))]) hx hb dX10_bestPhase_40 hl8 (k := 1) rfl rfl (by decide) rfl (fun ls9 hl9 => ?_)
          clear hl8
          refine lv_goto (tgt := 13) hx hb dX10_bestPhase_43 (by decide) ?_
          exact ih (i + 1) (by omega) (by omega) _ _ hP3 hD3 hS3 _ (by rw [show (nI ((i + 1) + 1)) = (v_X10_bestPhase_6 S i) from (nI_1 (i + 1)).symm, show (lcst S (i + 1)) = (v_X10_bestPhase_4 S i) from rfl, show (bst S (i + 1)) = (v_X10_bestPhase_5 S i) from rfl]; exact lv_sub (l' := [(3, .int (v_X10_bestPhase_6 S i)), (2, .int (v_X10_bestPhase_4 S i)), (1, .int (v_X10_bestPhase_5 S i)), (0, .ref (a 0))]) hl9 [0, 2, 3, 4] rfl)
        refine lv_icmp_ge (tgt := 40) hx hb dX10_bestPhase_32 (by decide) (fun c2_32 => ?_) (fun c2_32 => ?_)
        · exact J1_32 _ (by rw [show (v_X10_bestPhase_4 S i) = (lcst S i) from (if_pos c2_32), show (v_X10_bestPhase_5 S i) = (bst S i) from (if_pos c2_32)]; exact lv_sub (l' := [(4, .int (v_X10_bestPhase_3 S i)), (3, .int (nI (i + 1))), (2, .int (lcst S i)), (1, .int (bst S i)), (0, .ref (a 0))]) hl5 [0, 1, 2, 3, 4] rfl)
        · refine lv_iload hx hb dX10_bestPhase_35 (lv_at hl5 0 rfl) ?_
          refine lv_istore_n (lv' := [(2, .int (v_X10_bestPhase_3 S i)), (4, .int (v_X10_bestPhase_3 S i)), (3, .int (nI (i + 1))), (1, .int (bst S i)), (0, .ref (a 0))]) hx hb dX10_bestPhase_37 rfl hl5 (by decide) rfl (fun ls6 hl6 => ?_)
          clear hl5
          refine lv_iload_n hx hb dX10_bestPhase_38 rfl (lv_at hl6 2 rfl) ?_
          refine lv_istore_n (lv' := [(1, .int (nI (i + 1))), (2, .int (v_X10_bestPhase_3 S i)), (4, .int (v_X10_bestPhase_3 S i)), (3, .int (nI (i + 1))), (0, .ref (a 0))]) hx hb dX10_bestPhase_39 rfl hl6 (by decide) rfl (fun ls7 hl7 => ?_)
          clear hl6
          exact J1_32 _ (by rw [show (v_X10_bestPhase_4 S i) = (v_X10_bestPhase_3 S i) from (if_neg c2_32), show (v_X10_bestPhase_5 S i) = (nI (i + 1)) from (if_neg c2_32)]; exact lv_sub (l' := [(4, .int (v_X10_bestPhase_3 S i)), (3, .int (nI (i + 1))), (2, .int (v_X10_bestPhase_3 S i)), (1, .int (nI (i + 1))), (0, .ref (a 0))]) hl7 [2, 3, 1, 0, 4] rfl)
  exact LOOP (15 + 1) 0 (Nat.zero_le _) (by omega) _ _ hP1 hD1 hS1 _ (lv_sub (l' := [(3, .int (nI (0 + 1))), (2, .int (lcst S 0)), (1, .int (bst S 0)), (0, .ref (a 0))]) hl3 [0, 1, 2, 3] rfl)

def v_X10_bit_1 (S : St) (p0 : Int32) : Int32 := r_X1_remembers S p0
def v_X10_bit_2 (S : St) (p0 : Int32) : Int32 := r_X1_findBit S p0
def r_X10_bit (S : St) (p0 : Int32) : Int32 := if (v_X10_bit_1 S p0) = 0 then 0 else (v_X10_bit_2 S p0)
def x_X10_bit (S : St) (p0 : Int32) : Int32 := if (v_X10_bit_1 S p0) = 0 then 1 else 0
def rm_X10_bit : Room := { frames := 6, cells := 1, slots := 6, locals := 82 }
set_option maxRecDepth 100000 in
set_option maxHeartbeats 4000000 in
theorem k_X10_bit (l : Launch) (hfl : l.stackTraces = false) (D : va_G) (a : Nat → Nat) (cZ cI : ClassId) (S : St) (sz : Nat) (p0 : Int32) : vx_Met l yX10_bit wsX10_bit rm_X10_bit (va_Pc [.ref (a 0), .int p0] (pY D (tyZI cZ cI) (wP a cZ cI S) sz (adP a))) (va_Qi (fun (r : Int32) (u : St) => x_X10_bit S p0 = 0 ∧ u = S ∧ r = r_X10_bit S p0) (fun u t => oW D (tyZI cZ cI) (wP a cZ cI u) (aA (adP a) sz) t) (aA (adP a) sz)) (vx_X (fun u : St => u = S ∧ x_X10_bit S p0 = 1) (fun E u t => E = "java/lang/IndexOutOfBoundsException" ∧ oW D (tyZI cZ cI) (wP a cZ cI u) (aA (adP a) sz) t ∧ sz < t.heap.size) (aA (adP a) sz)) 1 6 (aA (adP a) sz) := by
  refine vx_ofW (cc := cX10_bit) (maxL := 2) (ret := (some .int)) (by decide +kernel) rfl ?_
  intro p e s m args below meth c s₁ B hml hex hv
  obtain ⟨rfl, ⟨hsz, hP0, hK, hD9, hNX⟩, hZ⟩ := hv
  have hN := hNX.1
  have hx := B.exec
  have hb := B.bytes
  have hr := B.returns
  have hts := atoms_spec (ws := wsX10_bit) B.pre
  have hown : s.vm.findClass RX10 = some m.cls := findClass_of_methodNamed B.named
  have hlocks := B.notSynchronized
  subst hsz
  have hD0 := aA_self (sz := s.heap.size) (as := adP a) hD9 rfl
  generalize hAe : aA (adP a) s.heap.size = A at hD0 hZ ⊢
  have hA : ∀ q : Nat, s.heap.size ≤ q → A q := fun q h => by rw [← hAe]; exact Or.inr h
  have hAc : ∀ q : Nat, q ∈ adP a → A q := fun q h => by rw [← hAe]; exact Or.inl h
  have hS0 : va_S A s.heap s.heap [] := va_S.rf
  have hl0 := lv_entry ([.ref (a 0), .int p0]) (n := 2) (Nat.le_of_ble_eq_true rfl)
  rw [lg_entry_eq]
  generalize (lg_sl ([.ref (a 0), .int p0]) ++ List.replicate (2 - (lg_sl ([.ref (a 0), .int p0])).length) Slot.unset).toArray = ls0 at hl0 ⊢
  have hl0 : lv_has ls0 2 [(0, .ref (a 0)), (1, .int p0)] := hl0
  generalize hQ : vx_MQ below _ _ _ s _ _ _ = Q
  clear hD9 B
  refine lv_aload_n hx hb dX10_bit_0 rfl (lv_at hl0 0 rfl) ?_
  refine va_get (D := D) (ci := 10) (v := .ref (a 7)) (C := RX10) (T := TX10) (N := 10) hx hb hts (fun _ h => List.mem_cons_of_mem _ (List.mem_append_left _ (List.mem_append_left _ (List.mem_append_right _ (h))))) hown hK hP0 0 rfl rfl 6 (by decide) (hts (.fieldLink RX10 54 "Phaselock" "bits" "LPhaselock$BitLog;") (List.mem_cons_of_mem _ (List.mem_append_left _ (List.mem_append_left _ (List.mem_append_left _ (List.mem_of_getElem? (i := 2) rfl)))))) (fun _ h9 => h9) rfl dX10_bit_1 ?_
  refine lv_iload_n hx hb dX10_bit_4 rfl (lv_at hl0 1 rfl) ?_
  refine va_calli (va_runV (As := [.int p0]) (rest := []) ⟨hx, hb, hml, hown, hts⟩ (k_X1_remembers l D a cZ cI S s.heap.size p0) (cwV 1 hts gX10_bit_X1_remembers rfl rfl rfl (by decide +kernel) ⟨Nat.le_of_ble_eq_true rfl, Nat.le_of_ble_eq_true rfl⟩) ⟨blW okN_P, va_recv hK hP0 (ci := 1) (q0 := 7) rfl rfl, preW hP0 hK hD0 okN_P hN⟩ rfl rfl hl0.1 rfl (lv_room (Nat.le_of_ble_eq_true rfl)) dX10_bit_5 ⟨Nat.zero_le _, Nat.zero_le _⟩) hS0 (aA_in hAc) (aA_free hAc hA hS0) (fun r1 u1 t1 H1 L1 ht1 hvm1 hw1 hB1 _ _ hS1 => ?_)
  obtain ⟨hP1, hD1⟩ := backW hB1 ht1 (aA_free hAc hA hS0)
  clear hB1 ht1 hvm1 t1
  obtain ⟨hu1, hr1⟩ := hw1
  subst u1; subst r1
  clear hP0 hD0 hS0
  refine lv_asi (y := (v_X10_bit_1 S p0)) rfl ?_
  refine lv_if_ne (tgt := 21) hx hb dX10_bit_8 (by decide) (fun c1_8 => ?_) (fun c1_8 => ?_)
  · refine lv_aload_n hx hb dX10_bit_21 rfl (lv_at hl0 0 rfl) ?_
    refine va_get (D := D) (ci := 10) (v := .ref (a 7)) (C := RX10) (T := TX10) (N := 10) hx hb hts (fun _ h => List.mem_cons_of_mem _ (List.mem_append_left _ (List.mem_append_left _ (List.mem_append_right _ (h))))) hown hK hP1 0 rfl rfl 6 (by decide) (hts (.fieldLink RX10 54 "Phaselock" "bits" "LPhaselock$BitLog;") (List.mem_cons_of_mem _ (List.mem_append_left _ (List.mem_append_left _ (List.mem_append_left _ (List.mem_of_getElem? (i := 2) rfl)))))) (fun _ h9 => h9) rfl dX10_bit_22 ?_
    refine lv_iload_n hx hb dX10_bit_25 rfl (lv_at hl0 1 rfl) ?_
    refine va_calli (va_runV (As := [.int p0]) (rest := []) ⟨hx, hb, hml, hown, hts⟩ (k_X1_findBit l D a cZ cI S H1.size p0) (cwV 1 hts gX10_bit_X1_findBit rfl rfl rfl (by decide +kernel) ⟨Nat.le_of_ble_eq_true rfl, Nat.le_of_ble_eq_true rfl⟩) ⟨blW okN_P, va_recv hK hP1 (ci := 1) (q0 := 7) rfl rfl, preW hP1 hK hD1 okN_P hN⟩ rfl rfl hl0.1 rfl (lv_room (Nat.le_of_ble_eq_true rfl)) dX10_bit_26 ⟨Nat.zero_le _, Nat.zero_le _⟩) hS1 (aA_in hAc) (aA_free hAc hA hS1) (fun r2 u2 t2 H2 L2 ht2 hvm2 hw2 hB2 _ _ hS2 => ?_)
    obtain ⟨hP2, hD2⟩ := backW hB2 ht2 (aA_free hAc hA hS1)
    clear hB2 ht2 hvm2 t2
    obtain ⟨hu2, hr2⟩ := hw2
    subst u2; subst r2
    clear hP1 hD1 hS1
    refine lv_asi (y := (v_X10_bit_2 S p0)) rfl ?_
    subst hQ; refine vx_ret (W.widen (k := 1) (n := 6) (by decide) (by decide) ?_); exact W.iret (v := (v_X10_bit_2 S p0)) hx hb hr (fun t ht hW => ⟨⟨(v_X10_bit_2 S p0), S, rfl, ⟨(show x_X10_bit S p0 = 0 from (if_neg c1_8)), rfl, (show (v_X10_bit_2 S p0) = r_X10_bit S p0 from (if_neg c1_8).symm)⟩, endW hP2 hK hD2 ht hW⟩, hS2.F ht⟩) hS2.2.2 dX10_bit_29
  · obtain ⟨sa, hstr⟩ := sy_163 hNX; subst hQ; exact vx_throwS (A := A) hx hb hfl (own := RX10) (cls := "java/lang/IndexOutOfBoundsException") (text := "there is no such bit") (names := ["java/lang/RuntimeException", "java/lang/Exception"]) (ik := 161) (is := 163) (ic := 165) (sa := sa) hown (by decide +kernel) (by decide +kernel) (hts (.classLink RX10 161 "java/lang/IndexOutOfBoundsException") (List.mem_cons_of_mem _ (List.mem_append_left _ (List.mem_append_left _ (List.mem_append_left _ (List.mem_of_getElem? (i := 0) rfl)))))) (hts (.initialized "java/lang/IndexOutOfBoundsException") (List.mem_cons_of_mem _ (List.mem_append_left _ (List.mem_append_left _ (List.mem_append_left _ (List.mem_of_getElem? (i := 1) rfl)))))) hstr (vx_hat (B := [.castable "java/lang/IndexOutOfBoundsException" "java/lang/IndexOutOfBoundsException", .declares ⟨"java/lang/RuntimeException", "<init>", "(Ljava/lang/String;)V"⟩, .declares ⟨"java/lang/Exception", "<init>", "(Ljava/lang/String;)V"⟩, .declares ⟨"java/lang/Throwable", "<init>", "(Ljava/lang/String;)V"⟩]) (fun w h => hts w (List.mem_cons_of_mem _ (List.mem_append_right _ (h)))) (by decide +kernel) (vx_c (va_Nw.use rfl hNX.2.2.1) (vx_c (va_Nw.use rfl hNX.2.2.2.2.1) (vx_c (va_Nw.use rfl hNX.2.2.2.2.2.1) (vx_c (va_Nw.use rfl hNX.2.2.2.2.2.2.1) vx_n))))) (by decide +kernel) hZ.1 hZ.2 hS1 (hl0.1.trans hml.symm) dX10_bit_11 dX10_bit_14 dX10_bit_15 dX10_bit_17 dX10_bit_20 (fun x hx => (hex x hx).elim) (Nat.le_of_ble_eq_true rfl) (Nat.le_of_ble_eq_true rfl) (Nat.le_of_ble_eq_true rfl) (Nat.le_of_ble_eq_true rfl) hlocks (fun t hvm hsz hkp => thrW (px := fun u : St => u = S ∧ x_X10_bit S p0 = 1) (P0 := wP a cZ cI) ⟨rfl, (show x_X10_bit S p0 = 1 from (if_pos c1_8))⟩ hP1 hK hD1 hS1 hvm hsz hkp) hS1.2.2 (Nat.le_of_ble_eq_true rfl) (Nat.le_of_ble_eq_true rfl)

def r_X10_phase (S : St) : Int32 := if (S.1 41) = 0 then 0 else (S.1 42)
def x_X10_phase (S : St) : Int32 := if (S.1 41) = 0 then 1 else 0
def rm_X10_phase : Room := { frames := 6, cells := 1, slots := 6, locals := 82 }
set_option maxRecDepth 100000 in
set_option maxHeartbeats 4000000 in
theorem k_X10_phase (l : Launch) (hfl : l.stackTraces = false) (D : va_G) (a : Nat → Nat) (cZ cI : ClassId) (S : St) (sz : Nat) : vx_Met l yX10_phase wsX10_phase rm_X10_phase (va_Pc [.ref (a 0)] (pY D (tyZI cZ cI) (wP a cZ cI S) sz (adP a))) (va_Qi (fun (r : Int32) (u : St) => x_X10_phase S = 0 ∧ u = S ∧ r = r_X10_phase S) (fun u t => oW D (tyZI cZ cI) (wP a cZ cI u) (aA (adP a) sz) t) (aA (adP a) sz)) (vx_X (fun u : St => u = S ∧ x_X10_phase S = 1) (fun E u t => E = "java/lang/IllegalStateException" ∧ oW D (tyZI cZ cI) (wP a cZ cI u) (aA (adP a) sz) t ∧ sz < t.heap.size) (aA (adP a) sz)) 1 6 (aA (adP a) sz) := by
  refine vx_ofW (cc := cX10_phase) (maxL := 1) (ret := (some .int)) (by decide +kernel) rfl ?_
  intro p e s m args below meth c s₁ B hml hex hv
  obtain ⟨rfl, ⟨hsz, hP0, hK, hD9, hNX⟩, hZ⟩ := hv
  have hN := hNX.1
  have hx := B.exec
  have hb := B.bytes
  have hr := B.returns
  have hts := atoms_spec (ws := wsX10_phase) B.pre
  have hown : s.vm.findClass RX10 = some m.cls := findClass_of_methodNamed B.named
  have hlocks := B.notSynchronized
  subst hsz
  have hD0 := aA_self (sz := s.heap.size) (as := adP a) hD9 rfl
  generalize hAe : aA (adP a) s.heap.size = A at hD0 hZ ⊢
  have hA : ∀ q : Nat, s.heap.size ≤ q → A q := fun q h => by rw [← hAe]; exact Or.inr h
  have hAc : ∀ q : Nat, q ∈ adP a → A q := fun q h => by rw [← hAe]; exact Or.inl h
  have hS0 : va_S A s.heap s.heap [] := va_S.rf
  have hl0 := lv_entry ([.ref (a 0)]) (n := 1) (Nat.le_of_ble_eq_true rfl)
  rw [lg_entry_eq]
  generalize (lg_sl ([.ref (a 0)]) ++ List.replicate (1 - (lg_sl ([.ref (a 0)])).length) Slot.unset).toArray = ls0 at hl0 ⊢
  have hl0 : lv_has ls0 1 [(0, .ref (a 0))] := hl0
  generalize hQ : vx_MQ below _ _ _ s _ _ _ = Q
  clear hD9 B
  refine lv_aload_n hx hb dX10_phase_0 rfl (lv_at hl0 0 rfl) ?_
  refine va_get (D := D) (ci := 10) (v := .ref (a 9)) (C := RX10) (T := TX10) (N := 10) hx hb hts (fun _ h => List.mem_cons_of_mem _ (List.mem_append_left _ (List.mem_append_left _ (List.mem_append_right _ (h))))) hown hK hP0 0 rfl rfl 8 (by decide) (hts (.fieldLink RX10 68 "Phaselock" "phases" "LPhaselock$PhaseLog;") (List.mem_cons_of_mem _ (List.mem_append_left _ (List.mem_append_left _ (List.mem_append_left _ (List.mem_of_getElem? (i := 2) rfl)))))) (fun _ h9 => h9) rfl dX10_phase_1 ?_
  refine va_get (D := D) (ci := 7) (v := .int (S.1 41)) (C := RX7) (T := TX7) (N := 4) hx hb hts (fun _ h => List.mem_cons_of_mem _ (List.mem_append_left _ (List.mem_append_right _ (h)))) hown hK hP0 9 rfl rfl 0 (by decide) (hts (.fieldLink RX10 170 "Phaselock$PhaseLog" "count" "I") (List.mem_cons_of_mem _ (List.mem_append_left _ (List.mem_append_left _ (List.mem_append_left _ (List.mem_of_getElem? (i := 3) rfl)))))) (fun _ h9 => h9) rfl dX10_phase_4 ?_
  refine lv_if_ne (tgt := 20) hx hb dX10_phase_7 (by decide) (fun c1_7 => ?_) (fun c1_7 => ?_)
  · refine lv_aload_n hx hb dX10_phase_20 rfl (lv_at hl0 0 rfl) ?_
    refine va_get (D := D) (ci := 10) (v := .ref (a 9)) (C := RX10) (T := TX10) (N := 10) hx hb hts (fun _ h => List.mem_cons_of_mem _ (List.mem_append_left _ (List.mem_append_left _ (List.mem_append_right _ (h))))) hown hK hP0 0 rfl rfl 8 (by decide) (hts (.fieldLink RX10 68 "Phaselock" "phases" "LPhaselock$PhaseLog;") (List.mem_cons_of_mem _ (List.mem_append_left _ (List.mem_append_left _ (List.mem_append_left _ (List.mem_of_getElem? (i := 2) rfl)))))) (fun _ h9 => h9) rfl dX10_phase_21 ?_
    refine va_get (D := D) (ci := 7) (v := .int (S.1 42)) (C := RX7) (T := TX7) (N := 4) hx hb hts (fun _ h => List.mem_cons_of_mem _ (List.mem_append_left _ (List.mem_append_right _ (h)))) hown hK hP0 9 rfl rfl 1 (by decide) (hts (.fieldLink RX10 176 "Phaselock$PhaseLog" "latest" "I") (List.mem_cons_of_mem _ (List.mem_append_left _ (List.mem_append_left _ (List.mem_append_left _ (List.mem_of_getElem? (i := 4) rfl)))))) (fun _ h9 => h9) rfl dX10_phase_24 ?_
    subst hQ; refine vx_ret (W.widen (k := 1) (n := 6) (by decide) (by decide) ?_); exact W.iret (v := (S.1 42)) hx hb hr (fun t ht hW => ⟨⟨(S.1 42), S, rfl, ⟨(show x_X10_phase S = 0 from (if_neg c1_7)), rfl, (show (S.1 42) = r_X10_phase S from (if_neg c1_7).symm)⟩, endW hP0 hK hD0 ht hW⟩, hS0.F ht⟩) hS0.2.2 dX10_phase_27
  · obtain ⟨sa, hstr⟩ := sy_173 hNX; subst hQ; exact vx_throwS (A := A) hx hb hfl (own := RX10) (cls := "java/lang/IllegalStateException") (text := "there was no data strobe") (names := ["java/lang/RuntimeException", "java/lang/Exception"]) (ik := 171) (is := 173) (ic := 175) (sa := sa) hown (by decide +kernel) (by decide +kernel) (hts (.classLink RX10 171 "java/lang/IllegalStateException") (List.mem_cons_of_mem _ (List.mem_append_left _ (List.mem_append_left _ (List.mem_append_left _ (List.mem_of_getElem? (i := 0) rfl)))))) (hts (.initialized "java/lang/IllegalStateException") (List.mem_cons_of_mem _ (List.mem_append_left _ (List.mem_append_left _ (List.mem_append_left _ (List.mem_of_getElem? (i := 1) rfl)))))) hstr (vx_hat (B := [.castable "java/lang/IllegalStateException" "java/lang/IllegalStateException", .declares ⟨"java/lang/RuntimeException", "<init>", "(Ljava/lang/String;)V"⟩, .declares ⟨"java/lang/Exception", "<init>", "(Ljava/lang/String;)V"⟩, .declares ⟨"java/lang/Throwable", "<init>", "(Ljava/lang/String;)V"⟩]) (fun w h => hts w (List.mem_cons_of_mem _ (List.mem_append_right _ (h)))) (by decide +kernel) (vx_c (va_Nw.use rfl hNX.2.2.2.1) (vx_c (va_Nw.use rfl hNX.2.2.2.2.1) (vx_c (va_Nw.use rfl hNX.2.2.2.2.2.1) (vx_c (va_Nw.use rfl hNX.2.2.2.2.2.2.1) vx_n))))) (by decide +kernel) hZ.1 hZ.2 hS0 (hl0.1.trans hml.symm) dX10_phase_10 dX10_phase_13 dX10_phase_14 dX10_phase_16 dX10_phase_19 (fun x hx => (hex x hx).elim) (Nat.le_of_ble_eq_true rfl) (Nat.le_of_ble_eq_true rfl) (Nat.le_of_ble_eq_true rfl) (Nat.le_of_ble_eq_true rfl) hlocks (fun t hvm hsz hkp => thrW (px := fun u : St => u = S ∧ x_X10_phase S = 1) (P0 := wP a cZ cI) ⟨rfl, (show x_X10_phase S = 1 from (if_pos c1_7))⟩ hP0 hK hD0 hS0 hvm hsz hkp) hS0.2.2 (Nat.le_of_ble_eq_true rfl) (Nat.le_of_ble_eq_true rfl)

def v_X10_cost_1 (S : St) (p0 : Int32) : Int32 := r_X10_isWithin S p0 0 15
def v_X10_cost_2 (S : St) (p0 : Int32) : Int32 := r_X2_sumCosts S p0
def r_X10_cost (S : St) (p0 : Int32) : Int32 := if (v_X10_cost_1 S p0) = 0 then 0 else (v_X10_cost_2 S p0)
def x_X10_cost (S : St) (p0 : Int32) : Int32 := if (v_X10_cost_1 S p0) = 0 then 1 else 0
def rm_X10_cost : Room := { frames := 6, cells := 1, slots := 6, locals := 82 }
set_option maxRecDepth 100000 in
set_option maxHeartbeats 4000000 in
theorem k_X10_cost (l : Launch) (hfl : l.stackTraces = false) (D : va_G) (a : Nat → Nat) (cZ cI : ClassId) (S : St) (sz : Nat) (p0 : Int32) : vx_Met l yX10_cost wsX10_cost rm_X10_cost (va_Pc [.ref (a 0), .int p0] (pY D (tyZI cZ cI) (wP a cZ cI S) sz (adP a))) (va_Qi (fun (r : Int32) (u : St) => x_X10_cost S p0 = 0 ∧ u = S ∧ r = r_X10_cost S p0) (fun u t => oW D (tyZI cZ cI) (wP a cZ cI u) (aA (adP a) sz) t) (aA (adP a) sz)) (vx_X (fun u : St => u = S ∧ x_X10_cost S p0 = 1) (fun E u t => E = "java/lang/IllegalArgumentException" ∧ oW D (tyZI cZ cI) (wP a cZ cI u) (aA (adP a) sz) t ∧ sz < t.heap.size) (aA (adP a) sz)) 1 6 (aA (adP a) sz) := by
  refine vx_ofW (cc := cX10_cost) (maxL := 2) (ret := (some .int)) (by decide +kernel) rfl ?_
  intro p e s m args below meth c s₁ B hml hex hv
  obtain ⟨rfl, ⟨hsz, hP0, hK, hD9, hNX⟩, hZ⟩ := hv
  have hN := hNX.1
  have hx := B.exec
  have hb := B.bytes
  have hr := B.returns
  have hts := atoms_spec (ws := wsX10_cost) B.pre
  have hown : s.vm.findClass RX10 = some m.cls := findClass_of_methodNamed B.named
  have hlocks := B.notSynchronized
  subst hsz
  have hD0 := aA_self (sz := s.heap.size) (as := adP a) hD9 rfl
  generalize hAe : aA (adP a) s.heap.size = A at hD0 hZ ⊢
  have hA : ∀ q : Nat, s.heap.size ≤ q → A q := fun q h => by rw [← hAe]; exact Or.inr h
  have hAc : ∀ q : Nat, q ∈ adP a → A q := fun q h => by rw [← hAe]; exact Or.inl h
  have hS0 : va_S A s.heap s.heap [] := va_S.rf
  have hl0 := lv_entry ([.ref (a 0), .int p0]) (n := 2) (Nat.le_of_ble_eq_true rfl)
  rw [lg_entry_eq]
  generalize (lg_sl ([.ref (a 0), .int p0]) ++ List.replicate (2 - (lg_sl ([.ref (a 0), .int p0])).length) Slot.unset).toArray = ls0 at hl0 ⊢
  have hl0 : lv_has ls0 2 [(0, .ref (a 0)), (1, .int p0)] := hl0
  generalize hQ : vx_MQ below _ _ _ s _ _ _ = Q
  clear hD9 B
  refine lv_iload_n hx hb dX10_cost_0 rfl (lv_at hl0 1 rfl) ?_
  refine lv_iconst (v := 0) hx hb dX10_cost_1 (by decide) ?_
  refine lv_bipush (v := 15) hx hb dX10_cost_2 (by decide) ?_
  refine va_calli (va_runS (As := [.int p0, .int 0, .int 15]) (rest := []) ⟨hx, hb, hml, hown, hts⟩ (k_X10_isWithin l D a cZ cI S s.heap.size p0 0 15) (va_cwS 3 hts gX10_cost_X10_isWithin rfl rfl rfl (by decide +kernel) ⟨Nat.le_of_ble_eq_true rfl, Nat.le_of_ble_eq_true rfl⟩) ⟨blW okN_P, preW hP0 hK hD0 okN_P hN⟩ rfl rfl hl0.1 rfl (lv_room (Nat.le_of_ble_eq_true rfl)) dX10_cost_4 ⟨Nat.zero_le _, Nat.zero_le _⟩) hS0 (aA_in hAc) (aA_free hAc hA hS0) (fun r1 u1 t1 H1 L1 ht1 hvm1 hw1 hB1 _ _ hS1 => ?_)
  obtain ⟨hP1, hD1⟩ := backW hB1 ht1 (aA_free hAc hA hS0)
  clear hB1 ht1 hvm1 t1
  obtain ⟨hu1, hr1⟩ := hw1
  subst u1; subst r1
  clear hP0 hD0 hS0
  refine lv_asi (y := (v_X10_cost_1 S p0)) rfl ?_
  refine lv_if_ne (tgt := 20) hx hb dX10_cost_7 (by decide) (fun c1_7 => ?_) (fun c1_7 => ?_)
  · refine lv_aload_n hx hb dX10_cost_20 rfl (lv_at hl0 0 rfl) ?_
    refine va_get (D := D) (ci := 10) (v := .ref (a 3)) (C := RX10) (T := TX10) (N := 10) hx hb hts (fun _ h => List.mem_cons_of_mem _ (List.mem_append_left _ (List.mem_append_left _ (List.mem_append_right _ (h))))) hown hK hP1 0 rfl rfl 2 (by decide) (hts (.fieldLink RX10 26 "Phaselock" "edges" "LPhaselock$EdgeLog;") (List.mem_cons_of_mem _ (List.mem_append_left _ (List.mem_append_left _ (List.mem_append_left _ (List.mem_of_getElem? (i := 2) rfl)))))) (fun _ h9 => h9) rfl dX10_cost_21 ?_
    refine lv_iload_n hx hb dX10_cost_24 rfl (lv_at hl0 1 rfl) ?_
    refine va_calli (va_runV (As := [.int p0]) (rest := []) ⟨hx, hb, hml, hown, hts⟩ (k_X2_sumCosts l D a cZ cI S H1.size p0) (cwV 1 hts gX10_cost_X2_sumCosts rfl rfl rfl (by decide +kernel) ⟨Nat.le_of_ble_eq_true rfl, Nat.le_of_ble_eq_true rfl⟩) ⟨blW okN_P, va_recv hK hP1 (ci := 2) (q0 := 3) rfl rfl, preW hP1 hK hD1 okN_P hN⟩ rfl rfl hl0.1 rfl (lv_room (Nat.le_of_ble_eq_true rfl)) dX10_cost_25 ⟨Nat.zero_le _, Nat.zero_le _⟩) hS1 (aA_in hAc) (aA_free hAc hA hS1) (fun r2 u2 t2 H2 L2 ht2 hvm2 hw2 hB2 _ _ hS2 => ?_)
    obtain ⟨hP2, hD2⟩ := backW hB2 ht2 (aA_free hAc hA hS1)
    clear hB2 ht2 hvm2 t2
    obtain ⟨hu2, hr2⟩ := hw2
    subst u2; subst r2
    clear hP1 hD1 hS1
    refine lv_asi (y := (v_X10_cost_2 S p0)) rfl ?_
    subst hQ; refine vx_ret (W.widen (k := 1) (n := 6) (by decide) (by decide) ?_); exact W.iret (v := (v_X10_cost_2 S p0)) hx hb hr (fun t ht hW => ⟨⟨(v_X10_cost_2 S p0), S, rfl, ⟨(show x_X10_cost S p0 = 0 from (if_neg c1_7)), rfl, (show (v_X10_cost_2 S p0) = r_X10_cost S p0 from (if_neg c1_7).symm)⟩, endW hP2 hK hD2 ht hW⟩, hS2.F ht⟩) hS2.2.2 dX10_cost_28
  · obtain ⟨sa, hstr⟩ := sy_204 hNX; subst hQ; exact vx_throwS (A := A) hx hb hfl (own := RX10) (cls := "java/lang/IllegalArgumentException") (text := "remainder is out of range") (names := ["java/lang/RuntimeException", "java/lang/Exception"]) (ik := 83) (is := 204) (ic := 87) (sa := sa) hown (by decide +kernel) (by decide +kernel) (hts (.classLink RX10 83 "java/lang/IllegalArgumentException") (List.mem_cons_of_mem _ (List.mem_append_left _ (List.mem_append_left _ (List.mem_append_left _ (List.mem_of_getElem? (i := 0) rfl)))))) (hts (.initialized "java/lang/IllegalArgumentException") (List.mem_cons_of_mem _ (List.mem_append_left _ (List.mem_append_left _ (List.mem_append_left _ (List.mem_of_getElem? (i := 1) rfl)))))) hstr (vx_hat (B := [.castable "java/lang/IllegalArgumentException" "java/lang/IllegalArgumentException", .declares ⟨"java/lang/RuntimeException", "<init>", "(Ljava/lang/String;)V"⟩, .declares ⟨"java/lang/Exception", "<init>", "(Ljava/lang/String;)V"⟩, .declares ⟨"java/lang/Throwable", "<init>", "(Ljava/lang/String;)V"⟩]) (fun w h => hts w (List.mem_cons_of_mem _ (List.mem_append_right _ (h)))) (by decide +kernel) (vx_c (va_Nw.use rfl hNX.2.1) (vx_c (va_Nw.use rfl hNX.2.2.2.2.1) (vx_c (va_Nw.use rfl hNX.2.2.2.2.2.1) (vx_c (va_Nw.use rfl hNX.2.2.2.2.2.2.1) vx_n))))) (by decide +kernel) hZ.1 hZ.2 hS1 (hl0.1.trans hml.symm) dX10_cost_10 dX10_cost_13 dX10_cost_14 dX10_cost_16 dX10_cost_19 (fun x hx => (hex x hx).elim) (Nat.le_of_ble_eq_true rfl) (Nat.le_of_ble_eq_true rfl) (Nat.le_of_ble_eq_true rfl) (Nat.le_of_ble_eq_true rfl) hlocks (fun t hvm hsz hkp => thrW (px := fun u : St => u = S ∧ x_X10_cost S p0 = 1) (P0 := wP a cZ cI) ⟨rfl, (show x_X10_cost S p0 = 1 from (if_pos c1_7))⟩ hP1 hK hD1 hS1 hvm hsz hkp) hS1.2.2 (Nat.le_of_ble_eq_true rfl) (Nat.le_of_ble_eq_true rfl)
end
section
theorem apX {α : Type} {X Y : List α} {i : Nat} {q : α} (h : X[i]? = some q) : (X ++ Y)[i]? = some q := by
  rw [List.getElem?_append_left (List.getElem?_eq_some_iff.mp h).1]; exact h
theorem apY {α : Type} {X Y : List α} {i : Nat} {q : α} (h : Y[i]? = some q) : (X ++ Y)[X.length + i]? = some q := by
  rw [List.getElem?_append_right (Nat.le_add_right _ _), Nat.add_sub_cancel_left]; exact h
theorem subP {D : va_G} {X C Y : va_W} {H : Heap} (h : va_P D vwCl (X ++ (C ++ Y)) H) : va_P D vwCl C H := fun k q hk => h (X.length + k) q (apY (apX hk))
theorem subD {A : Nat → Prop} {X C Y : va_W} (h : va_D A (X ++ (C ++ Y))) : va_D A C := ⟨fun i j p q hi hj e => Nat.add_left_cancel (h.1 (X.length + i) (X.length + j) p q (apY (apX hi)) (apY (apX hj)) e), fun k q hk => h.2 (X.length + k) q (apY (apX hk))⟩
theorem reD {A : Nat → Prop} {ws ws2 : va_W} (h : va_D A ws) (e : ws2.map (fun q => q.1) = ws.map (fun q => q.1)) : va_D A ws2 := by
  have g : ∀ (i : Nat) (p : Nat × va_E), ws2[i]? = some p → ∃ p' : Nat × va_E, ws[i]? = some p' ∧ p'.1 = p.1 := fun i p hp => by
    have h1 : (ws2.map (fun q => q.1))[i]? = some p.1 := by rw [List.getElem?_map, hp]; rfl
    rw [e, List.getElem?_map] at h1
    cases hw : ws[i]? with
    | none => rw [hw] at h1; cases h1
    | some p' => rw [hw] at h1; exact ⟨p', rfl, Option.some.inj h1⟩
  refine ⟨fun i j p q hi hj hpq => ?_, fun k q hk => ?_⟩
  · obtain ⟨p', h1, e1⟩ := g i p hi
    obtain ⟨q', h2, e2⟩ := g j q hj
    exact h.1 i j p' q' h1 h2 (by rw [e1, e2]; exact hpq)
  · obtain ⟨q', h1, e1⟩ := g k q hk
    rw [← e1]
    exact h.2 k q' h1
/-- behind a call whose world is the middle of the list: what came back stands in its place -/
theorem joinW {D : va_G} {A0 : Nat → Prop} {X C C1 Y : va_W} {as : List Nat} {H H1 : Heap} (hP : va_P D vwCl (X ++ (C ++ Y)) H) (hD : va_D A0 (X ++ (C ++ Y))) (eC : C.map (fun q => q.1) = as) (eC1 : C1.map (fun q => q.1) = as) (hk : ∀ q : Nat, q < H.size → ¬ aA as H.size q → H1[q]? = H[q]?) (hP1 : va_P D vwCl C1 H1) : va_P D vwCl (X ++ (C1 ++ Y)) H1 ∧ va_D A0 (X ++ (C1 ++ Y)) := by
  have far : ∀ (i : Nat) (q : Nat × va_E), (X ++ (C ++ Y))[i]? = some q → (∀ j, j < C.length → i ≠ X.length + j) → H1[q.1]? = H[q.1]? := fun i q hi hne => by
    refine hk q.1 (hP i q hi).lt (fun h => ?_)
    rcases h with h | h
    · rw [← eC] at h
      obtain ⟨c, hc, e⟩ := List.mem_map.mp h
      obtain ⟨j, hj⟩ := List.getElem?_of_mem hc
      exact hne j (List.getElem?_eq_some_iff.mp hj).1 (hD.1 i (X.length + j) q c hi (apY (apX hj)) e.symm)
    · exact absurd (hP i q hi).lt (Nat.not_lt.mpr h)
  refine ⟨fun k q hq => ?_, reD hD (by simp only [List.map_append, eC, eC1])⟩
  rcases List.mem_append.mp (List.mem_of_getElem? hq) with h | h
  · obtain ⟨i, hi⟩ := List.getElem?_of_mem h
    have h1 : (X ++ (C ++ Y))[i]? = some q := apX hi
    exact (hP i q h1).kept (far i q h1 (fun j _ => by have := (List.getElem?_eq_some_iff.mp hi).1; omega))
  · rcases List.mem_append.mp h with h | h
    · obtain ⟨i, hi⟩ := List.getElem?_of_mem h
      exact hP1 i q hi
    · obtain ⟨i, hi⟩ := List.getElem?_of_mem h
      have h1 : (X ++ (C ++ Y))[X.length + (C.length + i)]? = some q := apY (apY hi)
      exact (hP _ q h1).kept (far _ q h1 (fun j hj => by omega))
end
section
def rm_X9_init : Room := { frames := 1, cells := 0, slots := 0, locals := 12 }
set_option maxRecDepth 100000 in
set_option maxHeartbeats 4000000 in
theorem k_X9_init (l : Launch) (D : va_G) (h0 sz : Nat) : Met l yX9_init wsX9_init rm_X9_init (va_Pc [.ref h0] (pW D [] [(h0, .inr (9, [.int 0, .int 0, .int 0, .long 0, .int 0, .int 0, .int 0]))] sz nT)) (va_Qv (fun _ : Unit => True) (fun u t => va_P D vwCl [(h0, .inr (9, [.int 0, .int 4096, .int 0, .long 1, .int 0, .int 1, .int 127]))] t.heap ∧ va_K D vwCl [] t ∧ va_D (va_A [(h0, .inr (9, [.int 0, .int 0, .int 0, .long 0, .int 0, .int 0, .int 0]))] sz) [(h0, .inr (9, [.int 0, .int 4096, .int 0, .long 1, .int 0, .int 1, .int 127]))]) (va_A [(h0, .inr (9, [.int 0, .int 0, .int 0, .long 0, .int 0, .int 0, .int 0]))] sz)) 0 0 (va_A [(h0, .inr (9, [.int 0, .int 0, .int 0, .long 0, .int 0, .int 0, .int 0]))] sz) := by
  refine Met.ofW (cc := cX9_init) (maxL := 1) (ret := none) (by decide) rfl ?_
  intro p e s m args below meth c s₁ B hml hv
  obtain ⟨rfl, hsz, hP, hK, hD9, hN⟩ := hv
  have hx := B.exec
  have hb := B.bytes
  have hr := B.returns
  have hts := atoms_spec (ws := wsX9_init) B.pre
  have hown : s.vm.findClass RX9 = some m.cls := findClass_of_methodNamed B.named
  have hlocks := B.notSynchronized
  have hin : meth.name = "<init>" := (name_of_methodNamed B.named B.method).1
  subst hsz
  have hD := hD9.self (sz := s.heap.size)
  generalize hAe : va_A [(h0, .inr (9, [.int 0, .int 0, .int 0, .long 0, .int 0, .int 0, .int 0]))] s.heap.size = A at hD ⊢
  have hA : ∀ q : Nat, s.heap.size ≤ q → A q := fun q h => by rw [← hAe]; exact Or.inr h
  have hS : va_S A s.heap s.heap [] := va_S.rf
  have hP : va_P D vwCl [(h0, .inr (9, [.int 0, .int 0, .int 0, .long 0, .int 0, .int 0, .int 0]))] s.heap := hP
  have hl := lv_entry ([.ref h0]) (n := 1) (Nat.le_of_ble_eq_true rfl)
  rw [lg_entry_eq]
  generalize (lg_sl ([.ref h0]) ++ List.replicate (1 - (lg_sl ([.ref h0])).length) Slot.unset).toArray = ls at hl ⊢
  have hl : lv_has ls 1 [(0, .ref h0)] := hl
  clear hD9 B
  refine lv_aload_n hx hb dX9_init_0 rfl (lv_at hl 0 rfl) ?_
  refine W.objInit hx hb hown (hts (.methodLink RX9 3 objectInit) (List.mem_cons_of_mem _ (List.mem_append_left _ (List.mem_of_getElem? (i := 0) rfl)))) (hts (.instanceMethod objectInit) (List.mem_cons_of_mem _ (List.mem_append_left _ (List.mem_of_getElem? (i := 1) rfl)))) (hts _ (List.mem_cons_of_mem _ (List.mem_append_left _ (List.mem_of_getElem? (i := 2) rfl)))) rfl (by rw [hml]; exact hl.1) rfl dX9_init_1 (Nat.le_of_ble_eq_true rfl) (Nat.le_of_ble_eq_true rfl) ?_
  refine W.eq (g2 := F0 m 4 ls []) rfl ?_
  refine lv_aload_n hx hb dX9_init_4 rfl (lv_at hl 0 rfl) ?_
  refine lv_iconst (v := 0) hx hb dX9_init_5 (by decide) ?_
  refine va_put (D := D) (ci := 9) (v := .int 0) (ty := .int) (C := RX9) (T := TX9) (N := 7) hx hb hts (fun _ h => List.mem_cons_of_mem _ (List.mem_append_right _ (h))) tyX9 tyX9_ok nmX9 hown hK hP hD hS 0 rfl rfl 0 (by decide) (hts (.fieldLink RX9 9 "Phaselock$Transmitter" "phase" "I") (List.mem_cons_of_mem _ (List.mem_append_left _ (List.mem_of_getElem? (i := 3) rfl)))) (fun _ h9 => h9) rfl (by decide +kernel) rfl rfl (Nat.le_of_ble_eq_true rfl) dX9_init_6 (fun H locs hP hD hS => ?_)
  replace hP : va_P D vwCl [(h0, .inr (9, [.int 0, .int 0, .int 0, .long 0, .int 0, .int 0, .int 0]))] H := hP
  replace hD : va_D A [(h0, .inr (9, [.int 0, .int 0, .int 0, .long 0, .int 0, .int 0, .int 0]))] := hD
  refine lv_aload_n hx hb dX9_init_9 rfl (lv_at hl 0 rfl) ?_
  refine lv_sipush (v := 4096) hx hb dX9_init_10 (by decide) ?_
  refine va_put (D := D) (ci := 9) (v := .int 4096) (ty := .int) (C := RX9) (T := TX9) (N := 7) hx hb hts (fun _ h => List.mem_cons_of_mem _ (List.mem_append_right _ (h))) tyX9 tyX9_ok nmX9 hown hK hP hD hS 0 rfl rfl 1 (by decide) (hts (.fieldLink RX9 15 "Phaselock$Transmitter" "step" "I") (List.mem_cons_of_mem _ (List.mem_append_left _ (List.mem_of_getElem? (i := 4) rfl)))) (fun _ h9 => h9) rfl (by decide +kernel) rfl rfl (Nat.le_of_ble_eq_true rfl) dX9_init_13 (fun H locs hP hD hS => ?_)
  replace hP : va_P D vwCl [(h0, .inr (9, [.int 0, .int 4096, .int 0, .long 0, .int 0, .int 0, .int 0]))] H := hP
  replace hD : va_D A [(h0, .inr (9, [.int 0, .int 4096, .int 0, .long 0, .int 0, .int 0, .int 0]))] := hD
  refine lv_aload_n hx hb dX9_init_16 rfl (lv_at hl 0 rfl) ?_
  refine lv_iconst (v := 0) hx hb dX9_init_17 (by decide) ?_
  refine va_put (D := D) (ci := 9) (v := .int 0) (ty := .int) (C := RX9) (T := TX9) (N := 7) hx hb hts (fun _ h => List.mem_cons_of_mem _ (List.mem_append_right _ (h))) tyX9 tyX9_ok nmX9 hown hK hP hD hS 0 rfl rfl 2 (by decide) (hts (.fieldLink RX9 18 "Phaselock$Transmitter" "jitter" "I") (List.mem_cons_of_mem _ (List.mem_append_left _ (List.mem_of_getElem? (i := 5) rfl)))) (fun _ h9 => h9) rfl (by decide +kernel) rfl rfl (Nat.le_of_ble_eq_true rfl) dX9_init_18 (fun H locs hP hD hS => ?_)
  replace hP : va_P D vwCl [(h0, .inr (9, [.int 0, .int 4096, .int 0, .long 0, .int 0, .int 0, .int 0]))] H := hP
  replace hD : va_D A [(h0, .inr (9, [.int 0, .int 4096, .int 0, .long 0, .int 0, .int 0, .int 0]))] := hD
  refine lv_aload_n hx hb dX9_init_21 rfl (lv_at hl 0 rfl) ?_
  refine lv_lconst (v := 1) hx hb dX9_init_22 rfl ?_
  refine va_put (D := D) (ci := 9) (v := .long 1) (ty := .long) (C := RX9) (T := TX9) (N := 7) hx hb hts (fun _ h => List.mem_cons_of_mem _ (List.mem_append_right _ (h))) tyX9 tyX9_ok nmX9 hown hK hP hD hS 0 rfl rfl 3 (by decide) (hts (.fieldLink RX9 21 "Phaselock$Transmitter" "randomState" "J") (List.mem_cons_of_mem _ (List.mem_append_left _ (List.mem_of_getElem? (i := 6) rfl)))) (fun _ h9 => h9) rfl (by decide +kernel) rfl rfl (Nat.le_of_ble_eq_true rfl) dX9_init_23 (fun H locs hP hD hS => ?_)
  replace hP : va_P D vwCl [(h0, .inr (9, [.int 0, .int 4096, .int 0, .long 1, .int 0, .int 0, .int 0]))] H := hP
  replace hD : va_D A [(h0, .inr (9, [.int 0, .int 4096, .int 0, .long 1, .int 0, .int 0, .int 0]))] := hD
  refine lv_aload_n hx hb dX9_init_26 rfl (lv_at hl 0 rfl) ?_
  refine lv_iconst (v := 0) hx hb dX9_init_27 (by decide) ?_
  refine va_put (D := D) (ci := 9) (v := .int 0) (ty := .int) (C := RX9) (T := TX9) (N := 7) hx hb hts (fun _ h => List.mem_cons_of_mem _ (List.mem_append_right _ (h))) tyX9 tyX9_ok nmX9 hown hK hP hD hS 0 rfl rfl 4 (by decide) (hts (.fieldLink RX9 25 "Phaselock$Transmitter" "number" "I") (List.mem_cons_of_mem _ (List.mem_append_left _ (List.mem_of_getElem? (i := 7) rfl)))) (fun _ h9 => h9) rfl (by decide +kernel) rfl rfl (Nat.le_of_ble_eq_true rfl) dX9_init_28 (fun H locs hP hD hS => ?_)
  replace hP : va_P D vwCl [(h0, .inr (9, [.int 0, .int 4096, .int 0, .long 1, .int 0, .int 0, .int 0]))] H := hP
  replace hD : va_D A [(h0, .inr (9, [.int 0, .int 4096, .int 0, .long 1, .int 0, .int 0, .int 0]))] := hD
  refine lv_aload_n hx hb dX9_init_31 rfl (lv_at hl 0 rfl) ?_
  refine lv_iconst (v := 1) hx hb dX9_init_32 (by decide) ?_
  refine va_put (D := D) (ci := 9) (v := .int 1) (ty := .int) (C := RX9) (T := TX9) (N := 7) hx hb hts (fun _ h => List.mem_cons_of_mem _ (List.mem_append_right _ (h))) tyX9 tyX9_ok nmX9 hown hK hP hD hS 0 rfl rfl 5 (by decide) (hts (.fieldLink RX9 28 "Phaselock$Transmitter" "value" "I") (List.mem_cons_of_mem _ (List.mem_append_left _ (List.mem_of_getElem? (i := 8) rfl)))) (fun _ h9 => h9) rfl (by decide +kernel) rfl rfl (Nat.le_of_ble_eq_true rfl) dX9_init_33 (fun H locs hP hD hS => ?_)
  replace hP : va_P D vwCl [(h0, .inr (9, [.int 0, .int 4096, .int 0, .long 1, .int 0, .int 1, .int 0]))] H := hP
  replace hD : va_D A [(h0, .inr (9, [.int 0, .int 4096, .int 0, .long 1, .int 0, .int 1, .int 0]))] := hD
  refine lv_aload_n hx hb dX9_init_36 rfl (lv_at hl 0 rfl) ?_
  refine lv_bipush (v := 127) hx hb dX9_init_37 (by decide) ?_
  refine va_put (D := D) (ci := 9) (v := .int 127) (ty := .int) (C := RX9) (T := TX9) (N := 7) hx hb hts (fun _ h => List.mem_cons_of_mem _ (List.mem_append_right _ (h))) tyX9 tyX9_ok nmX9 hown hK hP hD hS 0 rfl rfl 6 (by decide) (hts (.fieldLink RX9 31 "Phaselock$Transmitter" "register" "I") (List.mem_cons_of_mem _ (List.mem_append_left _ (List.mem_of_getElem? (i := 9) rfl)))) (fun _ h9 => h9) rfl (by decide +kernel) rfl rfl (Nat.le_of_ble_eq_true rfl) dX9_init_39 (fun H locs hP hD hS => ?_)
  replace hP : va_P D vwCl [(h0, .inr (9, [.int 0, .int 4096, .int 0, .long 1, .int 0, .int 1, .int 127]))] H := hP
  replace hD : va_D A [(h0, .inr (9, [.int 0, .int 4096, .int 0, .long 1, .int 0, .int 1, .int 127]))] := hD
  exact W.vret hx hb hr (fun t ht hW => ⟨⟨(), rfl, trivial, by rw [ht]; exact hP, va_K.moved hW.alike hK, hD⟩, hS.F ht⟩) hS.2.2 dX9_init_42
def rm_X3_init : Room := { frames := 1, cells := 0, slots := 0, locals := 12 }
set_option maxRecDepth 100000 in
set_option maxHeartbeats 4000000 in
theorem k_X3_init (l : Launch) (D : va_G) (h0 sz : Nat) : Met l yX3_init wsX3_init rm_X3_init (va_Pc [.ref h0] (pW D [] [(h0, .inr (3, [.int 0]))] sz nT)) (va_Qv (fun _ : Unit => True) (fun u t => va_P D vwCl [(h0, .inr (3, [.int 65535]))] t.heap ∧ va_K D vwCl [] t ∧ va_D (va_A [(h0, .inr (3, [.int 0]))] sz) [(h0, .inr (3, [.int 65535]))]) (va_A [(h0, .inr (3, [.int 0]))] sz)) 0 0 (va_A [(h0, .inr (3, [.int 0]))] sz) := by
  refine Met.ofW (cc := cX3_init) (maxL := 1) (ret := none) (by decide) rfl ?_
  intro p e s m args below meth c s₁ B hml hv
  obtain ⟨rfl, hsz, hP, hK, hD9, hN⟩ := hv
  have hx := B.exec
  have hb := B.bytes
  have hr := B.returns
  have hts := atoms_spec (ws := wsX3_init) B.pre
  have hown : s.vm.findClass RX3 = some m.cls := findClass_of_methodNamed B.named
  have hlocks := B.notSynchronized
  have hin : meth.name = "<init>" := (name_of_methodNamed B.named B.method).1
  subst hsz
  have hD := hD9.self (sz := s.heap.size)
  generalize hAe : va_A [(h0, .inr (3, [.int 0]))] s.heap.size = A at hD ⊢
  have hA : ∀ q : Nat, s.heap.size ≤ q → A q := fun q h => by rw [← hAe]; exact Or.inr h
  have hS : va_S A s.heap s.heap [] := va_S.rf
  have hP : va_P D vwCl [(h0, .inr (3, [.int 0]))] s.heap := hP
  have hl := lv_entry ([.ref h0]) (n := 1) (Nat.le_of_ble_eq_true rfl)
  rw [lg_entry_eq]
  generalize (lg_sl ([.ref h0]) ++ List.replicate (1 - (lg_sl ([.ref h0])).length) Slot.unset).toArray = ls at hl ⊢
  have hl : lv_has ls 1 [(0, .ref h0)] := hl
  clear hD9 B
  refine lv_aload_n hx hb dX3_init_0 rfl (lv_at hl 0 rfl) ?_
  refine W.objInit hx hb hown (hts (.methodLink RX3 1 objectInit) (List.mem_cons_of_mem _ (List.mem_append_left _ (List.mem_of_getElem? (i := 0) rfl)))) (hts (.instanceMethod objectInit) (List.mem_cons_of_mem _ (List.mem_append_left _ (List.mem_of_getElem? (i := 1) rfl)))) (hts _ (List.mem_cons_of_mem _ (List.mem_append_left _ (List.mem_of_getElem? (i := 2) rfl)))) rfl (by rw [hml]; exact hl.1) rfl dX3_init_1 (Nat.le_of_ble_eq_true rfl) (Nat.le_of_ble_eq_true rfl) ?_
  refine W.eq (g2 := F0 m 4 ls []) rfl ?_
  refine lv_aload_n hx hb dX3_init_4 rfl (lv_at hl 0 rfl) ?_
  refine lv_ldc (v := 65535) hx hb hown (hts (.constant RX3 7 (65535)) (List.mem_cons_of_mem _ (List.mem_append_left _ (List.mem_of_getElem? (i := 3) rfl)))) dX3_init_5 ?_
  refine va_put (D := D) (ci := 3) (v := .int 65535) (ty := .int) (C := RX3) (T := TX3) (N := 1) hx hb hts (fun _ h => List.mem_cons_of_mem _ (List.mem_append_right _ (h))) tyX3 tyX3_ok nmX3 hown hK hP hD hS 0 rfl rfl 0 (by decide) (hts (.fieldLink RX3 8 "Phaselock$LineMemory" "values" "I") (List.mem_cons_of_mem _ (List.mem_append_left _ (List.mem_of_getElem? (i := 4) rfl)))) (fun _ h9 => h9) rfl (by decide +kernel) rfl rfl (Nat.le_of_ble_eq_true rfl) dX3_init_7 (fun H locs hP hD hS => ?_)
  replace hP : va_P D vwCl [(h0, .inr (3, [.int 65535]))] H := hP
  replace hD : va_D A [(h0, .inr (3, [.int 65535]))] := hD
  exact W.vret hx hb hr (fun t ht hW => ⟨⟨(), rfl, trivial, by rw [ht]; exact hP, va_K.moved hW.alike hK, hD⟩, hS.F ht⟩) hS.2.2 dX3_init_10
def rm_X2_init : Room := { frames := 1, cells := 1, slots := 256, locals := 12 }
set_option maxRecDepth 100000 in
set_option maxHeartbeats 4000000 in
theorem k_X2_init (l : Launch) (D : va_G) (h0 sz : Nat) : Met l yX2_init wsX2_init rm_X2_init (va_Pc [.ref h0] (pW D [] [(h0, .inr (2, [.int 0, .null]))] sz nT)) (va_Qv (fun _ : Nat × ClassId => True) (fun u t => va_P D vwCl [(h0, .inr (2, [.int 0, .ref u.1])), (u.1, .inl (u.2, 256, .inl (fun _ => 0)))] t.heap ∧ va_K D vwCl [(u.2, .boolean)] t ∧ va_D (va_A [(h0, .inr (2, [.int 0, .null]))] sz) [(h0, .inr (2, [.int 0, .ref u.1])), (u.1, .inl (u.2, 256, .inl (fun _ => 0)))]) (va_A [(h0, .inr (2, [.int 0, .null]))] sz)) 1 256 (va_A [(h0, .inr (2, [.int 0, .null]))] sz) := by
  refine Met.ofW (cc := cX2_init) (maxL := 1) (ret := none) (by decide) rfl ?_
  intro p e s m args below meth c s₁ B hml hv
  obtain ⟨rfl, hsz, hP, hK, hD9, hN⟩ := hv
  have hx := B.exec
  have hb := B.bytes
  have hr := B.returns
  have hts := atoms_spec (ws := wsX2_init) B.pre
  have hown : s.vm.findClass RX2 = some m.cls := findClass_of_methodNamed B.named
  have hlocks := B.notSynchronized
  have hin : meth.name = "<init>" := (name_of_methodNamed B.named B.method).1
  subst hsz
  have hD := hD9.self (sz := s.heap.size)
  generalize hAe : va_A [(h0, .inr (2, [.int 0, .null]))] s.heap.size = A at hD ⊢
  have hA : ∀ q : Nat, s.heap.size ≤ q → A q := fun q h => by rw [← hAe]; exact Or.inr h
  have hS : va_S A s.heap s.heap [] := va_S.rf
  have hP : va_P D vwCl [(h0, .inr (2, [.int 0, .null]))] s.heap := hP
  have hl := lv_entry ([.ref h0]) (n := 1) (Nat.le_of_ble_eq_true rfl)
  rw [lg_entry_eq]
  generalize (lg_sl ([.ref h0]) ++ List.replicate (1 - (lg_sl ([.ref h0])).length) Slot.unset).toArray = ls at hl ⊢
  have hl : lv_has ls 1 [(0, .ref h0)] := hl
  clear hD9 B
  refine lv_aload_n hx hb dX2_init_0 rfl (lv_at hl 0 rfl) ?_
  refine W.objInit hx hb hown (hts (.methodLink RX2 1 objectInit) (List.mem_cons_of_mem _ (List.mem_append_left _ (List.mem_of_getElem? (i := 0) rfl)))) (hts (.instanceMethod objectInit) (List.mem_cons_of_mem _ (List.mem_append_left _ (List.mem_of_getElem? (i := 1) rfl)))) (hts _ (List.mem_cons_of_mem _ (List.mem_append_left _ (List.mem_of_getElem? (i := 2) rfl)))) rfl (by rw [hml]; exact hl.1) rfl dX2_init_1 (Nat.le_of_ble_eq_true rfl) (Nat.le_of_ble_eq_true rfl) ?_
  refine W.eq (g2 := F0 m 4 ls []) rfl ?_
  refine lv_aload_n hx hb dX2_init_4 rfl (lv_at hl 0 rfl) ?_
  refine lv_iconst (v := 0) hx hb dX2_init_5 (by decide) ?_
  refine va_put (D := D) (ci := 2) (v := .int 0) (ty := .int) (C := RX2) (T := TX2) (N := 2) hx hb hts (fun _ h => List.mem_cons_of_mem _ (List.mem_append_right _ (h))) tyX2 tyX2_ok nmX2 hown hK hP hD hS 0 rfl rfl 0 (by decide) (hts (.fieldLink RX2 7 "Phaselock$EdgeLog" "ticks" "I") (List.mem_cons_of_mem _ (List.mem_append_left _ (List.mem_of_getElem? (i := 3) rfl)))) (fun _ h9 => h9) rfl (by decide +kernel) rfl rfl (Nat.le_of_ble_eq_true rfl) dX2_init_6 (fun H locs hP hD hS => ?_)
  replace hP : va_P D vwCl [(h0, .inr (2, [.int 0, .null]))] H := hP
  replace hD : va_D A [(h0, .inr (2, [.int 0, .null]))] := hD
  refine lv_aload_n hx hb dX2_init_9 rfl (lv_at hl 0 rfl) ?_
  refine lv_sipush (v := 256) hx hb dX2_init_10 (by decide) ?_
  refine va_newa (atype := .boolean) (ty := .boolean) (N' := 256) (a0 := (256, .inl (fun _ => 0))) hx hb (hts (.arrayClass .boolean) (List.mem_cons_of_mem _ (List.mem_append_left _ (List.mem_of_getElem? (i := 4) rfl)))) rfl hK hP hD hS hA (fun _ => rfl) (by decide) (by decide) (by decide) (Nat.le_of_ble_eq_true rfl) (Nat.le_of_ble_eq_true rfl) dX2_init_13 (fun q13 cA13 H hK hP hD hS => ?_)
  replace hP : va_P D vwCl [(h0, .inr (2, [.int 0, .null])), (q13, .inl (cA13, 256, .inl (fun _ => 0)))] H := hP
  replace hD : va_D A [(h0, .inr (2, [.int 0, .null])), (q13, .inl (cA13, 256, .inl (fun _ => 0)))] := hD
  replace hK : va_K D vwCl [(cA13, .boolean)] s := hK
  refine W.widen (k := 1) (n := 256) (by decide) (by decide) ?_
  refine va_putF (D := D) (ci := 2) (v := .ref q13) (ty := .array .boolean) (C := RX2) (T := TX2) (N := 2) hx hb hts (fun _ h => List.mem_cons_of_mem _ (List.mem_append_right _ (h))) tyX2 tyX2_ok nmX2 hown hK hP hD hS 0 rfl rfl 1 (by decide) (hts (.fieldLink RX2 13 "Phaselock$EdgeLog" "changed" "[Z") (List.mem_cons_of_mem _ (List.mem_append_left _ (List.mem_of_getElem? (i := 5) rfl)))) (fun _ h9 => h9) rfl hin rfl (by decide +kernel) rfl rfl (Nat.le_of_ble_eq_true rfl) dX2_init_15 (fun H locs hP hD hS => ?_)
  replace hP : va_P D vwCl [(h0, .inr (2, [.int 0, .ref q13])), (q13, .inl (cA13, 256, .inl (fun _ => 0)))] H := hP
  replace hD : va_D A [(h0, .inr (2, [.int 0, .ref q13])), (q13, .inl (cA13, 256, .inl (fun _ => 0)))] := hD
  exact W.vret hx hb hr (fun t ht hW => ⟨⟨(q13, cA13), rfl, trivial, by rw [ht]; exact hP, va_K.moved hW.alike hK, hD⟩, hS.F ht⟩) hS.2.2 dX2_init_18
def rm_X5_init : Room := { frames := 1, cells := 0, slots := 0, locals := 12 }
set_option maxRecDepth 100000 in
set_option maxHeartbeats 4000000 in
theorem k_X5_init (l : Launch) (D : va_G) (h0 sz : Nat) : Met l yX5_init wsX5_init rm_X5_init (va_Pc [.ref h0] (pW D [] [(h0, .inr (5, [.int 0]))] sz nT)) (va_Qv (fun _ : Unit => True) (fun u t => va_P D vwCl [(h0, .inr (5, [.int 0]))] t.heap ∧ va_K D vwCl [] t ∧ va_D (va_A [(h0, .inr (5, [.int 0]))] sz) [(h0, .inr (5, [.int 0]))]) (va_A [(h0, .inr (5, [.int 0]))] sz)) 0 0 (va_A [(h0, .inr (5, [.int 0]))] sz) := by
  refine Met.ofW (cc := cX5_init) (maxL := 1) (ret := none) (by decide) rfl ?_
  intro p e s m args below meth c s₁ B hml hv
  obtain ⟨rfl, hsz, hP, hK, hD9, hN⟩ := hv
  have hx := B.exec
  have hb := B.bytes
  have hr := B.returns
  have hts := atoms_spec (ws := wsX5_init) B.pre
  have hown : s.vm.findClass RX5 = some m.cls := findClass_of_methodNamed B.named
  have hlocks := B.notSynchronized
  have hin : meth.name = "<init>" := (name_of_methodNamed B.named B.method).1
  subst hsz
  have hD := hD9.self (sz := s.heap.size)
  generalize hAe : va_A [(h0, .inr (5, [.int 0]))] s.heap.size = A at hD ⊢
  have hA : ∀ q : Nat, s.heap.size ≤ q → A q := fun q h => by rw [← hAe]; exact Or.inr h
  have hS : va_S A s.heap s.heap [] := va_S.rf
  have hP : va_P D vwCl [(h0, .inr (5, [.int 0]))] s.heap := hP
  have hl := lv_entry ([.ref h0]) (n := 1) (Nat.le_of_ble_eq_true rfl)
  rw [lg_entry_eq]
  generalize (lg_sl ([.ref h0]) ++ List.replicate (1 - (lg_sl ([.ref h0])).length) Slot.unset).toArray = ls at hl ⊢
  have hl : lv_has ls 1 [(0, .ref h0)] := hl
  clear hD9 B
  refine lv_aload_n hx hb dX5_init_0 rfl (lv_at hl 0 rfl) ?_
  refine W.objInit hx hb hown (hts (.methodLink RX5 3 objectInit) (List.mem_cons_of_mem _ (List.mem_append_left _ (List.mem_of_getElem? (i := 0) rfl)))) (hts (.instanceMethod objectInit) (List.mem_cons_of_mem _ (List.mem_append_left _ (List.mem_of_getElem? (i := 1) rfl)))) (hts _ (List.mem_cons_of_mem _ (List.mem_append_left _ (List.mem_of_getElem? (i := 2) rfl)))) rfl (by rw [hml]; exact hl.1) rfl dX5_init_1 (Nat.le_of_ble_eq_true rfl) (Nat.le_of_ble_eq_true rfl) ?_
  refine W.eq (g2 := F0 m 4 ls []) rfl ?_
  refine lv_aload_n hx hb dX5_init_4 rfl (lv_at hl 0 rfl) ?_
  refine lv_iconst (v := 0) hx hb dX5_init_5 (by decide) ?_
  refine va_put (D := D) (ci := 5) (v := .int 0) (ty := .int) (C := RX5) (T := TX5) (N := 1) hx hb hts (fun _ h => List.mem_cons_of_mem _ (List.mem_append_right _ (h))) tyX5 tyX5_ok nmX5 hown hK hP hD hS 0 rfl rfl 0 (by decide) (hts (.fieldLink RX5 9 "Phaselock$Oscillator" "phase" "I") (List.mem_cons_of_mem _ (List.mem_append_left _ (List.mem_of_getElem? (i := 3) rfl)))) (fun _ h9 => h9) rfl (by decide +kernel) rfl rfl (Nat.le_of_ble_eq_true rfl) dX5_init_6 (fun H locs hP hD hS => ?_)
  replace hP : va_P D vwCl [(h0, .inr (5, [.int 0]))] H := hP
  replace hD : va_D A [(h0, .inr (5, [.int 0]))] := hD
  exact W.vret hx hb hr (fun t ht hW => ⟨⟨(), rfl, trivial, by rw [ht]; exact hP, va_K.moved hW.alike hK, hD⟩, hS.F ht⟩) hS.2.2 dX5_init_9
def rm_X6_init : Room := { frames := 1, cells := 0, slots := 0, locals := 12 }
set_option maxRecDepth 100000 in
set_option maxHeartbeats 4000000 in
theorem k_X6_init (l : Launch) (D : va_G) (h0 sz : Nat) : Met l yX6_init wsX6_init rm_X6_init (va_Pc [.ref h0] (pW D [] [(h0, .inr (6, [.int 0, .int 0, .int 0, .int 0, .int 0, .int 0, .int 0]))] sz nT)) (va_Qv (fun _ : Unit => True) (fun u t => va_P D vwCl [(h0, .inr (6, [.int 0, .int 0, .int 0, .int 0, .int 0, .int 0, .int 0]))] t.heap ∧ va_K D vwCl [] t ∧ va_D (va_A [(h0, .inr (6, [.int 0, .int 0, .int 0, .int 0, .int 0, .int 0, .int 0]))] sz) [(h0, .inr (6, [.int 0, .int 0, .int 0, .int 0, .int 0, .int 0, .int 0]))]) (va_A [(h0, .inr (6, [.int 0, .int 0, .int 0, .int 0, .int 0, .int 0, .int 0]))] sz)) 0 0 (va_A [(h0, .inr (6, [.int 0, .int 0, .int 0, .int 0, .int 0, .int 0, .int 0]))] sz) := by
  refine Met.ofW (cc := cX6_init) (maxL := 1) (ret := none) (by decide) rfl ?_
  intro p e s m args below meth c s₁ B hml hv
  obtain ⟨rfl, hsz, hP, hK, hD9, hN⟩ := hv
  have hx := B.exec
  have hb := B.bytes
  have hr := B.returns
  have hts := atoms_spec (ws := wsX6_init) B.pre
  have hown : s.vm.findClass RX6 = some m.cls := findClass_of_methodNamed B.named
  have hlocks := B.notSynchronized
  have hin : meth.name = "<init>" := (name_of_methodNamed B.named B.method).1
  subst hsz
  have hD := hD9.self (sz := s.heap.size)
  generalize hAe : va_A [(h0, .inr (6, [.int 0, .int 0, .int 0, .int 0, .int 0, .int 0, .int 0]))] s.heap.size = A at hD ⊢
  have hA : ∀ q : Nat, s.heap.size ≤ q → A q := fun q h => by rw [← hAe]; exact Or.inr h
  have hS : va_S A s.heap s.heap [] := va_S.rf
  have hP : va_P D vwCl [(h0, .inr (6, [.int 0, .int 0, .int 0, .int 0, .int 0, .int 0, .int 0]))] s.heap := hP
  have hl := lv_entry ([.ref h0]) (n := 1) (Nat.le_of_ble_eq_true rfl)
  rw [lg_entry_eq]
  generalize (lg_sl ([.ref h0]) ++ List.replicate (1 - (lg_sl ([.ref h0])).length) Slot.unset).toArray = ls at hl ⊢
  have hl : lv_has ls 1 [(0, .ref h0)] := hl
  clear hD9 B
  refine lv_aload_n hx hb dX6_init_0 rfl (lv_at hl 0 rfl) ?_
  refine W.objInit hx hb hown (hts (.methodLink RX6 3 objectInit) (List.mem_cons_of_mem _ (List.mem_append_left _ (List.mem_of_getElem? (i := 0) rfl)))) (hts (.instanceMethod objectInit) (List.mem_cons_of_mem _ (List.mem_append_left _ (List.mem_of_getElem? (i := 1) rfl)))) (hts _ (List.mem_cons_of_mem _ (List.mem_append_left _ (List.mem_of_getElem? (i := 2) rfl)))) rfl (by rw [hml]; exact hl.1) rfl dX6_init_1 (Nat.le_of_ble_eq_true rfl) (Nat.le_of_ble_eq_true rfl) ?_
  refine W.eq (g2 := F0 m 4 ls []) rfl ?_
  refine lv_aload_n hx hb dX6_init_4 rfl (lv_at hl 0 rfl) ?_
  refine lv_iconst (v := 0) hx hb dX6_init_5 (by decide) ?_
  refine va_put (D := D) (ci := 6) (v := .int 0) (ty := .int) (C := RX6) (T := TX6) (N := 7) hx hb hts (fun _ h => List.mem_cons_of_mem _ (List.mem_append_right _ (h))) tyX6 tyX6_ok nmX6 hown hK hP hD hS 0 rfl rfl 0 (by decide) (hts (.fieldLink RX6 9 "Phaselock$PhaseDetector" "kind" "I") (List.mem_cons_of_mem _ (List.mem_append_left _ (List.mem_of_getElem? (i := 3) rfl)))) (fun _ h9 => h9) rfl (by decide +kernel) rfl rfl (Nat.le_of_ble_eq_true rfl) dX6_init_6 (fun H locs hP hD hS => ?_)
  replace hP : va_P D vwCl [(h0, .inr (6, [.int 0, .int 0, .int 0, .int 0, .int 0, .int 0, .int 0]))] H := hP
  replace hD : va_D A [(h0, .inr (6, [.int 0, .int 0, .int 0, .int 0, .int 0, .int 0, .int 0]))] := hD
  refine lv_aload_n hx hb dX6_init_9 rfl (lv_at hl 0 rfl) ?_
  refine lv_iconst (v := 0) hx hb dX6_init_10 (by decide) ?_
  refine va_put (D := D) (ci := 6) (v := .int 0) (ty := .int) (C := RX6) (T := TX6) (N := 7) hx hb hts (fun _ h => List.mem_cons_of_mem _ (List.mem_append_right _ (h))) tyX6 tyX6_ok nmX6 hown hK hP hD hS 0 rfl rfl 1 (by decide) (hts (.fieldLink RX6 15 "Phaselock$PhaseDetector" "edgeError" "I") (List.mem_cons_of_mem _ (List.mem_append_left _ (List.mem_of_getElem? (i := 4) rfl)))) (fun _ h9 => h9) rfl (by decide +kernel) rfl rfl (Nat.le_of_ble_eq_true rfl) dX6_init_11 (fun H locs hP hD hS => ?_)
  replace hP : va_P D vwCl [(h0, .inr (6, [.int 0, .int 0, .int 0, .int 0, .int 0, .int 0, .int 0]))] H := hP
  replace hD : va_D A [(h0, .inr (6, [.int 0, .int 0, .int 0, .int 0, .int 0, .int 0, .int 0]))] := hD
  refine lv_aload_n hx hb dX6_init_14 rfl (lv_at hl 0 rfl) ?_
  refine lv_iconst (v := 0) hx hb dX6_init_15 (by decide) ?_
  refine va_put (D := D) (ci := 6) (v := .int 0) (ty := .int) (C := RX6) (T := TX6) (N := 7) hx hb hts (fun _ h => List.mem_cons_of_mem _ (List.mem_append_right _ (h))) tyX6 tyX6_ok nmX6 hown hK hP hD hS 0 rfl rfl 2 (by decide) (hts (.fieldLink RX6 18 "Phaselock$PhaseDetector" "product" "I") (List.mem_cons_of_mem _ (List.mem_append_left _ (List.mem_of_getElem? (i := 5) rfl)))) (fun _ h9 => h9) rfl (by decide +kernel) rfl rfl (Nat.le_of_ble_eq_true rfl) dX6_init_16 (fun H locs hP hD hS => ?_)
  replace hP : va_P D vwCl [(h0, .inr (6, [.int 0, .int 0, .int 0, .int 0, .int 0, .int 0, .int 0]))] H := hP
  replace hD : va_D A [(h0, .inr (6, [.int 0, .int 0, .int 0, .int 0, .int 0, .int 0, .int 0]))] := hD
  refine lv_aload_n hx hb dX6_init_19 rfl (lv_at hl 0 rfl) ?_
  refine lv_iconst (v := 0) hx hb dX6_init_20 (by decide) ?_
  refine va_put (D := D) (ci := 6) (v := .int 0) (ty := .int) (C := RX6) (T := TX6) (N := 7) hx hb hts (fun _ h => List.mem_cons_of_mem _ (List.mem_append_right _ (h))) tyX6 tyX6_ok nmX6 hown hK hP hD hS 0 rfl rfl 3 (by decide) (hts (.fieldLink RX6 21 "Phaselock$PhaseDetector" "earlyValue" "I") (List.mem_cons_of_mem _ (List.mem_append_left _ (List.mem_of_getElem? (i := 6) rfl)))) (fun _ h9 => h9) rfl (by decide +kernel) rfl rfl (Nat.le_of_ble_eq_true rfl) dX6_init_21 (fun H locs hP hD hS => ?_)
  replace hP : va_P D vwCl [(h0, .inr (6, [.int 0, .int 0, .int 0, .int 0, .int 0, .int 0, .int 0]))] H := hP
  replace hD : va_D A [(h0, .inr (6, [.int 0, .int 0, .int 0, .int 0, .int 0, .int 0, .int 0]))] := hD
  refine lv_aload_n hx hb dX6_init_24 rfl (lv_at hl 0 rfl) ?_
  refine lv_iconst (v := 0) hx hb dX6_init_25 (by decide) ?_
  refine va_put (D := D) (ci := 6) (v := .int 0) (ty := .int) (C := RX6) (T := TX6) (N := 7) hx hb hts (fun _ h => List.mem_cons_of_mem _ (List.mem_append_right _ (h))) tyX6 tyX6_ok nmX6 hown hK hP hD hS 0 rfl rfl 4 (by decide) (hts (.fieldLink RX6 24 "Phaselock$PhaseDetector" "middleValue" "I") (List.mem_cons_of_mem _ (List.mem_append_left _ (List.mem_of_getElem? (i := 7) rfl)))) (fun _ h9 => h9) rfl (by decide +kernel) rfl rfl (Nat.le_of_ble_eq_true rfl) dX6_init_26 (fun H locs hP hD hS => ?_)
  replace hP : va_P D vwCl [(h0, .inr (6, [.int 0, .int 0, .int 0, .int 0, .int 0, .int 0, .int 0]))] H := hP
  replace hD : va_D A [(h0, .inr (6, [.int 0, .int 0, .int 0, .int 0, .int 0, .int 0, .int 0]))] := hD
  refine lv_aload_n hx hb dX6_init_29 rfl (lv_at hl 0 rfl) ?_
  refine lv_iconst (v := 0) hx hb dX6_init_30 (by decide) ?_
  refine va_put (D := D) (ci := 6) (v := .int 0) (ty := .int) (C := RX6) (T := TX6) (N := 7) hx hb hts (fun _ h => List.mem_cons_of_mem _ (List.mem_append_right _ (h))) tyX6 tyX6_ok nmX6 hown hK hP hD hS 0 rfl rfl 5 (by decide) (hts (.fieldLink RX6 27 "Phaselock$PhaseDetector" "middleLevel" "I") (List.mem_cons_of_mem _ (List.mem_append_left _ (List.mem_of_getElem? (i := 8) rfl)))) (fun _ h9 => h9) rfl (by decide +kernel) rfl rfl (Nat.le_of_ble_eq_true rfl) dX6_init_31 (fun H locs hP hD hS => ?_)
  replace hP : va_P D vwCl [(h0, .inr (6, [.int 0, .int 0, .int 0, .int 0, .int 0, .int 0, .int 0]))] H := hP
  replace hD : va_D A [(h0, .inr (6, [.int 0, .int 0, .int 0, .int 0, .int 0, .int 0, .int 0]))] := hD
  refine lv_aload_n hx hb dX6_init_34 rfl (lv_at hl 0 rfl) ?_
  refine lv_iconst (v := 0) hx hb dX6_init_35 (by decide) ?_
  refine va_put (D := D) (ci := 6) (v := .int 0) (ty := .int) (C := RX6) (T := TX6) (N := 7) hx hb hts (fun _ h => List.mem_cons_of_mem _ (List.mem_append_right _ (h))) tyX6 tyX6_ok nmX6 hown hK hP hD hS 0 rfl rfl 6 (by decide) (hts (.fieldLink RX6 30 "Phaselock$PhaseDetector" "dataLevel" "I") (List.mem_cons_of_mem _ (List.mem_append_left _ (List.mem_of_getElem? (i := 9) rfl)))) (fun _ h9 => h9) rfl (by decide +kernel) rfl rfl (Nat.le_of_ble_eq_true rfl) dX6_init_36 (fun H locs hP hD hS => ?_)
  replace hP : va_P D vwCl [(h0, .inr (6, [.int 0, .int 0, .int 0, .int 0, .int 0, .int 0, .int 0]))] H := hP
  replace hD : va_D A [(h0, .inr (6, [.int 0, .int 0, .int 0, .int 0, .int 0, .int 0, .int 0]))] := hD
  exact W.vret hx hb hr (fun t ht hW => ⟨⟨(), rfl, trivial, by rw [ht]; exact hP, va_K.moved hW.alike hK, hD⟩, hS.F ht⟩) hS.2.2 dX6_init_39
def rm_X4_init : Room := { frames := 1, cells := 0, slots := 0, locals := 12 }
set_option maxRecDepth 100000 in
set_option maxHeartbeats 4000000 in
theorem k_X4_init (l : Launch) (D : va_G) (h0 sz : Nat) : Met l yX4_init wsX4_init rm_X4_init (va_Pc [.ref h0] (pW D [] [(h0, .inr (4, [.int 0, .int 0, .int 0, .int 0, .int 0]))] sz nT)) (va_Qv (fun _ : Unit => True) (fun u t => va_P D vwCl [(h0, .inr (4, [.int 8, .int 1, .int 0, .int 0, .int 0]))] t.heap ∧ va_K D vwCl [] t ∧ va_D (va_A [(h0, .inr (4, [.int 0, .int 0, .int 0, .int 0, .int 0]))] sz) [(h0, .inr (4, [.int 8, .int 1, .int 0, .int 0, .int 0]))]) (va_A [(h0, .inr (4, [.int 0, .int 0, .int 0, .int 0, .int 0]))] sz)) 0 0 (va_A [(h0, .inr (4, [.int 0, .int 0, .int 0, .int 0, .int 0]))] sz) := by
  refine Met.ofW (cc := cX4_init) (maxL := 1) (ret := none) (by decide) rfl ?_
  intro p e s m args below meth c s₁ B hml hv
  obtain ⟨rfl, hsz, hP, hK, hD9, hN⟩ := hv
  have hx := B.exec
  have hb := B.bytes
  have hr := B.returns
  have hts := atoms_spec (ws := wsX4_init) B.pre
  have hown : s.vm.findClass RX4 = some m.cls := findClass_of_methodNamed B.named
  have hlocks := B.notSynchronized
  have hin : meth.name = "<init>" := (name_of_methodNamed B.named B.method).1
  subst hsz
  have hD := hD9.self (sz := s.heap.size)
  generalize hAe : va_A [(h0, .inr (4, [.int 0, .int 0, .int 0, .int 0, .int 0]))] s.heap.size = A at hD ⊢
  have hA : ∀ q : Nat, s.heap.size ≤ q → A q := fun q h => by rw [← hAe]; exact Or.inr h
  have hS : va_S A s.heap s.heap [] := va_S.rf
  have hP : va_P D vwCl [(h0, .inr (4, [.int 0, .int 0, .int 0, .int 0, .int 0]))] s.heap := hP
  have hl := lv_entry ([.ref h0]) (n := 1) (Nat.le_of_ble_eq_true rfl)
  rw [lg_entry_eq]
  generalize (lg_sl ([.ref h0]) ++ List.replicate (1 - (lg_sl ([.ref h0])).length) Slot.unset).toArray = ls at hl ⊢
  have hl : lv_has ls 1 [(0, .ref h0)] := hl
  clear hD9 B
  refine lv_aload_n hx hb dX4_init_0 rfl (lv_at hl 0 rfl) ?_
  refine W.objInit hx hb hown (hts (.methodLink RX4 1 objectInit) (List.mem_cons_of_mem _ (List.mem_append_left _ (List.mem_of_getElem? (i := 0) rfl)))) (hts (.instanceMethod objectInit) (List.mem_cons_of_mem _ (List.mem_append_left _ (List.mem_of_getElem? (i := 1) rfl)))) (hts _ (List.mem_cons_of_mem _ (List.mem_append_left _ (List.mem_of_getElem? (i := 2) rfl)))) rfl (by rw [hml]; exact hl.1) rfl dX4_init_1 (Nat.le_of_ble_eq_true rfl) (Nat.le_of_ble_eq_true rfl) ?_
  refine W.eq (g2 := F0 m 4 ls []) rfl ?_
  refine lv_aload_n hx hb dX4_init_4 rfl (lv_at hl 0 rfl) ?_
  refine lv_bipush (v := 8) hx hb dX4_init_5 (by decide) ?_
  refine va_put (D := D) (ci := 4) (v := .int 8) (ty := .int) (C := RX4) (T := TX4) (N := 5) hx hb hts (fun _ h => List.mem_cons_of_mem _ (List.mem_append_right _ (h))) tyX4 tyX4_ok nmX4 hown hK hP hD hS 0 rfl rfl 0 (by decide) (hts (.fieldLink RX4 7 "Phaselock$LoopFilter" "proportionalGain" "I") (List.mem_cons_of_mem _ (List.mem_append_left _ (List.mem_of_getElem? (i := 3) rfl)))) (fun _ h9 => h9) rfl (by decide +kernel) rfl rfl (Nat.le_of_ble_eq_true rfl) dX4_init_7 (fun H locs hP hD hS => ?_)
  replace hP : va_P D vwCl [(h0, .inr (4, [.int 8, .int 0, .int 0, .int 0, .int 0]))] H := hP
  replace hD : va_D A [(h0, .inr (4, [.int 8, .int 0, .int 0, .int 0, .int 0]))] := hD
  refine lv_aload_n hx hb dX4_init_10 rfl (lv_at hl 0 rfl) ?_
  refine lv_iconst (v := 1) hx hb dX4_init_11 (by decide) ?_
  refine va_put (D := D) (ci := 4) (v := .int 1) (ty := .int) (C := RX4) (T := TX4) (N := 5) hx hb hts (fun _ h => List.mem_cons_of_mem _ (List.mem_append_right _ (h))) tyX4 tyX4_ok nmX4 hown hK hP hD hS 0 rfl rfl 1 (by decide) (hts (.fieldLink RX4 13 "Phaselock$LoopFilter" "integralGain" "I") (List.mem_cons_of_mem _ (List.mem_append_left _ (List.mem_of_getElem? (i := 4) rfl)))) (fun _ h9 => h9) rfl (by decide +kernel) rfl rfl (Nat.le_of_ble_eq_true rfl) dX4_init_12 (fun H locs hP hD hS => ?_)
  replace hP : va_P D vwCl [(h0, .inr (4, [.int 8, .int 1, .int 0, .int 0, .int 0]))] H := hP
  replace hD : va_D A [(h0, .inr (4, [.int 8, .int 1, .int 0, .int 0, .int 0]))] := hD
  refine lv_aload_n hx hb dX4_init_15 rfl (lv_at hl 0 rfl) ?_
  refine lv_iconst (v := 0) hx hb dX4_init_16 (by decide) ?_
  refine va_put (D := D) (ci := 4) (v := .int 0) (ty := .int) (C := RX4) (T := TX4) (N := 5) hx hb hts (fun _ h => List.mem_cons_of_mem _ (List.mem_append_right _ (h))) tyX4 tyX4_ok nmX4 hown hK hP hD hS 0 rfl rfl 2 (by decide) (hts (.fieldLink RX4 16 "Phaselock$LoopFilter" "error" "I") (List.mem_cons_of_mem _ (List.mem_append_left _ (List.mem_of_getElem? (i := 5) rfl)))) (fun _ h9 => h9) rfl (by decide +kernel) rfl rfl (Nat.le_of_ble_eq_true rfl) dX4_init_17 (fun H locs hP hD hS => ?_)
  replace hP : va_P D vwCl [(h0, .inr (4, [.int 8, .int 1, .int 0, .int 0, .int 0]))] H := hP
  replace hD : va_D A [(h0, .inr (4, [.int 8, .int 1, .int 0, .int 0, .int 0]))] := hD
  refine lv_aload_n hx hb dX4_init_20 rfl (lv_at hl 0 rfl) ?_
  refine lv_iconst (v := 0) hx hb dX4_init_21 (by decide) ?_
  refine va_put (D := D) (ci := 4) (v := .int 0) (ty := .int) (C := RX4) (T := TX4) (N := 5) hx hb hts (fun _ h => List.mem_cons_of_mem _ (List.mem_append_right _ (h))) tyX4 tyX4_ok nmX4 hown hK hP hD hS 0 rfl rfl 3 (by decide) (hts (.fieldLink RX4 19 "Phaselock$LoopFilter" "integral" "I") (List.mem_cons_of_mem _ (List.mem_append_left _ (List.mem_of_getElem? (i := 6) rfl)))) (fun _ h9 => h9) rfl (by decide +kernel) rfl rfl (Nat.le_of_ble_eq_true rfl) dX4_init_22 (fun H locs hP hD hS => ?_)
  replace hP : va_P D vwCl [(h0, .inr (4, [.int 8, .int 1, .int 0, .int 0, .int 0]))] H := hP
  replace hD : va_D A [(h0, .inr (4, [.int 8, .int 1, .int 0, .int 0, .int 0]))] := hD
  refine lv_aload_n hx hb dX4_init_25 rfl (lv_at hl 0 rfl) ?_
  refine lv_iconst (v := 0) hx hb dX4_init_26 (by decide) ?_
  refine va_put (D := D) (ci := 4) (v := .int 0) (ty := .int) (C := RX4) (T := TX4) (N := 5) hx hb hts (fun _ h => List.mem_cons_of_mem _ (List.mem_append_right _ (h))) tyX4 tyX4_ok nmX4 hown hK hP hD hS 0 rfl rfl 4 (by decide) (hts (.fieldLink RX4 22 "Phaselock$LoopFilter" "control" "I") (List.mem_cons_of_mem _ (List.mem_append_left _ (List.mem_of_getElem? (i := 7) rfl)))) (fun _ h9 => h9) rfl (by decide +kernel) rfl rfl (Nat.le_of_ble_eq_true rfl) dX4_init_27 (fun H locs hP hD hS => ?_)
  replace hP : va_P D vwCl [(h0, .inr (4, [.int 8, .int 1, .int 0, .int 0, .int 0]))] H := hP
  replace hD : va_D A [(h0, .inr (4, [.int 8, .int 1, .int 0, .int 0, .int 0]))] := hD
  exact W.vret hx hb hr (fun t ht hW => ⟨⟨(), rfl, trivial, by rw [ht]; exact hP, va_K.moved hW.alike hK, hD⟩, hS.F ht⟩) hS.2.2 dX4_init_30
def rm_X1_init : Room := { frames := 1, cells := 0, slots := 0, locals := 12 }
set_option maxRecDepth 100000 in
set_option maxHeartbeats 4000000 in
theorem k_X1_init (l : Launch) (D : va_G) (h0 sz : Nat) : Met l yX1_init wsX1_init rm_X1_init (va_Pc [.ref h0] (pW D [] [(h0, .inr (1, [.int 0, .int 0]))] sz nT)) (va_Qv (fun _ : Unit => True) (fun u t => va_P D vwCl [(h0, .inr (1, [.int 0, .int 0]))] t.heap ∧ va_K D vwCl [] t ∧ va_D (va_A [(h0, .inr (1, [.int 0, .int 0]))] sz) [(h0, .inr (1, [.int 0, .int 0]))]) (va_A [(h0, .inr (1, [.int 0, .int 0]))] sz)) 0 0 (va_A [(h0, .inr (1, [.int 0, .int 0]))] sz) := by
  refine Met.ofW (cc := cX1_init) (maxL := 1) (ret := none) (by decide) rfl ?_
  intro p e s m args below meth c s₁ B hml hv
  obtain ⟨rfl, hsz, hP, hK, hD9, hN⟩ := hv
  have hx := B.exec
  have hb := B.bytes
  have hr := B.returns
  have hts := atoms_spec (ws := wsX1_init) B.pre
  have hown : s.vm.findClass RX1 = some m.cls := findClass_of_methodNamed B.named
  have hlocks := B.notSynchronized
  have hin : meth.name = "<init>" := (name_of_methodNamed B.named B.method).1
  subst hsz
  have hD := hD9.self (sz := s.heap.size)
  generalize hAe : va_A [(h0, .inr (1, [.int 0, .int 0]))] s.heap.size = A at hD ⊢
  have hA : ∀ q : Nat, s.heap.size ≤ q → A q := fun q h => by rw [← hAe]; exact Or.inr h
  have hS : va_S A s.heap s.heap [] := va_S.rf
  have hP : va_P D vwCl [(h0, .inr (1, [.int 0, .int 0]))] s.heap := hP
  have hl := lv_entry ([.ref h0]) (n := 1) (Nat.le_of_ble_eq_true rfl)
  rw [lg_entry_eq]
  generalize (lg_sl ([.ref h0]) ++ List.replicate (1 - (lg_sl ([.ref h0])).length) Slot.unset).toArray = ls at hl ⊢
  have hl : lv_has ls 1 [(0, .ref h0)] := hl
  clear hD9 B
  refine lv_aload_n hx hb dX1_init_0 rfl (lv_at hl 0 rfl) ?_
  refine W.objInit hx hb hown (hts (.methodLink RX1 3 objectInit) (List.mem_cons_of_mem _ (List.mem_append_left _ (List.mem_of_getElem? (i := 0) rfl)))) (hts (.instanceMethod objectInit) (List.mem_cons_of_mem _ (List.mem_append_left _ (List.mem_of_getElem? (i := 1) rfl)))) (hts _ (List.mem_cons_of_mem _ (List.mem_append_left _ (List.mem_of_getElem? (i := 2) rfl)))) rfl (by rw [hml]; exact hl.1) rfl dX1_init_1 (Nat.le_of_ble_eq_true rfl) (Nat.le_of_ble_eq_true rfl) ?_
  refine W.eq (g2 := F0 m 4 ls []) rfl ?_
  refine lv_aload_n hx hb dX1_init_4 rfl (lv_at hl 0 rfl) ?_
  refine lv_iconst (v := 0) hx hb dX1_init_5 (by decide) ?_
  refine va_put (D := D) (ci := 1) (v := .int 0) (ty := .int) (C := RX1) (T := TX1) (N := 2) hx hb hts (fun _ h => List.mem_cons_of_mem _ (List.mem_append_right _ (h))) tyX1 tyX1_ok nmX1 hown hK hP hD hS 0 rfl rfl 0 (by decide) (hts (.fieldLink RX1 9 "Phaselock$BitLog" "count" "I") (List.mem_cons_of_mem _ (List.mem_append_left _ (List.mem_of_getElem? (i := 3) rfl)))) (fun _ h9 => h9) rfl (by decide +kernel) rfl rfl (Nat.le_of_ble_eq_true rfl) dX1_init_6 (fun H locs hP hD hS => ?_)
  replace hP : va_P D vwCl [(h0, .inr (1, [.int 0, .int 0]))] H := hP
  replace hD : va_D A [(h0, .inr (1, [.int 0, .int 0]))] := hD
  refine lv_aload_n hx hb dX1_init_9 rfl (lv_at hl 0 rfl) ?_
  refine lv_iconst (v := 0) hx hb dX1_init_10 (by decide) ?_
  refine va_put (D := D) (ci := 1) (v := .int 0) (ty := .int) (C := RX1) (T := TX1) (N := 2) hx hb hts (fun _ h => List.mem_cons_of_mem _ (List.mem_append_right _ (h))) tyX1 tyX1_ok nmX1 hown hK hP hD hS 0 rfl rfl 1 (by decide) (hts (.fieldLink RX1 15 "Phaselock$BitLog" "latest32" "I") (List.mem_cons_of_mem _ (List.mem_append_left _ (List.mem_of_getElem? (i := 4) rfl)))) (fun _ h9 => h9) rfl (by decide +kernel) rfl rfl (Nat.le_of_ble_eq_true rfl) dX1_init_11 (fun H locs hP hD hS => ?_)
  replace hP : va_P D vwCl [(h0, .inr (1, [.int 0, .int 0]))] H := hP
  replace hD : va_D A [(h0, .inr (1, [.int 0, .int 0]))] := hD
  exact W.vret hx hb hr (fun t ht hW => ⟨⟨(), rfl, trivial, by rw [ht]; exact hP, va_K.moved hW.alike hK, hD⟩, hS.F ht⟩) hS.2.2 dX1_init_14
def rm_X8_init : Room := { frames := 1, cells := 0, slots := 0, locals := 12 }
set_option maxRecDepth 100000 in
set_option maxHeartbeats 4000000 in
theorem k_X8_init (l : Launch) (D : va_G) (h0 sz : Nat) : Met l yX8_init wsX8_init rm_X8_init (va_Pc [.ref h0] (pW D [] [(h0, .inr (8, [.int 0, .int 0, .int 0, .int 0]))] sz nT)) (va_Qv (fun _ : Unit => True) (fun u t => va_P D vwCl [(h0, .inr (8, [.int 0, .int 0, .int 0, .int 0]))] t.heap ∧ va_K D vwCl [] t ∧ va_D (va_A [(h0, .inr (8, [.int 0, .int 0, .int 0, .int 0]))] sz) [(h0, .inr (8, [.int 0, .int 0, .int 0, .int 0]))]) (va_A [(h0, .inr (8, [.int 0, .int 0, .int 0, .int 0]))] sz)) 0 0 (va_A [(h0, .inr (8, [.int 0, .int 0, .int 0, .int 0]))] sz) := by
  refine Met.ofW (cc := cX8_init) (maxL := 1) (ret := none) (by decide) rfl ?_
  intro p e s m args below meth c s₁ B hml hv
  obtain ⟨rfl, hsz, hP, hK, hD9, hN⟩ := hv
  have hx := B.exec
  have hb := B.bytes
  have hr := B.returns
  have hts := atoms_spec (ws := wsX8_init) B.pre
  have hown : s.vm.findClass RX8 = some m.cls := findClass_of_methodNamed B.named
  have hlocks := B.notSynchronized
  have hin : meth.name = "<init>" := (name_of_methodNamed B.named B.method).1
  subst hsz
  have hD := hD9.self (sz := s.heap.size)
  generalize hAe : va_A [(h0, .inr (8, [.int 0, .int 0, .int 0, .int 0]))] s.heap.size = A at hD ⊢
  have hA : ∀ q : Nat, s.heap.size ≤ q → A q := fun q h => by rw [← hAe]; exact Or.inr h
  have hS : va_S A s.heap s.heap [] := va_S.rf
  have hP : va_P D vwCl [(h0, .inr (8, [.int 0, .int 0, .int 0, .int 0]))] s.heap := hP
  have hl := lv_entry ([.ref h0]) (n := 1) (Nat.le_of_ble_eq_true rfl)
  rw [lg_entry_eq]
  generalize (lg_sl ([.ref h0]) ++ List.replicate (1 - (lg_sl ([.ref h0])).length) Slot.unset).toArray = ls at hl ⊢
  have hl : lv_has ls 1 [(0, .ref h0)] := hl
  clear hD9 B
  refine lv_aload_n hx hb dX8_init_0 rfl (lv_at hl 0 rfl) ?_
  refine W.objInit hx hb hown (hts (.methodLink RX8 1 objectInit) (List.mem_cons_of_mem _ (List.mem_append_left _ (List.mem_of_getElem? (i := 0) rfl)))) (hts (.instanceMethod objectInit) (List.mem_cons_of_mem _ (List.mem_append_left _ (List.mem_of_getElem? (i := 1) rfl)))) (hts _ (List.mem_cons_of_mem _ (List.mem_append_left _ (List.mem_of_getElem? (i := 2) rfl)))) rfl (by rw [hml]; exact hl.1) rfl dX8_init_1 (Nat.le_of_ble_eq_true rfl) (Nat.le_of_ble_eq_true rfl) ?_
  refine W.eq (g2 := F0 m 4 ls []) rfl ?_
  refine lv_aload_n hx hb dX8_init_4 rfl (lv_at hl 0 rfl) ?_
  refine lv_iconst (v := 0) hx hb dX8_init_5 (by decide) ?_
  refine va_put (D := D) (ci := 8) (v := .int 0) (ty := .int) (C := RX8) (T := TX8) (N := 4) hx hb hts (fun _ h => List.mem_cons_of_mem _ (List.mem_append_right _ (h))) tyX8 tyX8_ok nmX8 hown hK hP hD hS 0 rfl rfl 0 (by decide) (hts (.fieldLink RX8 7 "Phaselock$SlipCounter" "repeated" "I") (List.mem_cons_of_mem _ (List.mem_append_left _ (List.mem_of_getElem? (i := 3) rfl)))) (fun _ h9 => h9) rfl (by decide +kernel) rfl rfl (Nat.le_of_ble_eq_true rfl) dX8_init_6 (fun H locs hP hD hS => ?_)
  replace hP : va_P D vwCl [(h0, .inr (8, [.int 0, .int 0, .int 0, .int 0]))] H := hP
  replace hD : va_D A [(h0, .inr (8, [.int 0, .int 0, .int 0, .int 0]))] := hD
  refine lv_aload_n hx hb dX8_init_9 rfl (lv_at hl 0 rfl) ?_
  refine lv_iconst (v := 0) hx hb dX8_init_10 (by decide) ?_
  refine va_put (D := D) (ci := 8) (v := .int 0) (ty := .int) (C := RX8) (T := TX8) (N := 4) hx hb hts (fun _ h => List.mem_cons_of_mem _ (List.mem_append_right _ (h))) tyX8 tyX8_ok nmX8 hown hK hP hD hS 0 rfl rfl 1 (by decide) (hts (.fieldLink RX8 13 "Phaselock$SlipCounter" "skipped" "I") (List.mem_cons_of_mem _ (List.mem_append_left _ (List.mem_of_getElem? (i := 4) rfl)))) (fun _ h9 => h9) rfl (by decide +kernel) rfl rfl (Nat.le_of_ble_eq_true rfl) dX8_init_11 (fun H locs hP hD hS => ?_)
  replace hP : va_P D vwCl [(h0, .inr (8, [.int 0, .int 0, .int 0, .int 0]))] H := hP
  replace hD : va_D A [(h0, .inr (8, [.int 0, .int 0, .int 0, .int 0]))] := hD
  refine lv_aload_n hx hb dX8_init_14 rfl (lv_at hl 0 rfl) ?_
  refine lv_iconst (v := 0) hx hb dX8_init_15 (by decide) ?_
  refine va_put (D := D) (ci := 8) (v := .int 0) (ty := .boolean) (C := RX8) (T := TX8) (N := 4) hx hb hts (fun _ h => List.mem_cons_of_mem _ (List.mem_append_right _ (h))) tyX8 tyX8_ok nmX8 hown hK hP hD hS 0 rfl rfl 2 (by decide) (hts (.fieldLink RX8 16 "Phaselock$SlipCounter" "hasStrobed" "Z") (List.mem_cons_of_mem _ (List.mem_append_left _ (List.mem_of_getElem? (i := 5) rfl)))) (fun _ h9 => h9) rfl (by decide +kernel) rfl rfl (Nat.le_of_ble_eq_true rfl) dX8_init_16 (fun H locs hP hD hS => ?_)
  replace hP : va_P D vwCl [(h0, .inr (8, [.int 0, .int 0, .int 0, .int 0]))] H := hP
  replace hD : va_D A [(h0, .inr (8, [.int 0, .int 0, .int 0, .int 0]))] := hD
  refine lv_aload_n hx hb dX8_init_19 rfl (lv_at hl 0 rfl) ?_
  refine lv_iconst (v := 0) hx hb dX8_init_20 (by decide) ?_
  refine va_put (D := D) (ci := 8) (v := .int 0) (ty := .int) (C := RX8) (T := TX8) (N := 4) hx hb hts (fun _ h => List.mem_cons_of_mem _ (List.mem_append_right _ (h))) tyX8 tyX8_ok nmX8 hown hK hP hD hS 0 rfl rfl 3 (by decide) (hts (.fieldLink RX8 20 "Phaselock$SlipCounter" "numberBefore" "I") (List.mem_cons_of_mem _ (List.mem_append_left _ (List.mem_of_getElem? (i := 6) rfl)))) (fun _ h9 => h9) rfl (by decide +kernel) rfl rfl (Nat.le_of_ble_eq_true rfl) dX8_init_21 (fun H locs hP hD hS => ?_)
  replace hP : va_P D vwCl [(h0, .inr (8, [.int 0, .int 0, .int 0, .int 0]))] H := hP
  replace hD : va_D A [(h0, .inr (8, [.int 0, .int 0, .int 0, .int 0]))] := hD
  exact W.vret hx hb hr (fun t ht hW => ⟨⟨(), rfl, trivial, by rw [ht]; exact hP, va_K.moved hW.alike hK, hD⟩, hS.F ht⟩) hS.2.2 dX8_init_24
def rm_X7_init : Room := { frames := 1, cells := 1, slots := 32, locals := 12 }
set_option maxRecDepth 100000 in
set_option maxHeartbeats 4000000 in
theorem k_X7_init (l : Launch) (D : va_G) (h0 sz : Nat) : Met l yX7_init wsX7_init rm_X7_init (va_Pc [.ref h0] (pW D [] [(h0, .inr (7, [.int 0, .int 0, .int 0, .null]))] sz nT)) (va_Qv (fun _ : Nat × ClassId => True) (fun u t => va_P D vwCl [(h0, .inr (7, [.int 0, .int 0, .int 0, .ref u.1])), (u.1, .inl (u.2, 32, .inl (fun _ => 0)))] t.heap ∧ va_K D vwCl [(u.2, .int)] t ∧ va_D (va_A [(h0, .inr (7, [.int 0, .int 0, .int 0, .null]))] sz) [(h0, .inr (7, [.int 0, .int 0, .int 0, .ref u.1])), (u.1, .inl (u.2, 32, .inl (fun _ => 0)))]) (va_A [(h0, .inr (7, [.int 0, .int 0, .int 0, .null]))] sz)) 1 32 (va_A [(h0, .inr (7, [.int 0, .int 0, .int 0, .null]))] sz) := by
  refine Met.ofW (cc := cX7_init) (maxL := 1) (ret := none) (by decide) rfl ?_
  intro p e s m args below meth c s₁ B hml hv
  obtain ⟨rfl, hsz, hP, hK, hD9, hN⟩ := hv
  have hx := B.exec
  have hb := B.bytes
  have hr := B.returns
  have hts := atoms_spec (ws := wsX7_init) B.pre
  have hown : s.vm.findClass RX7 = some m.cls := findClass_of_methodNamed B.named
  have hlocks := B.notSynchronized
  have hin : meth.name = "<init>" := (name_of_methodNamed B.named B.method).1
  subst hsz
  have hD := hD9.self (sz := s.heap.size)
  generalize hAe : va_A [(h0, .inr (7, [.int 0, .int 0, .int 0, .null]))] s.heap.size = A at hD ⊢
  have hA : ∀ q : Nat, s.heap.size ≤ q → A q := fun q h => by rw [← hAe]; exact Or.inr h
  have hS : va_S A s.heap s.heap [] := va_S.rf
  have hP : va_P D vwCl [(h0, .inr (7, [.int 0, .int 0, .int 0, .null]))] s.heap := hP
  have hl := lv_entry ([.ref h0]) (n := 1) (Nat.le_of_ble_eq_true rfl)
  rw [lg_entry_eq]
  generalize (lg_sl ([.ref h0]) ++ List.replicate (1 - (lg_sl ([.ref h0])).length) Slot.unset).toArray = ls at hl ⊢
  have hl : lv_has ls 1 [(0, .ref h0)] := hl
  clear hD9 B
  refine lv_aload_n hx hb dX7_init_0 rfl (lv_at hl 0 rfl) ?_
  refine W.objInit hx hb hown (hts (.methodLink RX7 3 objectInit) (List.mem_cons_of_mem _ (List.mem_append_left _ (List.mem_of_getElem? (i := 0) rfl)))) (hts (.instanceMethod objectInit) (List.mem_cons_of_mem _ (List.mem_append_left _ (List.mem_of_getElem? (i := 1) rfl)))) (hts _ (List.mem_cons_of_mem _ (List.mem_append_left _ (List.mem_of_getElem? (i := 2) rfl)))) rfl (by rw [hml]; exact hl.1) rfl dX7_init_1 (Nat.le_of_ble_eq_true rfl) (Nat.le_of_ble_eq_true rfl) ?_
  refine W.eq (g2 := F0 m 4 ls []) rfl ?_
  refine lv_aload_n hx hb dX7_init_4 rfl (lv_at hl 0 rfl) ?_
  refine lv_iconst (v := 0) hx hb dX7_init_5 (by decide) ?_
  refine va_put (D := D) (ci := 7) (v := .int 0) (ty := .int) (C := RX7) (T := TX7) (N := 4) hx hb hts (fun _ h => List.mem_cons_of_mem _ (List.mem_append_right _ (h))) tyX7 tyX7_ok nmX7 hown hK hP hD hS 0 rfl rfl 0 (by decide) (hts (.fieldLink RX7 9 "Phaselock$PhaseLog" "count" "I") (List.mem_cons_of_mem _ (List.mem_append_left _ (List.mem_of_getElem? (i := 3) rfl)))) (fun _ h9 => h9) rfl (by decide +kernel) rfl rfl (Nat.le_of_ble_eq_true rfl) dX7_init_6 (fun H locs hP hD hS => ?_)
  replace hP : va_P D vwCl [(h0, .inr (7, [.int 0, .int 0, .int 0, .null]))] H := hP
  replace hD : va_D A [(h0, .inr (7, [.int 0, .int 0, .int 0, .null]))] := hD
  refine lv_aload_n hx hb dX7_init_9 rfl (lv_at hl 0 rfl) ?_
  refine lv_iconst (v := 0) hx hb dX7_init_10 (by decide) ?_
  refine va_put (D := D) (ci := 7) (v := .int 0) (ty := .int) (C := RX7) (T := TX7) (N := 4) hx hb hts (fun _ h => List.mem_cons_of_mem _ (List.mem_append_right _ (h))) tyX7 tyX7_ok nmX7 hown hK hP hD hS 0 rfl rfl 1 (by decide) (hts (.fieldLink RX7 15 "Phaselock$PhaseLog" "latest" "I") (List.mem_cons_of_mem _ (List.mem_append_left _ (List.mem_of_getElem? (i := 4) rfl)))) (fun _ h9 => h9) rfl (by decide +kernel) rfl rfl (Nat.le_of_ble_eq_true rfl) dX7_init_11 (fun H locs hP hD hS => ?_)
  replace hP : va_P D vwCl [(h0, .inr (7, [.int 0, .int 0, .int 0, .null]))] H := hP
  replace hD : va_D A [(h0, .inr (7, [.int 0, .int 0, .int 0, .null]))] := hD
  refine lv_aload_n hx hb dX7_init_14 rfl (lv_at hl 0 rfl) ?_
  refine lv_iconst (v := 0) hx hb dX7_init_15 (by decide) ?_
  refine va_put (D := D) (ci := 7) (v := .int 0) (ty := .int) (C := RX7) (T := TX7) (N := 4) hx hb hts (fun _ h => List.mem_cons_of_mem _ (List.mem_append_right _ (h))) tyX7 tyX7_ok nmX7 hown hK hP hD hS 0 rfl rfl 2 (by decide) (hts (.fieldLink RX7 18 "Phaselock$PhaseLog" "steadyCount" "I") (List.mem_cons_of_mem _ (List.mem_append_left _ (List.mem_of_getElem? (i := 5) rfl)))) (fun _ h9 => h9) rfl (by decide +kernel) rfl rfl (Nat.le_of_ble_eq_true rfl) dX7_init_16 (fun H locs hP hD hS => ?_)
  replace hP : va_P D vwCl [(h0, .inr (7, [.int 0, .int 0, .int 0, .null]))] H := hP
  replace hD : va_D A [(h0, .inr (7, [.int 0, .int 0, .int 0, .null]))] := hD
  refine lv_aload_n hx hb dX7_init_19 rfl (lv_at hl 0 rfl) ?_
  refine lv_bipush (v := 32) hx hb dX7_init_20 (by decide) ?_
  refine va_newa (atype := .int) (ty := .int) (N' := 32) (a0 := (32, .inl (fun _ => 0))) hx hb (hts (.arrayClass .int) (List.mem_cons_of_mem _ (List.mem_append_left _ (List.mem_of_getElem? (i := 6) rfl)))) rfl hK hP hD hS hA (fun _ => rfl) (by decide) (by decide) (by decide) (Nat.le_of_ble_eq_true rfl) (Nat.le_of_ble_eq_true rfl) dX7_init_22 (fun q22 cA22 H hK hP hD hS => ?_)
  replace hP : va_P D vwCl [(h0, .inr (7, [.int 0, .int 0, .int 0, .null])), (q22, .inl (cA22, 32, .inl (fun _ => 0)))] H := hP
  replace hD : va_D A [(h0, .inr (7, [.int 0, .int 0, .int 0, .null])), (q22, .inl (cA22, 32, .inl (fun _ => 0)))] := hD
  replace hK : va_K D vwCl [(cA22, .int)] s := hK
  refine W.widen (k := 1) (n := 32) (by decide) (by decide) ?_
  refine va_putF (D := D) (ci := 7) (v := .ref q22) (ty := .array .int) (C := RX7) (T := TX7) (N := 4) hx hb hts (fun _ h => List.mem_cons_of_mem _ (List.mem_append_right _ (h))) tyX7 tyX7_ok nmX7 hown hK hP hD hS 0 rfl rfl 3 (by decide) (hts (.fieldLink RX7 21 "Phaselock$PhaseLog" "window" "[I") (List.mem_cons_of_mem _ (List.mem_append_left _ (List.mem_of_getElem? (i := 7) rfl)))) (fun _ h9 => h9) rfl hin rfl (by decide +kernel) rfl rfl (Nat.le_of_ble_eq_true rfl) dX7_init_24 (fun H locs hP hD hS => ?_)
  replace hP : va_P D vwCl [(h0, .inr (7, [.int 0, .int 0, .int 0, .ref q22])), (q22, .inl (cA22, 32, .inl (fun _ => 0)))] H := hP
  replace hD : va_D A [(h0, .inr (7, [.int 0, .int 0, .int 0, .ref q22])), (q22, .inl (cA22, 32, .inl (fun _ => 0)))] := hD
  exact W.vret hx hb hr (fun t ht hW => ⟨⟨(q22, cA22), rfl, trivial, by rw [ht]; exact hP, va_K.moved hW.alike hK, hD⟩, hS.F ht⟩) hS.2.2 dX7_init_27
def rm_X0_init : Room := { frames := 1, cells := 0, slots := 0, locals := 12 }
set_option maxRecDepth 100000 in
set_option maxHeartbeats 4000000 in
theorem k_X0_init (l : Launch) (D : va_G) (h0 sz : Nat) : Met l yX0_init wsX0_init rm_X0_init (va_Pc [.ref h0] (pW D [] [(h0, .inr (0, [.int 0, .int 0, .int 0, .int 0, .int 0, .int 0]))] sz nT)) (va_Qv (fun _ : Unit => True) (fun u t => va_P D vwCl [(h0, .inr (0, [.int 0, .int 0, .int 0, .int 0, .int 0, .int 0]))] t.heap ∧ va_K D vwCl [] t ∧ va_D (va_A [(h0, .inr (0, [.int 0, .int 0, .int 0, .int 0, .int 0, .int 0]))] sz) [(h0, .inr (0, [.int 0, .int 0, .int 0, .int 0, .int 0, .int 0]))]) (va_A [(h0, .inr (0, [.int 0, .int 0, .int 0, .int 0, .int 0, .int 0]))] sz)) 0 0 (va_A [(h0, .inr (0, [.int 0, .int 0, .int 0, .int 0, .int 0, .int 0]))] sz) := by
  refine Met.ofW (cc := cX0_init) (maxL := 1) (ret := none) (by decide) rfl ?_
  intro p e s m args below meth c s₁ B hml hv
  obtain ⟨rfl, hsz, hP, hK, hD9, hN⟩ := hv
  have hx := B.exec
  have hb := B.bytes
  have hr := B.returns
  have hts := atoms_spec (ws := wsX0_init) B.pre
  have hown : s.vm.findClass RX0 = some m.cls := findClass_of_methodNamed B.named
  have hlocks := B.notSynchronized
  have hin : meth.name = "<init>" := (name_of_methodNamed B.named B.method).1
  subst hsz
  have hD := hD9.self (sz := s.heap.size)
  generalize hAe : va_A [(h0, .inr (0, [.int 0, .int 0, .int 0, .int 0, .int 0, .int 0]))] s.heap.size = A at hD ⊢
  have hA : ∀ q : Nat, s.heap.size ≤ q → A q := fun q h => by rw [← hAe]; exact Or.inr h
  have hS : va_S A s.heap s.heap [] := va_S.rf
  have hP : va_P D vwCl [(h0, .inr (0, [.int 0, .int 0, .int 0, .int 0, .int 0, .int 0]))] s.heap := hP
  have hl := lv_entry ([.ref h0]) (n := 1) (Nat.le_of_ble_eq_true rfl)
  rw [lg_entry_eq]
  generalize (lg_sl ([.ref h0]) ++ List.replicate (1 - (lg_sl ([.ref h0])).length) Slot.unset).toArray = ls at hl ⊢
  have hl : lv_has ls 1 [(0, .ref h0)] := hl
  clear hD9 B
  refine lv_aload_n hx hb dX0_init_0 rfl (lv_at hl 0 rfl) ?_
  refine W.objInit hx hb hown (hts (.methodLink RX0 3 objectInit) (List.mem_cons_of_mem _ (List.mem_append_left _ (List.mem_of_getElem? (i := 0) rfl)))) (hts (.instanceMethod objectInit) (List.mem_cons_of_mem _ (List.mem_append_left _ (List.mem_of_getElem? (i := 1) rfl)))) (hts _ (List.mem_cons_of_mem _ (List.mem_append_left _ (List.mem_of_getElem? (i := 2) rfl)))) rfl (by rw [hml]; exact hl.1) rfl dX0_init_1 (Nat.le_of_ble_eq_true rfl) (Nat.le_of_ble_eq_true rfl) ?_
  refine W.eq (g2 := F0 m 4 ls []) rfl ?_
  refine lv_aload_n hx hb dX0_init_4 rfl (lv_at hl 0 rfl) ?_
  refine lv_iconst (v := 0) hx hb dX0_init_5 (by decide) ?_
  refine va_put (D := D) (ci := 0) (v := .int 0) (ty := .int) (C := RX0) (T := TX0) (N := 6) hx hb hts (fun _ h => List.mem_cons_of_mem _ (List.mem_append_right _ (h))) tyX0 tyX0_ok nmX0 hown hK hP hD hS 0 rfl rfl 0 (by decide) (hts (.fieldLink RX0 11 "Phaselock$Aligner" "state" "I") (List.mem_cons_of_mem _ (List.mem_append_left _ (List.mem_of_getElem? (i := 3) rfl)))) (fun _ h9 => h9) rfl (by decide +kernel) rfl rfl (Nat.le_of_ble_eq_true rfl) dX0_init_6 (fun H locs hP hD hS => ?_)
  replace hP : va_P D vwCl [(h0, .inr (0, [.int 0, .int 0, .int 0, .int 0, .int 0, .int 0]))] H := hP
  replace hD : va_D A [(h0, .inr (0, [.int 0, .int 0, .int 0, .int 0, .int 0, .int 0]))] := hD
  refine lv_aload_n hx hb dX0_init_9 rfl (lv_at hl 0 rfl) ?_
  refine lv_iconst (v := 0) hx hb dX0_init_10 (by decide) ?_
  refine va_put (D := D) (ci := 0) (v := .int 0) (ty := .int) (C := RX0) (T := TX0) (N := 6) hx hb hts (fun _ h => List.mem_cons_of_mem _ (List.mem_append_right _ (h))) tyX0 tyX0_ok nmX0 hown hK hP hD hS 0 rfl rfl 1 (by decide) (hts (.fieldLink RX0 15 "Phaselock$Aligner" "frames" "I") (List.mem_cons_of_mem _ (List.mem_append_left _ (List.mem_of_getElem? (i := 4) rfl)))) (fun _ h9 => h9) rfl (by decide +kernel) rfl rfl (Nat.le_of_ble_eq_true rfl) dX0_init_11 (fun H locs hP hD hS => ?_)
  replace hP : va_P D vwCl [(h0, .inr (0, [.int 0, .int 0, .int 0, .int 0, .int 0, .int 0]))] H := hP
  replace hD : va_D A [(h0, .inr (0, [.int 0, .int 0, .int 0, .int 0, .int 0, .int 0]))] := hD
  refine lv_aload_n hx hb dX0_init_14 rfl (lv_at hl 0 rfl) ?_
  refine lv_iconst (v := 0) hx hb dX0_init_15 (by decide) ?_
  refine va_put (D := D) (ci := 0) (v := .int 0) (ty := .int) (C := RX0) (T := TX0) (N := 6) hx hb hts (fun _ h => List.mem_cons_of_mem _ (List.mem_append_right _ (h))) tyX0 tyX0_ok nmX0 hown hK hP hD hS 0 rfl rfl 2 (by decide) (hts (.fieldLink RX0 18 "Phaselock$Aligner" "losses" "I") (List.mem_cons_of_mem _ (List.mem_append_left _ (List.mem_of_getElem? (i := 5) rfl)))) (fun _ h9 => h9) rfl (by decide +kernel) rfl rfl (Nat.le_of_ble_eq_true rfl) dX0_init_16 (fun H locs hP hD hS => ?_)
  replace hP : va_P D vwCl [(h0, .inr (0, [.int 0, .int 0, .int 0, .int 0, .int 0, .int 0]))] H := hP
  replace hD : va_D A [(h0, .inr (0, [.int 0, .int 0, .int 0, .int 0, .int 0, .int 0]))] := hD
  refine lv_aload_n hx hb dX0_init_19 rfl (lv_at hl 0 rfl) ?_
  refine lv_iconst (v := 0) hx hb dX0_init_20 (by decide) ?_
  refine va_put (D := D) (ci := 0) (v := .int 0) (ty := .int) (C := RX0) (T := TX0) (N := 6) hx hb hts (fun _ h => List.mem_cons_of_mem _ (List.mem_append_right _ (h))) tyX0 tyX0_ok nmX0 hown hK hP hD hS 0 rfl rfl 3 (by decide) (hts (.fieldLink RX0 21 "Phaselock$Aligner" "position" "I") (List.mem_cons_of_mem _ (List.mem_append_left _ (List.mem_of_getElem? (i := 6) rfl)))) (fun _ h9 => h9) rfl (by decide +kernel) rfl rfl (Nat.le_of_ble_eq_true rfl) dX0_init_21 (fun H locs hP hD hS => ?_)
  replace hP : va_P D vwCl [(h0, .inr (0, [.int 0, .int 0, .int 0, .int 0, .int 0, .int 0]))] H := hP
  replace hD : va_D A [(h0, .inr (0, [.int 0, .int 0, .int 0, .int 0, .int 0, .int 0]))] := hD
  refine lv_aload_n hx hb dX0_init_24 rfl (lv_at hl 0 rfl) ?_
  refine lv_iconst (v := 0) hx hb dX0_init_25 (by decide) ?_
  refine va_put (D := D) (ci := 0) (v := .int 0) (ty := .int) (C := RX0) (T := TX0) (N := 6) hx hb hts (fun _ h => List.mem_cons_of_mem _ (List.mem_append_right _ (h))) tyX0 tyX0_ok nmX0 hown hK hP hD hS 0 rfl rfl 4 (by decide) (hts (.fieldLink RX0 24 "Phaselock$Aligner" "matches" "I") (List.mem_cons_of_mem _ (List.mem_append_left _ (List.mem_of_getElem? (i := 7) rfl)))) (fun _ h9 => h9) rfl (by decide +kernel) rfl rfl (Nat.le_of_ble_eq_true rfl) dX0_init_26 (fun H locs hP hD hS => ?_)
  replace hP : va_P D vwCl [(h0, .inr (0, [.int 0, .int 0, .int 0, .int 0, .int 0, .int 0]))] H := hP
  replace hD : va_D A [(h0, .inr (0, [.int 0, .int 0, .int 0, .int 0, .int 0, .int 0]))] := hD
  refine lv_aload_n hx hb dX0_init_29 rfl (lv_at hl 0 rfl) ?_
  refine lv_iconst (v := 0) hx hb dX0_init_30 (by decide) ?_
  refine va_put (D := D) (ci := 0) (v := .int 0) (ty := .int) (C := RX0) (T := TX0) (N := 6) hx hb hts (fun _ h => List.mem_cons_of_mem _ (List.mem_append_right _ (h))) tyX0 tyX0_ok nmX0 hown hK hP hD hS 0 rfl rfl 5 (by decide) (hts (.fieldLink RX0 27 "Phaselock$Aligner" "misses" "I") (List.mem_cons_of_mem _ (List.mem_append_left _ (List.mem_of_getElem? (i := 8) rfl)))) (fun _ h9 => h9) rfl (by decide +kernel) rfl rfl (Nat.le_of_ble_eq_true rfl) dX0_init_31 (fun H locs hP hD hS => ?_)
  replace hP : va_P D vwCl [(h0, .inr (0, [.int 0, .int 0, .int 0, .int 0, .int 0, .int 0]))] H := hP
  replace hD : va_D A [(h0, .inr (0, [.int 0, .int 0, .int 0, .int 0, .int 0, .int 0]))] := hD
  exact W.vret hx hb hr (fun t ht hW => ⟨⟨(), rfl, trivial, by rw [ht]; exact hP, va_K.moved hW.alike hK, hD⟩, hS.F ht⟩) hS.2.2 dX0_init_34
/-- the links of the nest's constructors -/
def nC (U : State) : Prop := va_Nw (.methodLinkNest RX10 9 yX9_init RX10) U ∧ va_Nw (.methodLinkNest RX10 18 yX3_init RX10) U ∧ va_Nw (.methodLinkNest RX10 25 yX2_init RX10) U ∧ va_Nw (.methodLinkNest RX10 32 yX5_init RX10) U ∧ va_Nw (.methodLinkNest RX10 39 yX6_init RX10) U ∧ va_Nw (.methodLinkNest RX10 46 yX4_init RX10) U ∧ va_Nw (.methodLinkNest RX10 53 yX1_init RX10) U ∧ va_Nw (.methodLinkNest RX10 60 yX8_init RX10) U ∧ va_Nw (.methodLinkNest RX10 67 yX7_init RX10) U ∧ va_Nw (.methodLinkNest RX10 74 yX0_init RX10) U
theorem okN_C : okN nC := ⟨fun _ _ h q => by obtain ⟨a0, a1, a2, a3, a4, a5, a6, a7, a8, a9⟩ := q; exact ⟨va_Nw.same rfl h a0, va_Nw.same rfl h a1, va_Nw.same rfl h a2, va_Nw.same rfl h a3, va_Nw.same rfl h a4, va_Nw.same rfl h a5, va_Nw.same rfl h a6, va_Nw.same rfl h a7, va_Nw.same rfl h a8, va_Nw.same rfl h a9⟩, fun _ _ hW q => by obtain ⟨a0, a1, a2, a3, a4, a5, a6, a7, a8, a9⟩ := q; exact ⟨va_Nw.warmM hW a0, va_Nw.warmM hW a1, va_Nw.warmM hW a2, va_Nw.warmM hW a3, va_Nw.warmM hW a4, va_Nw.warmM hW a5, va_Nw.warmM hW a6, va_Nw.warmM hW a7, va_Nw.warmM hW a8, va_Nw.warmM hW a9⟩⟩
/-- the state at the start, of the class and of its check -/
def st0 : St := (fun k => if k = 2 then 4096 else if k = 6 then 127 else if k = 7 then 1 else if k = 8 then 65535 else if k = 16 then 8 else if k = 17 then 1 else 0, 1, fun _ => 0, fun _ => 0)
def rm_X10_init : Room := { frames := 2, cells := 12, slots := 327, locals := 32 }
set_option maxRecDepth 100000 in
set_option maxHeartbeats 4000000 in
theorem k_X10_init (l : Launch) (D : va_G) (h0 sz : Nat) : Met l yX10_init wsX10_init rm_X10_init (va_Pc [.ref h0] (pW D [] [(h0, .inr (10, [.null, .null, .null, .null, .null, .null, .null, .null, .null, .null]))] sz nC)) (va_Qv (fun u : (Nat → Nat) × ClassId × ClassId => u.1 0 = h0) (fun u t => va_P D vwCl (wP u.1 u.2.1 u.2.2 st0) t.heap ∧ va_K D vwCl (tyZI u.2.1 u.2.2) t ∧ va_D (va_A [(h0, .inr (10, [.null, .null, .null, .null, .null, .null, .null, .null, .null, .null]))] sz) (wP u.1 u.2.1 u.2.2 st0)) (va_A [(h0, .inr (10, [.null, .null, .null, .null, .null, .null, .null, .null, .null, .null]))] sz)) 12 327 (va_A [(h0, .inr (10, [.null, .null, .null, .null, .null, .null, .null, .null, .null, .null]))] sz) := by
  refine Met.ofW (cc := cX10_init) (maxL := 1) (ret := none) (by decide) rfl ?_
  intro p e s m args below meth c s₁ B hml hv
  obtain ⟨rfl, hsz, hP, hK, hD9, hN⟩ := hv
  have hx := B.exec
  have hb := B.bytes
  have hr := B.returns
  have hts := atoms_spec (ws := wsX10_init) B.pre
  have hown : s.vm.findClass RX10 = some m.cls := findClass_of_methodNamed B.named
  have hlocks := B.notSynchronized
  have hin : meth.name = "<init>" := (name_of_methodNamed B.named B.method).1
  subst hsz
  have hD := hD9.self (sz := s.heap.size)
  generalize hAe : va_A [(h0, .inr (10, [.null, .null, .null, .null, .null, .null, .null, .null, .null, .null]))] s.heap.size = A at hD ⊢
  have hA : ∀ q : Nat, s.heap.size ≤ q → A q := fun q h => by rw [← hAe]; exact Or.inr h
  have hS : va_S A s.heap s.heap [] := va_S.rf
  have hP : va_P D vwCl [(h0, .inr (10, [.null, .null, .null, .null, .null, .null, .null, .null, .null, .null]))] s.heap := hP
  have hl := lv_entry ([.ref h0]) (n := 1) (Nat.le_of_ble_eq_true rfl)
  rw [lg_entry_eq]
  generalize (lg_sl ([.ref h0]) ++ List.replicate (1 - (lg_sl ([.ref h0])).length) Slot.unset).toArray = ls at hl ⊢
  have hl : lv_has ls 1 [(0, .ref h0)] := hl
  clear hD9 B
  refine lv_aload_n hx hb dX10_init_0 rfl (lv_at hl 0 rfl) ?_
  refine W.objInit hx hb hown (hts (.methodLink RX10 1 objectInit) (List.mem_cons_of_mem _ (List.mem_append_left _ (List.mem_append_left _ (List.mem_append_left _ (List.mem_append_left _ (List.mem_append_left _ (List.mem_append_left _ (List.mem_append_left _ (List.mem_append_left _ (List.mem_append_left _ (List.mem_append_left _ (List.mem_append_left _ (List.mem_append_left _ (List.mem_of_getElem? (i := 0) rfl))))))))))))))) (hts (.instanceMethod objectInit) (List.mem_cons_of_mem _ (List.mem_append_left _ (List.mem_append_left _ (List.mem_append_left _ (List.mem_append_left _ (List.mem_append_left _ (List.mem_append_left _ (List.mem_append_left _ (List.mem_append_left _ (List.mem_append_left _ (List.mem_append_left _ (List.mem_append_left _ (List.mem_append_left _ (List.mem_of_getElem? (i := 1) rfl))))))))))))))) (hts _ (List.mem_cons_of_mem _ (List.mem_append_left _ (List.mem_append_left _ (List.mem_append_left _ (List.mem_append_left _ (List.mem_append_left _ (List.mem_append_left _ (List.mem_append_left _ (List.mem_append_left _ (List.mem_append_left _ (List.mem_append_left _ (List.mem_append_left _ (List.mem_append_left _ (List.mem_of_getElem? (i := 2) rfl))))))))))))))) rfl (by rw [hml]; exact hl.1) rfl dX10_init_1 (Nat.le_of_ble_eq_true rfl) (Nat.le_of_ble_eq_true rfl) ?_
  refine W.eq (g2 := F0 m 4 ls []) rfl ?_
  obtain ⟨n9, n18, n25, n32, n39, n46, n53, n60, n67, n74⟩ := id hN
  refine lv_aload_n hx hb dX10_init_4 rfl (lv_at hl 0 rfl) ?_
  refine va_new (ci := 9) (fs := [.int 0, .int 0, .int 0, .long 0, .int 0, .int 0, .int 0]) (C := RX9) (T := TX9) (N := 7) hx hb hts (fun _ h => List.mem_cons_of_mem _ (List.mem_append_left _ (List.mem_append_left _ (List.mem_append_left _ (List.mem_append_left _ (List.mem_append_left _ (List.mem_append_left _ (List.mem_append_left _ (List.mem_append_left _ (List.mem_append_left _ (List.mem_append_left _ (List.mem_append_right _ (h))))))))))))) tyX9 tyX9_ok hown (hts (.classLink RX10 7 RX9) (List.mem_cons_of_mem _ (List.mem_append_left _ (List.mem_append_left _ (List.mem_append_left _ (List.mem_append_left _ (List.mem_append_left _ (List.mem_append_left _ (List.mem_append_left _ (List.mem_append_left _ (List.mem_append_left _ (List.mem_append_left _ (List.mem_append_left _ (List.mem_append_left _ (List.mem_of_getElem? (i := 3) rfl))))))))))))))) (hts (.instantiable RX9 7) (List.mem_cons_of_mem _ (List.mem_append_left _ (List.mem_append_left _ (List.mem_append_left _ (List.mem_append_left _ (List.mem_append_left _ (List.mem_append_left _ (List.mem_append_left _ (List.mem_append_left _ (List.mem_append_left _ (List.mem_append_left _ (List.mem_append_left _ (List.mem_append_left _ (List.mem_of_getElem? (i := 4) rfl))))))))))))))) (hts (.initialized RX9) (List.mem_cons_of_mem _ (List.mem_append_left _ (List.mem_append_left _ (List.mem_append_left _ (List.mem_append_left _ (List.mem_append_left _ (List.mem_append_left _ (List.mem_append_left _ (List.mem_append_left _ (List.mem_append_left _ (List.mem_append_left _ (List.mem_append_left _ (List.mem_append_left _ (List.mem_of_getElem? (i := 5) rfl))))))))))))))) hK hP hD hS hA rfl (fun j hj => by rcases (show j = 0 ∨ j = 1 ∨ j = 2 ∨ j = 3 ∨ j = 4 ∨ j = 5 ∨ j = 6 by omega) with rfl | rfl | rfl | rfl | rfl | rfl | rfl <;> rfl) (Nat.le_of_ble_eq_true rfl) (Nat.le_of_ble_eq_true rfl) dX10_init_5 (fun q9 H hP hD hS => ?_)
  replace hP : va_P D vwCl [(h0, .inr (10, [.null, .null, .null, .null, .null, .null, .null, .null, .null, .null])), (q9, .inr (9, [.int 0, .int 0, .int 0, .long 0, .int 0, .int 0, .int 0]))] H := hP
  replace hD : va_D A [(h0, .inr (10, [.null, .null, .null, .null, .null, .null, .null, .null, .null, .null])), (q9, .inr (9, [.int 0, .int 0, .int 0, .long 0, .int 0, .int 0, .int 0]))] := hD
  refine W.widen (k := 1) (n := 7) (by decide) (by decide) ?_
  refine lv_dup hx hb dX10_init_8 rfl ?_
  have hPc := hP.sub (ws' := [(q9, .inr (9, [.int 0, .int 0, .int 0, .long 0, .int 0, .int 0, .int 0]))]) [1] rfl
  have hDc := hD.sub (ws' := [(q9, .inr (9, [.int 0, .int 0, .int 0, .long 0, .int 0, .int 0, .int 0]))]) [1] (by decide) rfl
  have hKc := hK.sub (tys' := []) [] rfl
  have hFc := va_free (wc := [(q9, .inr (9, [.int 0, .int 0, .int 0, .long 0, .int 0, .int 0, .int 0]))]) hD hS hA [1] rfl
  refine va_callv (va_runIN (As := []) (rest := [.ref q9, .ref h0]) ⟨hx, hb, hml, hown, hts⟩ (k_X9_init l D q9 H.size) ⟨va_cnB 0 hts gX10_init_X9_init_n9 rfl rfl rfl n9 (hts (.initialized RX9) (List.mem_cons_of_mem _ (List.mem_append_left _ (List.mem_append_left _ (List.mem_append_left _ (List.mem_append_left _ (List.mem_append_left _ (List.mem_append_left _ (List.mem_append_left _ (List.mem_append_left _ (List.mem_append_left _ (List.mem_append_left _ (List.mem_append_left _ (List.mem_append_left _ (List.mem_of_getElem? (i := 5) rfl))))))))))))))) (by decide +kernel) ⟨Nat.le_of_ble_eq_true rfl, Nat.le_of_ble_eq_true rfl⟩, rfl, (hts (.instanceMethod yX9_init) (List.mem_cons_of_mem _ (List.mem_append_left _ (List.mem_append_left _ (List.mem_append_left _ (List.mem_append_left _ (List.mem_append_left _ (List.mem_append_left _ (List.mem_append_left _ (List.mem_append_left _ (List.mem_append_left _ (List.mem_append_left _ (List.mem_append_left _ (List.mem_append_right _ (List.mem_append_left _ (List.mem_of_getElem? (i := 19) rfl))))))))))))))))⟩ ⟨blW okN_T, preW hPc hKc hDc okN_T trivial⟩ rfl rfl hl.1 rfl (lv_room (Nat.le_of_ble_eq_true rfl)) dX10_init_9 ⟨Nat.le_of_ble_eq_true rfl, Nat.le_of_ble_eq_true rfl⟩) hS (fun q _ h => hFc q h) hFc (fun u t H1 locs ht hvm hw hB hz1 hk1 hS => ?_)
  obtain ⟨hP1, hK1, hD1⟩ := hB
  rw [ht] at hP1
  replace hK1 := va_K.moved hvm.symm hK1
  replace hP1 : va_P D vwCl [(q9, .inr (9, [.int 0, .int 4096, .int 0, .long 1, .int 0, .int 1, .int 127]))] H1 := hP1
  replace hD1 : va_D (va_A [(q9, .inr (9, [.int 0, .int 0, .int 0, .long 0, .int 0, .int 0, .int 0]))] H.size) [(q9, .inr (9, [.int 0, .int 4096, .int 0, .long 1, .int 0, .int 1, .int 127]))] := hD1
  replace hK1 : va_K D vwCl [] s := hK1
  obtain ⟨hP9, hD9⟩ := va_join (wr := [(h0, .inr (10, [.null, .null, .null, .null, .null, .null, .null, .null, .null, .null]))]) (w1 := [(q9, .inr (9, [.int 0, .int 4096, .int 0, .long 1, .int 0, .int 1, .int 127]))]) hP hD [1] [0] rfl rfl (by decide) (by decide) hk1 hFc hP1 hD1
  clear hPc hDc hKc hFc hP1 hD1 hz1 hk1 hw ht hvm t
  replace hK : va_K D vwCl [] s := va_K.app hK hK1
  replace hP : va_P D vwCl [(h0, .inr (10, [.null, .null, .null, .null, .null, .null, .null, .null, .null, .null])), (q9, .inr (9, [.int 0, .int 4096, .int 0, .long 1, .int 0, .int 1, .int 127]))] H1 := hP9
  replace hD : va_D A [(h0, .inr (10, [.null, .null, .null, .null, .null, .null, .null, .null, .null, .null])), (q9, .inr (9, [.int 0, .int 4096, .int 0, .long 1, .int 0, .int 1, .int 127]))] := hD9
  clear hP9 hD9 hK1
  skip
  refine W.widen (k := 1) (n := 7) (by decide) (by decide) ?_
  refine va_putF (D := D) (ci := 10) (v := .ref q9) (ty := .object "Phaselock$Transmitter") (C := RX10) (T := TX10) (N := 10) hx hb hts (fun _ h => List.mem_cons_of_mem _ (List.mem_append_left _ (List.mem_append_left _ (List.mem_append_left _ (List.mem_append_left _ (List.mem_append_left _ (List.mem_append_left _ (List.mem_append_left _ (List.mem_append_left _ (List.mem_append_left _ (List.mem_append_right _ (h)))))))))))) tyX10 tyX10_ok nmX10 hown hK hP hD hS 0 rfl rfl 0 (by decide) (hts (.fieldLink RX10 10 "Phaselock" "transmitter" "LPhaselock$Transmitter;") (List.mem_cons_of_mem _ (List.mem_append_left _ (List.mem_append_left _ (List.mem_append_left _ (List.mem_append_left _ (List.mem_append_left _ (List.mem_append_left _ (List.mem_append_left _ (List.mem_append_left _ (List.mem_append_left _ (List.mem_append_left _ (List.mem_append_left _ (List.mem_append_left _ (List.mem_of_getElem? (i := 6) rfl))))))))))))))) (fun _ h9 => h9) rfl hin rfl (by decide +kernel) rfl rfl (Nat.le_of_ble_eq_true rfl) dX10_init_12 (fun H locs hP hD hS => ?_)
  replace hP : va_P D vwCl [(h0, .inr (10, [.ref q9, .null, .null, .null, .null, .null, .null, .null, .null, .null])), (q9, .inr (9, [.int 0, .int 4096, .int 0, .long 1, .int 0, .int 1, .int 127]))] H := hP
  replace hD : va_D A [(h0, .inr (10, [.ref q9, .null, .null, .null, .null, .null, .null, .null, .null, .null])), (q9, .inr (9, [.int 0, .int 4096, .int 0, .long 1, .int 0, .int 1, .int 127]))] := hD
  refine lv_aload_n hx hb dX10_init_15 rfl (lv_at hl 0 rfl) ?_
  refine va_new (ci := 3) (fs := [.int 0]) (C := RX3) (T := TX3) (N := 1) hx hb hts (fun _ h => List.mem_cons_of_mem _ (List.mem_append_left _ (List.mem_append_left _ (List.mem_append_left _ (List.mem_append_left _ (List.mem_append_left _ (List.mem_append_left _ (List.mem_append_left _ (List.mem_append_left _ (List.mem_append_right _ (h))))))))))) tyX3 tyX3_ok hown (hts (.classLink RX10 16 RX3) (List.mem_cons_of_mem _ (List.mem_append_left _ (List.mem_append_left _ (List.mem_append_left _ (List.mem_append_left _ (List.mem_append_left _ (List.mem_append_left _ (List.mem_append_left _ (List.mem_append_left _ (List.mem_append_left _ (List.mem_append_left _ (List.mem_append_left _ (List.mem_append_left _ (List.mem_of_getElem? (i := 7) rfl))))))))))))))) (hts (.instantiable RX3 1) (List.mem_cons_of_mem _ (List.mem_append_left _ (List.mem_append_left _ (List.mem_append_left _ (List.mem_append_left _ (List.mem_append_left _ (List.mem_append_left _ (List.mem_append_left _ (List.mem_append_left _ (List.mem_append_left _ (List.mem_append_left _ (List.mem_append_left _ (List.mem_append_left _ (List.mem_of_getElem? (i := 8) rfl))))))))))))))) (hts (.initialized RX3) (List.mem_cons_of_mem _ (List.mem_append_left _ (List.mem_append_left _ (List.mem_append_left _ (List.mem_append_left _ (List.mem_append_left _ (List.mem_append_left _ (List.mem_append_left _ (List.mem_append_left _ (List.mem_append_left _ (List.mem_append_left _ (List.mem_append_left _ (List.mem_append_left _ (List.mem_of_getElem? (i := 9) rfl))))))))))))))) hK hP hD hS hA rfl (fun j hj => by rcases (show j = 0 by omega) with rfl <;> rfl) (Nat.le_of_ble_eq_true rfl) (Nat.le_of_ble_eq_true rfl) dX10_init_16 (fun q3 H hP hD hS => ?_)
  replace hP : va_P D vwCl [(h0, .inr (10, [.ref q9, .null, .null, .null, .null, .null, .null, .null, .null, .null])), (q9, .inr (9, [.int 0, .int 4096, .int 0, .long 1, .int 0, .int 1, .int 127])), (q3, .inr (3, [.int 0]))] H := hP
  replace hD : va_D A [(h0, .inr (10, [.ref q9, .null, .null, .null, .null, .null, .null, .null, .null, .null])), (q9, .inr (9, [.int 0, .int 4096, .int 0, .long 1, .int 0, .int 1, .int 127])), (q3, .inr (3, [.int 0]))] := hD
  refine W.widen (k := 2) (n := 8) (by decide) (by decide) ?_
  refine lv_dup hx hb dX10_init_19 rfl ?_
  have hPc := hP.sub (ws' := [(q3, .inr (3, [.int 0]))]) [2] rfl
  have hDc := hD.sub (ws' := [(q3, .inr (3, [.int 0]))]) [2] (by decide) rfl
  have hKc := hK.sub (tys' := []) [] rfl
  have hFc := va_free (wc := [(q3, .inr (3, [.int 0]))]) hD hS hA [2] rfl
  refine va_callv (va_runIN (As := []) (rest := [.ref q3, .ref h0]) ⟨hx, hb, hml, hown, hts⟩ (k_X3_init l D q3 H.size) ⟨va_cnB 0 hts gX10_init_X3_init_n18 rfl rfl rfl n18 (hts (.initialized RX3) (List.mem_cons_of_mem _ (List.mem_append_left _ (List.mem_append_left _ (List.mem_append_left _ (List.mem_append_left _ (List.mem_append_left _ (List.mem_append_left _ (List.mem_append_left _ (List.mem_append_left _ (List.mem_append_left _ (List.mem_append_left _ (List.mem_append_left _ (List.mem_append_left _ (List.mem_of_getElem? (i := 9) rfl))))))))))))))) (by decide +kernel) ⟨Nat.le_of_ble_eq_true rfl, Nat.le_of_ble_eq_true rfl⟩, rfl, (hts (.instanceMethod yX3_init) (List.mem_cons_of_mem _ (List.mem_append_left _ (List.mem_append_left _ (List.mem_append_left _ (List.mem_append_left _ (List.mem_append_left _ (List.mem_append_left _ (List.mem_append_left _ (List.mem_append_left _ (List.mem_append_left _ (List.mem_append_left _ (List.mem_append_left _ (List.mem_append_right _ (List.mem_append_right _ (List.mem_append_left _ (List.mem_of_getElem? (i := 5) rfl)))))))))))))))))⟩ ⟨blW okN_T, preW hPc hKc hDc okN_T trivial⟩ rfl rfl hl.1 rfl (lv_room (Nat.le_of_ble_eq_true rfl)) dX10_init_20 ⟨Nat.le_of_ble_eq_true rfl, Nat.le_of_ble_eq_true rfl⟩) hS (fun q _ h => hFc q h) hFc (fun u t H1 locs ht hvm hw hB hz1 hk1 hS => ?_)
  obtain ⟨hP1, hK1, hD1⟩ := hB
  rw [ht] at hP1
  replace hK1 := va_K.moved hvm.symm hK1
  replace hP1 : va_P D vwCl [(q3, .inr (3, [.int 65535]))] H1 := hP1
  replace hD1 : va_D (va_A [(q3, .inr (3, [.int 0]))] H.size) [(q3, .inr (3, [.int 65535]))] := hD1
  replace hK1 : va_K D vwCl [] s := hK1
  obtain ⟨hP9, hD9⟩ := va_join (wr := [(h0, .inr (10, [.ref q9, .null, .null, .null, .null, .null, .null, .null, .null, .null])), (q9, .inr (9, [.int 0, .int 4096, .int 0, .long 1, .int 0, .int 1, .int 127]))]) (w1 := [(q3, .inr (3, [.int 65535]))]) hP hD [2] [0, 1] rfl rfl (by decide) (by decide) hk1 hFc hP1 hD1
  clear hPc hDc hKc hFc hP1 hD1 hz1 hk1 hw ht hvm t
  replace hK : va_K D vwCl [] s := va_K.app hK hK1
  replace hP : va_P D vwCl [(h0, .inr (10, [.ref q9, .null, .null, .null, .null, .null, .null, .null, .null, .null])), (q9, .inr (9, [.int 0, .int 4096, .int 0, .long 1, .int 0, .int 1, .int 127])), (q3, .inr (3, [.int 65535]))] H1 := hP9
  replace hD : va_D A [(h0, .inr (10, [.ref q9, .null, .null, .null, .null, .null, .null, .null, .null, .null])), (q9, .inr (9, [.int 0, .int 4096, .int 0, .long 1, .int 0, .int 1, .int 127])), (q3, .inr (3, [.int 65535]))] := hD9
  clear hP9 hD9 hK1
  skip
  refine W.widen (k := 2) (n := 8) (by decide) (by decide) ?_
  refine va_putF (D := D) (ci := 10) (v := .ref q3) (ty := .object "Phaselock$LineMemory") (C := RX10) (T := TX10) (N := 10) hx hb hts (fun _ h => List.mem_cons_of_mem _ (List.mem_append_left _ (List.mem_append_left _ (List.mem_append_left _ (List.mem_append_left _ (List.mem_append_left _ (List.mem_append_left _ (List.mem_append_left _ (List.mem_append_left _ (List.mem_append_left _ (List.mem_append_right _ (h)))))))))))) tyX10 tyX10_ok nmX10 hown hK hP hD hS 0 rfl rfl 1 (by decide) (hts (.fieldLink RX10 19 "Phaselock" "memory" "LPhaselock$LineMemory;") (List.mem_cons_of_mem _ (List.mem_append_left _ (List.mem_append_left _ (List.mem_append_left _ (List.mem_append_left _ (List.mem_append_left _ (List.mem_append_left _ (List.mem_append_left _ (List.mem_append_left _ (List.mem_append_left _ (List.mem_append_left _ (List.mem_append_left _ (List.mem_append_left _ (List.mem_of_getElem? (i := 10) rfl))))))))))))))) (fun _ h9 => h9) rfl hin rfl (by decide +kernel) rfl rfl (Nat.le_of_ble_eq_true rfl) dX10_init_23 (fun H locs hP hD hS => ?_)
  replace hP : va_P D vwCl [(h0, .inr (10, [.ref q9, .ref q3, .null, .null, .null, .null, .null, .null, .null, .null])), (q9, .inr (9, [.int 0, .int 4096, .int 0, .long 1, .int 0, .int 1, .int 127])), (q3, .inr (3, [.int 65535]))] H := hP
  replace hD : va_D A [(h0, .inr (10, [.ref q9, .ref q3, .null, .null, .null, .null, .null, .null, .null, .null])), (q9, .inr (9, [.int 0, .int 4096, .int 0, .long 1, .int 0, .int 1, .int 127])), (q3, .inr (3, [.int 65535]))] := hD
  refine lv_aload_n hx hb dX10_init_26 rfl (lv_at hl 0 rfl) ?_
  refine va_new (ci := 2) (fs := [.int 0, .null]) (C := RX2) (T := TX2) (N := 2) hx hb hts (fun _ h => List.mem_cons_of_mem _ (List.mem_append_left _ (List.mem_append_left _ (List.mem_append_left _ (List.mem_append_left _ (List.mem_append_left _ (List.mem_append_left _ (List.mem_append_left _ (List.mem_append_right _ (h)))))))))) tyX2 tyX2_ok hown (hts (.classLink RX10 23 RX2) (List.mem_cons_of_mem _ (List.mem_append_left _ (List.mem_append_left _ (List.mem_append_left _ (List.mem_append_left _ (List.mem_append_left _ (List.mem_append_left _ (List.mem_append_left _ (List.mem_append_left _ (List.mem_append_left _ (List.mem_append_left _ (List.mem_append_left _ (List.mem_append_left _ (List.mem_of_getElem? (i := 11) rfl))))))))))))))) (hts (.instantiable RX2 2) (List.mem_cons_of_mem _ (List.mem_append_left _ (List.mem_append_left _ (List.mem_append_left _ (List.mem_append_left _ (List.mem_append_left _ (List.mem_append_left _ (List.mem_append_left _ (List.mem_append_left _ (List.mem_append_left _ (List.mem_append_left _ (List.mem_append_left _ (List.mem_append_left _ (List.mem_of_getElem? (i := 12) rfl))))))))))))))) (hts (.initialized RX2) (List.mem_cons_of_mem _ (List.mem_append_left _ (List.mem_append_left _ (List.mem_append_left _ (List.mem_append_left _ (List.mem_append_left _ (List.mem_append_left _ (List.mem_append_left _ (List.mem_append_left _ (List.mem_append_left _ (List.mem_append_left _ (List.mem_append_left _ (List.mem_append_left _ (List.mem_of_getElem? (i := 13) rfl))))))))))))))) hK hP hD hS hA rfl (fun j hj => by rcases (show j = 0 ∨ j = 1 by omega) with rfl | rfl <;> rfl) (Nat.le_of_ble_eq_true rfl) (Nat.le_of_ble_eq_true rfl) dX10_init_27 (fun q2 H hP hD hS => ?_)
  replace hP : va_P D vwCl [(h0, .inr (10, [.ref q9, .ref q3, .null, .null, .null, .null, .null, .null, .null, .null])), (q9, .inr (9, [.int 0, .int 4096, .int 0, .long 1, .int 0, .int 1, .int 127])), (q3, .inr (3, [.int 65535])), (q2, .inr (2, [.int 0, .null]))] H := hP
  replace hD : va_D A [(h0, .inr (10, [.ref q9, .ref q3, .null, .null, .null, .null, .null, .null, .null, .null])), (q9, .inr (9, [.int 0, .int 4096, .int 0, .long 1, .int 0, .int 1, .int 127])), (q3, .inr (3, [.int 65535])), (q2, .inr (2, [.int 0, .null]))] := hD
  refine W.widen (k := 3) (n := 10) (by decide) (by decide) ?_
  refine lv_dup hx hb dX10_init_30 rfl ?_
  have hPc := hP.sub (ws' := [(q2, .inr (2, [.int 0, .null]))]) [3] rfl
  have hDc := hD.sub (ws' := [(q2, .inr (2, [.int 0, .null]))]) [3] (by decide) rfl
  have hKc := hK.sub (tys' := []) [] rfl
  have hFc := va_free (wc := [(q2, .inr (2, [.int 0, .null]))]) hD hS hA [3] rfl
  refine va_callv (va_runIN (As := []) (rest := [.ref q2, .ref h0]) ⟨hx, hb, hml, hown, hts⟩ (k_X2_init l D q2 H.size) ⟨va_cnB 0 hts gX10_init_X2_init_n25 rfl rfl rfl n25 (hts (.initialized RX2) (List.mem_cons_of_mem _ (List.mem_append_left _ (List.mem_append_left _ (List.mem_append_left _ (List.mem_append_left _ (List.mem_append_left _ (List.mem_append_left _ (List.mem_append_left _ (List.mem_append_left _ (List.mem_append_left _ (List.mem_append_left _ (List.mem_append_left _ (List.mem_append_left _ (List.mem_of_getElem? (i := 13) rfl))))))))))))))) (by decide +kernel) ⟨Nat.le_of_ble_eq_true rfl, Nat.le_of_ble_eq_true rfl⟩, rfl, (hts (.instanceMethod yX2_init) (List.mem_cons_of_mem _ (List.mem_append_left _ (List.mem_append_left _ (List.mem_append_left _ (List.mem_append_left _ (List.mem_append_left _ (List.mem_append_left _ (List.mem_append_left _ (List.mem_append_left _ (List.mem_append_left _ (List.mem_append_left _ (List.mem_append_left _ (List.mem_append_right _ (List.mem_append_right _ (List.mem_append_left _ (List.mem_of_getElem? (i := 10) rfl)))))))))))))))))⟩ ⟨blW okN_T, preW hPc hKc hDc okN_T trivial⟩ rfl rfl hl.1 rfl (lv_room (Nat.le_of_ble_eq_true rfl)) dX10_init_31 ⟨Nat.le_of_ble_eq_true rfl, Nat.le_of_ble_eq_true rfl⟩) hS (fun q _ h => hFc q h) hFc (fun u t H1 locs ht hvm hw hB hz1 hk1 hS => ?_)
  obtain ⟨hP1, hK1, hD1⟩ := hB
  rw [ht] at hP1
  replace hK1 := va_K.moved hvm.symm hK1
  obtain ⟨r2, cA2⟩ := u
  replace hP1 : va_P D vwCl [(q2, .inr (2, [.int 0, .ref r2])), (r2, .inl (cA2, 256, .inl (fun _ => 0)))] H1 := hP1
  replace hD1 : va_D (va_A [(q2, .inr (2, [.int 0, .null]))] H.size) [(q2, .inr (2, [.int 0, .ref r2])), (r2, .inl (cA2, 256, .inl (fun _ => 0)))] := hD1
  replace hK1 : va_K D vwCl [(cA2, .boolean)] s := hK1
  obtain ⟨hP9, hD9⟩ := va_join (wr := [(h0, .inr (10, [.ref q9, .ref q3, .null, .null, .null, .null, .null, .null, .null, .null])), (q9, .inr (9, [.int 0, .int 4096, .int 0, .long 1, .int 0, .int 1, .int 127])), (q3, .inr (3, [.int 65535]))]) (w1 := [(q2, .inr (2, [.int 0, .ref r2])), (r2, .inl (cA2, 256, .inl (fun _ => 0)))]) hP hD [3] [0, 1, 2] rfl rfl (by decide) (by decide) hk1 hFc hP1 hD1
  clear hPc hDc hKc hFc hP1 hD1 hz1 hk1 hw ht hvm t
  replace hK : va_K D vwCl [(cA2, .boolean)] s := va_K.app hK hK1
  replace hP : va_P D vwCl [(h0, .inr (10, [.ref q9, .ref q3, .null, .null, .null, .null, .null, .null, .null, .null])), (q9, .inr (9, [.int 0, .int 4096, .int 0, .long 1, .int 0, .int 1, .int 127])), (q3, .inr (3, [.int 65535])), (q2, .inr (2, [.int 0, .ref r2])), (r2, .inl (cA2, 256, .inl (fun _ => 0)))] H1 := hP9
  replace hD : va_D A [(h0, .inr (10, [.ref q9, .ref q3, .null, .null, .null, .null, .null, .null, .null, .null])), (q9, .inr (9, [.int 0, .int 4096, .int 0, .long 1, .int 0, .int 1, .int 127])), (q3, .inr (3, [.int 65535])), (q2, .inr (2, [.int 0, .ref r2])), (r2, .inl (cA2, 256, .inl (fun _ => 0)))] := hD9
  clear hP9 hD9 hK1
  skip
  refine W.widen (k := 4) (n := 266) (by decide) (by decide) ?_
  refine va_putF (D := D) (ci := 10) (v := .ref q2) (ty := .object "Phaselock$EdgeLog") (C := RX10) (T := TX10) (N := 10) hx hb hts (fun _ h => List.mem_cons_of_mem _ (List.mem_append_left _ (List.mem_append_left _ (List.mem_append_left _ (List.mem_append_left _ (List.mem_append_left _ (List.mem_append_left _ (List.mem_append_left _ (List.mem_append_left _ (List.mem_append_left _ (List.mem_append_right _ (h)))))))))))) tyX10 tyX10_ok nmX10 hown hK hP hD hS 0 rfl rfl 2 (by decide) (hts (.fieldLink RX10 26 "Phaselock" "edges" "LPhaselock$EdgeLog;") (List.mem_cons_of_mem _ (List.mem_append_left _ (List.mem_append_left _ (List.mem_append_left _ (List.mem_append_left _ (List.mem_append_left _ (List.mem_append_left _ (List.mem_append_left _ (List.mem_append_left _ (List.mem_append_left _ (List.mem_append_left _ (List.mem_append_left _ (List.mem_append_left _ (List.mem_of_getElem? (i := 14) rfl))))))))))))))) (fun _ h9 => h9) rfl hin rfl (by decide +kernel) rfl rfl (Nat.le_of_ble_eq_true rfl) dX10_init_34 (fun H locs hP hD hS => ?_)
  replace hP : va_P D vwCl [(h0, .inr (10, [.ref q9, .ref q3, .ref q2, .null, .null, .null, .null, .null, .null, .null])), (q9, .inr (9, [.int 0, .int 4096, .int 0, .long 1, .int 0, .int 1, .int 127])), (q3, .inr (3, [.int 65535])), (q2, .inr (2, [.int 0, .ref r2])), (r2, .inl (cA2, 256, .inl (fun _ => 0)))] H := hP
  replace hD : va_D A [(h0, .inr (10, [.ref q9, .ref q3, .ref q2, .null, .null, .null, .null, .null, .null, .null])), (q9, .inr (9, [.int 0, .int 4096, .int 0, .long 1, .int 0, .int 1, .int 127])), (q3, .inr (3, [.int 65535])), (q2, .inr (2, [.int 0, .ref r2])), (r2, .inl (cA2, 256, .inl (fun _ => 0)))] := hD
  refine lv_aload_n hx hb dX10_init_37 rfl (lv_at hl 0 rfl) ?_
  refine va_new (ci := 5) (fs := [.int 0]) (C := RX5) (T := TX5) (N := 1) hx hb hts (fun _ h => List.mem_cons_of_mem _ (List.mem_append_left _ (List.mem_append_left _ (List.mem_append_left _ (List.mem_append_left _ (List.mem_append_left _ (List.mem_append_left _ (List.mem_append_right _ (h))))))))) tyX5 tyX5_ok hown (hts (.classLink RX10 30 RX5) (List.mem_cons_of_mem _ (List.mem_append_left _ (List.mem_append_left _ (List.mem_append_left _ (List.mem_append_left _ (List.mem_append_left _ (List.mem_append_left _ (List.mem_append_left _ (List.mem_append_left _ (List.mem_append_left _ (List.mem_append_left _ (List.mem_append_left _ (List.mem_append_left _ (List.mem_of_getElem? (i := 15) rfl))))))))))))))) (hts (.instantiable RX5 1) (List.mem_cons_of_mem _ (List.mem_append_left _ (List.mem_append_left _ (List.mem_append_left _ (List.mem_append_left _ (List.mem_append_left _ (List.mem_append_left _ (List.mem_append_left _ (List.mem_append_left _ (List.mem_append_left _ (List.mem_append_left _ (List.mem_append_left _ (List.mem_append_left _ (List.mem_of_getElem? (i := 16) rfl))))))))))))))) (hts (.initialized RX5) (List.mem_cons_of_mem _ (List.mem_append_left _ (List.mem_append_left _ (List.mem_append_left _ (List.mem_append_left _ (List.mem_append_left _ (List.mem_append_left _ (List.mem_append_left _ (List.mem_append_left _ (List.mem_append_left _ (List.mem_append_left _ (List.mem_append_left _ (List.mem_append_left _ (List.mem_of_getElem? (i := 17) rfl))))))))))))))) hK hP hD hS hA rfl (fun j hj => by rcases (show j = 0 by omega) with rfl <;> rfl) (Nat.le_of_ble_eq_true rfl) (Nat.le_of_ble_eq_true rfl) dX10_init_38 (fun q5 H hP hD hS => ?_)
  replace hP : va_P D vwCl [(h0, .inr (10, [.ref q9, .ref q3, .ref q2, .null, .null, .null, .null, .null, .null, .null])), (q9, .inr (9, [.int 0, .int 4096, .int 0, .long 1, .int 0, .int 1, .int 127])), (q3, .inr (3, [.int 65535])), (q2, .inr (2, [.int 0, .ref r2])), (r2, .inl (cA2, 256, .inl (fun _ => 0))), (q5, .inr (5, [.int 0]))] H := hP
  replace hD : va_D A [(h0, .inr (10, [.ref q9, .ref q3, .ref q2, .null, .null, .null, .null, .null, .null, .null])), (q9, .inr (9, [.int 0, .int 4096, .int 0, .long 1, .int 0, .int 1, .int 127])), (q3, .inr (3, [.int 65535])), (q2, .inr (2, [.int 0, .ref r2])), (r2, .inl (cA2, 256, .inl (fun _ => 0))), (q5, .inr (5, [.int 0]))] := hD
  refine W.widen (k := 5) (n := 267) (by decide) (by decide) ?_
  refine lv_dup hx hb dX10_init_41 rfl ?_
  have hPc := hP.sub (ws' := [(q5, .inr (5, [.int 0]))]) [5] rfl
  have hDc := hD.sub (ws' := [(q5, .inr (5, [.int 0]))]) [5] (by decide) rfl
  have hKc := hK.sub (tys' := []) [] rfl
  have hFc := va_free (wc := [(q5, .inr (5, [.int 0]))]) hD hS hA [5] rfl
  refine va_callv (va_runIN (As := []) (rest := [.ref q5, .ref h0]) ⟨hx, hb, hml, hown, hts⟩ (k_X5_init l D q5 H.size) ⟨va_cnB 0 hts gX10_init_X5_init_n32 rfl rfl rfl n32 (hts (.initialized RX5) (List.mem_cons_of_mem _ (List.mem_append_left _ (List.mem_append_left _ (List.mem_append_left _ (List.mem_append_left _ (List.mem_append_left _ (List.mem_append_left _ (List.mem_append_left _ (List.mem_append_left _ (List.mem_append_left _ (List.mem_append_left _ (List.mem_append_left _ (List.mem_append_left _ (List.mem_of_getElem? (i := 17) rfl))))))))))))))) (by decide +kernel) ⟨Nat.le_of_ble_eq_true rfl, Nat.le_of_ble_eq_true rfl⟩, rfl, (hts (.instanceMethod yX5_init) (List.mem_cons_of_mem _ (List.mem_append_left _ (List.mem_append_left _ (List.mem_append_left _ (List.mem_append_left _ (List.mem_append_left _ (List.mem_append_left _ (List.mem_append_left _ (List.mem_append_left _ (List.mem_append_left _ (List.mem_append_left _ (List.mem_append_left _ (List.mem_append_right _ (List.mem_append_right _ (List.mem_append_left _ (List.mem_of_getElem? (i := 16) rfl)))))))))))))))))⟩ ⟨blW okN_T, preW hPc hKc hDc okN_T trivial⟩ rfl rfl hl.1 rfl (lv_room (Nat.le_of_ble_eq_true rfl)) dX10_init_42 ⟨Nat.le_of_ble_eq_true rfl, Nat.le_of_ble_eq_true rfl⟩) hS (fun q _ h => hFc q h) hFc (fun u t H1 locs ht hvm hw hB hz1 hk1 hS => ?_)
  obtain ⟨hP1, hK1, hD1⟩ := hB
  rw [ht] at hP1
  replace hK1 := va_K.moved hvm.symm hK1
  replace hP1 : va_P D vwCl [(q5, .inr (5, [.int 0]))] H1 := hP1
  replace hD1 : va_D (va_A [(q5, .inr (5, [.int 0]))] H.size) [(q5, .inr (5, [.int 0]))] := hD1
  replace hK1 : va_K D vwCl [] s := hK1
  obtain ⟨hP9, hD9⟩ := va_join (wr := [(h0, .inr (10, [.ref q9, .ref q3, .ref q2, .null, .null, .null, .null, .null, .null, .null])), (q9, .inr (9, [.int 0, .int 4096, .int 0, .long 1, .int 0, .int 1, .int 127])), (q3, .inr (3, [.int 65535])), (q2, .inr (2, [.int 0, .ref r2])), (r2, .inl (cA2, 256, .inl (fun _ => 0)))]) (w1 := [(q5, .inr (5, [.int 0]))]) hP hD [5] [0, 1, 2, 3, 4] rfl rfl (by decide) (by decide) hk1 hFc hP1 hD1
  clear hPc hDc hKc hFc hP1 hD1 hz1 hk1 hw ht hvm t
  replace hK : va_K D vwCl [(cA2, .boolean)] s := va_K.app hK hK1
  replace hP : va_P D vwCl [(h0, .inr (10, [.ref q9, .ref q3, .ref q2, .null, .null, .null, .null, .null, .null, .null])), (q9, .inr (9, [.int 0, .int 4096, .int 0, .long 1, .int 0, .int 1, .int 127])), (q3, .inr (3, [.int 65535])), (q2, .inr (2, [.int 0, .ref r2])), (r2, .inl (cA2, 256, .inl (fun _ => 0))), (q5, .inr (5, [.int 0]))] H1 := hP9
  replace hD : va_D A [(h0, .inr (10, [.ref q9, .ref q3, .ref q2, .null, .null, .null, .null, .null, .null, .null])), (q9, .inr (9, [.int 0, .int 4096, .int 0, .long 1, .int 0, .int 1, .int 127])), (q3, .inr (3, [.int 65535])), (q2, .inr (2, [.int 0, .ref r2])), (r2, .inl (cA2, 256, .inl (fun _ => 0))), (q5, .inr (5, [.int 0]))] := hD9
  clear hP9 hD9 hK1
  skip
  refine W.widen (k := 5) (n := 267) (by decide) (by decide) ?_
  refine va_putF (D := D) (ci := 10) (v := .ref q5) (ty := .object "Phaselock$Oscillator") (C := RX10) (T := TX10) (N := 10) hx hb hts (fun _ h => List.mem_cons_of_mem _ (List.mem_append_left _ (List.mem_append_left _ (List.mem_append_left _ (List.mem_append_left _ (List.mem_append_left _ (List.mem_append_left _ (List.mem_append_left _ (List.mem_append_left _ (List.mem_append_left _ (List.mem_append_right _ (h)))))))))))) tyX10 tyX10_ok nmX10 hown hK hP hD hS 0 rfl rfl 3 (by decide) (hts (.fieldLink RX10 33 "Phaselock" "oscillator" "LPhaselock$Oscillator;") (List.mem_cons_of_mem _ (List.mem_append_left _ (List.mem_append_left _ (List.mem_append_left _ (List.mem_append_left _ (List.mem_append_left _ (List.mem_append_left _ (List.mem_append_left _ (List.mem_append_left _ (List.mem_append_left _ (List.mem_append_left _ (List.mem_append_left _ (List.mem_append_left _ (List.mem_of_getElem? (i := 18) rfl))))))))))))))) (fun _ h9 => h9) rfl hin rfl (by decide +kernel) rfl rfl (Nat.le_of_ble_eq_true rfl) dX10_init_45 (fun H locs hP hD hS => ?_)
  replace hP : va_P D vwCl [(h0, .inr (10, [.ref q9, .ref q3, .ref q2, .ref q5, .null, .null, .null, .null, .null, .null])), (q9, .inr (9, [.int 0, .int 4096, .int 0, .long 1, .int 0, .int 1, .int 127])), (q3, .inr (3, [.int 65535])), (q2, .inr (2, [.int 0, .ref r2])), (r2, .inl (cA2, 256, .inl (fun _ => 0))), (q5, .inr (5, [.int 0]))] H := hP
  replace hD : va_D A [(h0, .inr (10, [.ref q9, .ref q3, .ref q2, .ref q5, .null, .null, .null, .null, .null, .null])), (q9, .inr (9, [.int 0, .int 4096, .int 0, .long 1, .int 0, .int 1, .int 127])), (q3, .inr (3, [.int 65535])), (q2, .inr (2, [.int 0, .ref r2])), (r2, .inl (cA2, 256, .inl (fun _ => 0))), (q5, .inr (5, [.int 0]))] := hD
  refine lv_aload_n hx hb dX10_init_48 rfl (lv_at hl 0 rfl) ?_
  refine va_new (ci := 6) (fs := [.int 0, .int 0, .int 0, .int 0, .int 0, .int 0, .int 0]) (C := RX6) (T := TX6) (N := 7) hx hb hts (fun _ h => List.mem_cons_of_mem _ (List.mem_append_left _ (List.mem_append_left _ (List.mem_append_left _ (List.mem_append_left _ (List.mem_append_left _ (List.mem_append_right _ (h)))))))) tyX6 tyX6_ok hown (hts (.classLink RX10 37 RX6) (List.mem_cons_of_mem _ (List.mem_append_left _ (List.mem_append_left _ (List.mem_append_left _ (List.mem_append_left _ (List.mem_append_left _ (List.mem_append_left _ (List.mem_append_left _ (List.mem_append_left _ (List.mem_append_left _ (List.mem_append_left _ (List.mem_append_left _ (List.mem_append_left _ (List.mem_of_getElem? (i := 19) rfl))))))))))))))) (hts (.instantiable RX6 7) (List.mem_cons_of_mem _ (List.mem_append_left _ (List.mem_append_left _ (List.mem_append_left _ (List.mem_append_left _ (List.mem_append_left _ (List.mem_append_left _ (List.mem_append_left _ (List.mem_append_left _ (List.mem_append_left _ (List.mem_append_left _ (List.mem_append_left _ (List.mem_append_left _ (List.mem_of_getElem? (i := 20) rfl))))))))))))))) (hts (.initialized RX6) (List.mem_cons_of_mem _ (List.mem_append_left _ (List.mem_append_left _ (List.mem_append_left _ (List.mem_append_left _ (List.mem_append_left _ (List.mem_append_left _ (List.mem_append_left _ (List.mem_append_left _ (List.mem_append_left _ (List.mem_append_left _ (List.mem_append_left _ (List.mem_append_left _ (List.mem_of_getElem? (i := 21) rfl))))))))))))))) hK hP hD hS hA rfl (fun j hj => by rcases (show j = 0 ∨ j = 1 ∨ j = 2 ∨ j = 3 ∨ j = 4 ∨ j = 5 ∨ j = 6 by omega) with rfl | rfl | rfl | rfl | rfl | rfl | rfl <;> rfl) (Nat.le_of_ble_eq_true rfl) (Nat.le_of_ble_eq_true rfl) dX10_init_49 (fun q6 H hP hD hS => ?_)
  replace hP : va_P D vwCl [(h0, .inr (10, [.ref q9, .ref q3, .ref q2, .ref q5, .null, .null, .null, .null, .null, .null])), (q9, .inr (9, [.int 0, .int 4096, .int 0, .long 1, .int 0, .int 1, .int 127])), (q3, .inr (3, [.int 65535])), (q2, .inr (2, [.int 0, .ref r2])), (r2, .inl (cA2, 256, .inl (fun _ => 0))), (q5, .inr (5, [.int 0])), (q6, .inr (6, [.int 0, .int 0, .int 0, .int 0, .int 0, .int 0, .int 0]))] H := hP
  replace hD : va_D A [(h0, .inr (10, [.ref q9, .ref q3, .ref q2, .ref q5, .null, .null, .null, .null, .null, .null])), (q9, .inr (9, [.int 0, .int 4096, .int 0, .long 1, .int 0, .int 1, .int 127])), (q3, .inr (3, [.int 65535])), (q2, .inr (2, [.int 0, .ref r2])), (r2, .inl (cA2, 256, .inl (fun _ => 0))), (q5, .inr (5, [.int 0])), (q6, .inr (6, [.int 0, .int 0, .int 0, .int 0, .int 0, .int 0, .int 0]))] := hD
  refine W.widen (k := 6) (n := 274) (by decide) (by decide) ?_
  refine lv_dup hx hb dX10_init_52 rfl ?_
  have hPc := hP.sub (ws' := [(q6, .inr (6, [.int 0, .int 0, .int 0, .int 0, .int 0, .int 0, .int 0]))]) [6] rfl
  have hDc := hD.sub (ws' := [(q6, .inr (6, [.int 0, .int 0, .int 0, .int 0, .int 0, .int 0, .int 0]))]) [6] (by decide) rfl
  have hKc := hK.sub (tys' := []) [] rfl
  have hFc := va_free (wc := [(q6, .inr (6, [.int 0, .int 0, .int 0, .int 0, .int 0, .int 0, .int 0]))]) hD hS hA [6] rfl
  refine va_callv (va_runIN (As := []) (rest := [.ref q6, .ref h0]) ⟨hx, hb, hml, hown, hts⟩ (k_X6_init l D q6 H.size) ⟨va_cnB 0 hts gX10_init_X6_init_n39 rfl rfl rfl n39 (hts (.initialized RX6) (List.mem_cons_of_mem _ (List.mem_append_left _ (List.mem_append_left _ (List.mem_append_left _ (List.mem_append_left _ (List.mem_append_left _ (List.mem_append_left _ (List.mem_append_left _ (List.mem_append_left _ (List.mem_append_left _ (List.mem_append_left _ (List.mem_append_left _ (List.mem_append_left _ (List.mem_of_getElem? (i := 21) rfl))))))))))))))) (by decide +kernel) ⟨Nat.le_of_ble_eq_true rfl, Nat.le_of_ble_eq_true rfl⟩, rfl, (hts (.instanceMethod yX6_init) (List.mem_cons_of_mem _ (List.mem_append_left _ (List.mem_append_left _ (List.mem_append_left _ (List.mem_append_left _ (List.mem_append_left _ (List.mem_append_left _ (List.mem_append_left _ (List.mem_append_left _ (List.mem_append_left _ (List.mem_append_left _ (List.mem_append_left _ (List.mem_append_right _ (List.mem_append_right _ (List.mem_append_left _ (List.mem_of_getElem? (i := 20) rfl)))))))))))))))))⟩ ⟨blW okN_T, preW hPc hKc hDc okN_T trivial⟩ rfl rfl hl.1 rfl (lv_room (Nat.le_of_ble_eq_true rfl)) dX10_init_53 ⟨Nat.le_of_ble_eq_true rfl, Nat.le_of_ble_eq_true rfl⟩) hS (fun q _ h => hFc q h) hFc (fun u t H1 locs ht hvm hw hB hz1 hk1 hS => ?_)
  obtain ⟨hP1, hK1, hD1⟩ := hB
  rw [ht] at hP1
  replace hK1 := va_K.moved hvm.symm hK1
  replace hP1 : va_P D vwCl [(q6, .inr (6, [.int 0, .int 0, .int 0, .int 0, .int 0, .int 0, .int 0]))] H1 := hP1
  replace hD1 : va_D (va_A [(q6, .inr (6, [.int 0, .int 0, .int 0, .int 0, .int 0, .int 0, .int 0]))] H.size) [(q6, .inr (6, [.int 0, .int 0, .int 0, .int 0, .int 0, .int 0, .int 0]))] := hD1
  replace hK1 : va_K D vwCl [] s := hK1
  obtain ⟨hP9, hD9⟩ := va_join (wr := [(h0, .inr (10, [.ref q9, .ref q3, .ref q2, .ref q5, .null, .null, .null, .null, .null, .null])), (q9, .inr (9, [.int 0, .int 4096, .int 0, .long 1, .int 0, .int 1, .int 127])), (q3, .inr (3, [.int 65535])), (q2, .inr (2, [.int 0, .ref r2])), (r2, .inl (cA2, 256, .inl (fun _ => 0))), (q5, .inr (5, [.int 0]))]) (w1 := [(q6, .inr (6, [.int 0, .int 0, .int 0, .int 0, .int 0, .int 0, .int 0]))]) hP hD [6] [0, 1, 2, 3, 4, 5] rfl rfl (by decide) (by decide) hk1 hFc hP1 hD1
  clear hPc hDc hKc hFc hP1 hD1 hz1 hk1 hw ht hvm t
  replace hK : va_K D vwCl [(cA2, .boolean)] s := va_K.app hK hK1
  replace hP : va_P D vwCl [(h0, .inr (10, [.ref q9, .ref q3, .ref q2, .ref q5, .null, .null, .null, .null, .null, .null])), (q9, .inr (9, [.int 0, .int 4096, .int 0, .long 1, .int 0, .int 1, .int 127])), (q3, .inr (3, [.int 65535])), (q2, .inr (2, [.int 0, .ref r2])), (r2, .inl (cA2, 256, .inl (fun _ => 0))), (q5, .inr (5, [.int 0])), (q6, .inr (6, [.int 0, .int 0, .int 0, .int 0, .int 0, .int 0, .int 0]))] H1 := hP9
  replace hD : va_D A [(h0, .inr (10, [.ref q9, .ref q3, .ref q2, .ref q5, .null, .null, .null, .null, .null, .null])), (q9, .inr (9, [.int 0, .int 4096, .int 0, .long 1, .int 0, .int 1, .int 127])), (q3, .inr (3, [.int 65535])), (q2, .inr (2, [.int 0, .ref r2])), (r2, .inl (cA2, 256, .inl (fun _ => 0))), (q5, .inr (5, [.int 0])), (q6, .inr (6, [.int 0, .int 0, .int 0, .int 0, .int 0, .int 0, .int 0]))] := hD9
  clear hP9 hD9 hK1
  skip
  refine W.widen (k := 6) (n := 274) (by decide) (by decide) ?_
  refine va_putF (D := D) (ci := 10) (v := .ref q6) (ty := .object "Phaselock$PhaseDetector") (C := RX10) (T := TX10) (N := 10) hx hb hts (fun _ h => List.mem_cons_of_mem _ (List.mem_append_left _ (List.mem_append_left _ (List.mem_append_left _ (List.mem_append_left _ (List.mem_append_left _ (List.mem_append_left _ (List.mem_append_left _ (List.mem_append_left _ (List.mem_append_left _ (List.mem_append_right _ (h)))))))))))) tyX10 tyX10_ok nmX10 hown hK hP hD hS 0 rfl rfl 4 (by decide) (hts (.fieldLink RX10 40 "Phaselock" "detector" "LPhaselock$PhaseDetector;") (List.mem_cons_of_mem _ (List.mem_append_left _ (List.mem_append_left _ (List.mem_append_left _ (List.mem_append_left _ (List.mem_append_left _ (List.mem_append_left _ (List.mem_append_left _ (List.mem_append_left _ (List.mem_append_left _ (List.mem_append_left _ (List.mem_append_left _ (List.mem_append_left _ (List.mem_of_getElem? (i := 22) rfl))))))))))))))) (fun _ h9 => h9) rfl hin rfl (by decide +kernel) rfl rfl (Nat.le_of_ble_eq_true rfl) dX10_init_56 (fun H locs hP hD hS => ?_)
  replace hP : va_P D vwCl [(h0, .inr (10, [.ref q9, .ref q3, .ref q2, .ref q5, .ref q6, .null, .null, .null, .null, .null])), (q9, .inr (9, [.int 0, .int 4096, .int 0, .long 1, .int 0, .int 1, .int 127])), (q3, .inr (3, [.int 65535])), (q2, .inr (2, [.int 0, .ref r2])), (r2, .inl (cA2, 256, .inl (fun _ => 0))), (q5, .inr (5, [.int 0])), (q6, .inr (6, [.int 0, .int 0, .int 0, .int 0, .int 0, .int 0, .int 0]))] H := hP
  replace hD : va_D A [(h0, .inr (10, [.ref q9, .ref q3, .ref q2, .ref q5, .ref q6, .null, .null, .null, .null, .null])), (q9, .inr (9, [.int 0, .int 4096, .int 0, .long 1, .int 0, .int 1, .int 127])), (q3, .inr (3, [.int 65535])), (q2, .inr (2, [.int 0, .ref r2])), (r2, .inl (cA2, 256, .inl (fun _ => 0))), (q5, .inr (5, [.int 0])), (q6, .inr (6, [.int 0, .int 0, .int 0, .int 0, .int 0, .int 0, .int 0]))] := hD
  refine lv_aload_n hx hb dX10_init_59 rfl (lv_at hl 0 rfl) ?_
  refine va_new (ci := 4) (fs := [.int 0, .int 0, .int 0, .int 0, .int 0]) (C := RX4) (T := TX4) (N := 5) hx hb hts (fun _ h => List.mem_cons_of_mem _ (List.mem_append_left _ (List.mem_append_left _ (List.mem_append_left _ (List.mem_append_left _ (List.mem_append_right _ (h))))))) tyX4 tyX4_ok hown (hts (.classLink RX10 44 RX4) (List.mem_cons_of_mem _ (List.mem_append_left _ (List.mem_append_left _ (List.mem_append_left _ (List.mem_append_left _ (List.mem_append_left _ (List.mem_append_left _ (List.mem_append_left _ (List.mem_append_left _ (List.mem_append_left _ (List.mem_append_left _ (List.mem_append_left _ (List.mem_append_left _ (List.mem_of_getElem? (i := 23) rfl))))))))))))))) (hts (.instantiable RX4 5) (List.mem_cons_of_mem _ (List.mem_append_left _ (List.mem_append_left _ (List.mem_append_left _ (List.mem_append_left _ (List.mem_append_left _ (List.mem_append_left _ (List.mem_append_left _ (List.mem_append_left _ (List.mem_append_left _ (List.mem_append_left _ (List.mem_append_left _ (List.mem_append_right _ (List.mem_append_left _ (List.mem_of_getElem? (i := 0) rfl)))))))))))))))) (hts (.initialized RX4) (List.mem_cons_of_mem _ (List.mem_append_left _ (List.mem_append_left _ (List.mem_append_left _ (List.mem_append_left _ (List.mem_append_left _ (List.mem_append_left _ (List.mem_append_left _ (List.mem_append_left _ (List.mem_append_left _ (List.mem_append_left _ (List.mem_append_left _ (List.mem_append_right _ (List.mem_append_left _ (List.mem_of_getElem? (i := 1) rfl)))))))))))))))) hK hP hD hS hA rfl (fun j hj => by rcases (show j = 0 ∨ j = 1 ∨ j = 2 ∨ j = 3 ∨ j = 4 by omega) with rfl | rfl | rfl | rfl | rfl <;> rfl) (Nat.le_of_ble_eq_true rfl) (Nat.le_of_ble_eq_true rfl) dX10_init_60 (fun q4 H hP hD hS => ?_)
  replace hP : va_P D vwCl [(h0, .inr (10, [.ref q9, .ref q3, .ref q2, .ref q5, .ref q6, .null, .null, .null, .null, .null])), (q9, .inr (9, [.int 0, .int 4096, .int 0, .long 1, .int 0, .int 1, .int 127])), (q3, .inr (3, [.int 65535])), (q2, .inr (2, [.int 0, .ref r2])), (r2, .inl (cA2, 256, .inl (fun _ => 0))), (q5, .inr (5, [.int 0])), (q6, .inr (6, [.int 0, .int 0, .int 0, .int 0, .int 0, .int 0, .int 0])), (q4, .inr (4, [.int 0, .int 0, .int 0, .int 0, .int 0]))] H := hP
  replace hD : va_D A [(h0, .inr (10, [.ref q9, .ref q3, .ref q2, .ref q5, .ref q6, .null, .null, .null, .null, .null])), (q9, .inr (9, [.int 0, .int 4096, .int 0, .long 1, .int 0, .int 1, .int 127])), (q3, .inr (3, [.int 65535])), (q2, .inr (2, [.int 0, .ref r2])), (r2, .inl (cA2, 256, .inl (fun _ => 0))), (q5, .inr (5, [.int 0])), (q6, .inr (6, [.int 0, .int 0, .int 0, .int 0, .int 0, .int 0, .int 0])), (q4, .inr (4, [.int 0, .int 0, .int 0, .int 0, .int 0]))] := hD
  refine W.widen (k := 7) (n := 279) (by decide) (by decide) ?_
  refine lv_dup hx hb dX10_init_63 rfl ?_
  have hPc := hP.sub (ws' := [(q4, .inr (4, [.int 0, .int 0, .int 0, .int 0, .int 0]))]) [7] rfl
  have hDc := hD.sub (ws' := [(q4, .inr (4, [.int 0, .int 0, .int 0, .int 0, .int 0]))]) [7] (by decide) rfl
  have hKc := hK.sub (tys' := []) [] rfl
  have hFc := va_free (wc := [(q4, .inr (4, [.int 0, .int 0, .int 0, .int 0, .int 0]))]) hD hS hA [7] rfl
  refine va_callv (va_runIN (As := []) (rest := [.ref q4, .ref h0]) ⟨hx, hb, hml, hown, hts⟩ (k_X4_init l D q4 H.size) ⟨va_cnB 0 hts gX10_init_X4_init_n46 rfl rfl rfl n46 (hts (.initialized RX4) (List.mem_cons_of_mem _ (List.mem_append_left _ (List.mem_append_left _ (List.mem_append_left _ (List.mem_append_left _ (List.mem_append_left _ (List.mem_append_left _ (List.mem_append_left _ (List.mem_append_left _ (List.mem_append_left _ (List.mem_append_left _ (List.mem_append_left _ (List.mem_append_right _ (List.mem_append_left _ (List.mem_of_getElem? (i := 1) rfl)))))))))))))))) (by decide +kernel) ⟨Nat.le_of_ble_eq_true rfl, Nat.le_of_ble_eq_true rfl⟩, rfl, (hts (.instanceMethod yX4_init) (List.mem_cons_of_mem _ (List.mem_append_left _ (List.mem_append_left _ (List.mem_append_left _ (List.mem_append_left _ (List.mem_append_left _ (List.mem_append_left _ (List.mem_append_left _ (List.mem_append_left _ (List.mem_append_left _ (List.mem_append_left _ (List.mem_append_left _ (List.mem_append_right _ (List.mem_append_right _ (List.mem_append_right _ (List.mem_append_left _ (List.mem_of_getElem? (i := 6) rfl))))))))))))))))))⟩ ⟨blW okN_T, preW hPc hKc hDc okN_T trivial⟩ rfl rfl hl.1 rfl (lv_room (Nat.le_of_ble_eq_true rfl)) dX10_init_64 ⟨Nat.le_of_ble_eq_true rfl, Nat.le_of_ble_eq_true rfl⟩) hS (fun q _ h => hFc q h) hFc (fun u t H1 locs ht hvm hw hB hz1 hk1 hS => ?_)
  obtain ⟨hP1, hK1, hD1⟩ := hB
  rw [ht] at hP1
  replace hK1 := va_K.moved hvm.symm hK1
  replace hP1 : va_P D vwCl [(q4, .inr (4, [.int 8, .int 1, .int 0, .int 0, .int 0]))] H1 := hP1
  replace hD1 : va_D (va_A [(q4, .inr (4, [.int 0, .int 0, .int 0, .int 0, .int 0]))] H.size) [(q4, .inr (4, [.int 8, .int 1, .int 0, .int 0, .int 0]))] := hD1
  replace hK1 : va_K D vwCl [] s := hK1
  obtain ⟨hP9, hD9⟩ := va_join (wr := [(h0, .inr (10, [.ref q9, .ref q3, .ref q2, .ref q5, .ref q6, .null, .null, .null, .null, .null])), (q9, .inr (9, [.int 0, .int 4096, .int 0, .long 1, .int 0, .int 1, .int 127])), (q3, .inr (3, [.int 65535])), (q2, .inr (2, [.int 0, .ref r2])), (r2, .inl (cA2, 256, .inl (fun _ => 0))), (q5, .inr (5, [.int 0])), (q6, .inr (6, [.int 0, .int 0, .int 0, .int 0, .int 0, .int 0, .int 0]))]) (w1 := [(q4, .inr (4, [.int 8, .int 1, .int 0, .int 0, .int 0]))]) hP hD [7] [0, 1, 2, 3, 4, 5, 6] rfl rfl (by decide) (by decide) hk1 hFc hP1 hD1
  clear hPc hDc hKc hFc hP1 hD1 hz1 hk1 hw ht hvm t
  replace hK : va_K D vwCl [(cA2, .boolean)] s := va_K.app hK hK1
  replace hP : va_P D vwCl [(h0, .inr (10, [.ref q9, .ref q3, .ref q2, .ref q5, .ref q6, .null, .null, .null, .null, .null])), (q9, .inr (9, [.int 0, .int 4096, .int 0, .long 1, .int 0, .int 1, .int 127])), (q3, .inr (3, [.int 65535])), (q2, .inr (2, [.int 0, .ref r2])), (r2, .inl (cA2, 256, .inl (fun _ => 0))), (q5, .inr (5, [.int 0])), (q6, .inr (6, [.int 0, .int 0, .int 0, .int 0, .int 0, .int 0, .int 0])), (q4, .inr (4, [.int 8, .int 1, .int 0, .int 0, .int 0]))] H1 := hP9
  replace hD : va_D A [(h0, .inr (10, [.ref q9, .ref q3, .ref q2, .ref q5, .ref q6, .null, .null, .null, .null, .null])), (q9, .inr (9, [.int 0, .int 4096, .int 0, .long 1, .int 0, .int 1, .int 127])), (q3, .inr (3, [.int 65535])), (q2, .inr (2, [.int 0, .ref r2])), (r2, .inl (cA2, 256, .inl (fun _ => 0))), (q5, .inr (5, [.int 0])), (q6, .inr (6, [.int 0, .int 0, .int 0, .int 0, .int 0, .int 0, .int 0])), (q4, .inr (4, [.int 8, .int 1, .int 0, .int 0, .int 0]))] := hD9
  clear hP9 hD9 hK1
  skip
  refine W.widen (k := 7) (n := 279) (by decide) (by decide) ?_
  refine va_putF (D := D) (ci := 10) (v := .ref q4) (ty := .object "Phaselock$LoopFilter") (C := RX10) (T := TX10) (N := 10) hx hb hts (fun _ h => List.mem_cons_of_mem _ (List.mem_append_left _ (List.mem_append_left _ (List.mem_append_left _ (List.mem_append_left _ (List.mem_append_left _ (List.mem_append_left _ (List.mem_append_left _ (List.mem_append_left _ (List.mem_append_left _ (List.mem_append_right _ (h)))))))))))) tyX10 tyX10_ok nmX10 hown hK hP hD hS 0 rfl rfl 5 (by decide) (hts (.fieldLink RX10 47 "Phaselock" "filter" "LPhaselock$LoopFilter;") (List.mem_cons_of_mem _ (List.mem_append_left _ (List.mem_append_left _ (List.mem_append_left _ (List.mem_append_left _ (List.mem_append_left _ (List.mem_append_left _ (List.mem_append_left _ (List.mem_append_left _ (List.mem_append_left _ (List.mem_append_left _ (List.mem_append_left _ (List.mem_append_right _ (List.mem_append_left _ (List.mem_of_getElem? (i := 2) rfl)))))))))))))))) (fun _ h9 => h9) rfl hin rfl (by decide +kernel) rfl rfl (Nat.le_of_ble_eq_true rfl) dX10_init_67 (fun H locs hP hD hS => ?_)
  replace hP : va_P D vwCl [(h0, .inr (10, [.ref q9, .ref q3, .ref q2, .ref q5, .ref q6, .ref q4, .null, .null, .null, .null])), (q9, .inr (9, [.int 0, .int 4096, .int 0, .long 1, .int 0, .int 1, .int 127])), (q3, .inr (3, [.int 65535])), (q2, .inr (2, [.int 0, .ref r2])), (r2, .inl (cA2, 256, .inl (fun _ => 0))), (q5, .inr (5, [.int 0])), (q6, .inr (6, [.int 0, .int 0, .int 0, .int 0, .int 0, .int 0, .int 0])), (q4, .inr (4, [.int 8, .int 1, .int 0, .int 0, .int 0]))] H := hP
  replace hD : va_D A [(h0, .inr (10, [.ref q9, .ref q3, .ref q2, .ref q5, .ref q6, .ref q4, .null, .null, .null, .null])), (q9, .inr (9, [.int 0, .int 4096, .int 0, .long 1, .int 0, .int 1, .int 127])), (q3, .inr (3, [.int 65535])), (q2, .inr (2, [.int 0, .ref r2])), (r2, .inl (cA2, 256, .inl (fun _ => 0))), (q5, .inr (5, [.int 0])), (q6, .inr (6, [.int 0, .int 0, .int 0, .int 0, .int 0, .int 0, .int 0])), (q4, .inr (4, [.int 8, .int 1, .int 0, .int 0, .int 0]))] := hD
  refine lv_aload_n hx hb dX10_init_70 rfl (lv_at hl 0 rfl) ?_
  refine va_new (ci := 1) (fs := [.int 0, .int 0]) (C := RX1) (T := TX1) (N := 2) hx hb hts (fun _ h => List.mem_cons_of_mem _ (List.mem_append_left _ (List.mem_append_left _ (List.mem_append_left _ (List.mem_append_right _ (h)))))) tyX1 tyX1_ok hown (hts (.classLink RX10 51 RX1) (List.mem_cons_of_mem _ (List.mem_append_left _ (List.mem_append_left _ (List.mem_append_left _ (List.mem_append_left _ (List.mem_append_left _ (List.mem_append_left _ (List.mem_append_left _ (List.mem_append_left _ (List.mem_append_left _ (List.mem_append_left _ (List.mem_append_left _ (List.mem_append_right _ (List.mem_append_left _ (List.mem_of_getElem? (i := 3) rfl)))))))))))))))) (hts (.instantiable RX1 2) (List.mem_cons_of_mem _ (List.mem_append_left _ (List.mem_append_left _ (List.mem_append_left _ (List.mem_append_left _ (List.mem_append_left _ (List.mem_append_left _ (List.mem_append_left _ (List.mem_append_left _ (List.mem_append_left _ (List.mem_append_left _ (List.mem_append_left _ (List.mem_append_right _ (List.mem_append_left _ (List.mem_of_getElem? (i := 4) rfl)))))))))))))))) (hts (.initialized RX1) (List.mem_cons_of_mem _ (List.mem_append_left _ (List.mem_append_left _ (List.mem_append_left _ (List.mem_append_left _ (List.mem_append_left _ (List.mem_append_left _ (List.mem_append_left _ (List.mem_append_left _ (List.mem_append_left _ (List.mem_append_left _ (List.mem_append_left _ (List.mem_append_right _ (List.mem_append_left _ (List.mem_of_getElem? (i := 5) rfl)))))))))))))))) hK hP hD hS hA rfl (fun j hj => by rcases (show j = 0 ∨ j = 1 by omega) with rfl | rfl <;> rfl) (Nat.le_of_ble_eq_true rfl) (Nat.le_of_ble_eq_true rfl) dX10_init_71 (fun q1 H hP hD hS => ?_)
  replace hP : va_P D vwCl [(h0, .inr (10, [.ref q9, .ref q3, .ref q2, .ref q5, .ref q6, .ref q4, .null, .null, .null, .null])), (q9, .inr (9, [.int 0, .int 4096, .int 0, .long 1, .int 0, .int 1, .int 127])), (q3, .inr (3, [.int 65535])), (q2, .inr (2, [.int 0, .ref r2])), (r2, .inl (cA2, 256, .inl (fun _ => 0))), (q5, .inr (5, [.int 0])), (q6, .inr (6, [.int 0, .int 0, .int 0, .int 0, .int 0, .int 0, .int 0])), (q4, .inr (4, [.int 8, .int 1, .int 0, .int 0, .int 0])), (q1, .inr (1, [.int 0, .int 0]))] H := hP
  replace hD : va_D A [(h0, .inr (10, [.ref q9, .ref q3, .ref q2, .ref q5, .ref q6, .ref q4, .null, .null, .null, .null])), (q9, .inr (9, [.int 0, .int 4096, .int 0, .long 1, .int 0, .int 1, .int 127])), (q3, .inr (3, [.int 65535])), (q2, .inr (2, [.int 0, .ref r2])), (r2, .inl (cA2, 256, .inl (fun _ => 0))), (q5, .inr (5, [.int 0])), (q6, .inr (6, [.int 0, .int 0, .int 0, .int 0, .int 0, .int 0, .int 0])), (q4, .inr (4, [.int 8, .int 1, .int 0, .int 0, .int 0])), (q1, .inr (1, [.int 0, .int 0]))] := hD
  refine W.widen (k := 8) (n := 281) (by decide) (by decide) ?_
  refine lv_dup hx hb dX10_init_74 rfl ?_
  have hPc := hP.sub (ws' := [(q1, .inr (1, [.int 0, .int 0]))]) [8] rfl
  have hDc := hD.sub (ws' := [(q1, .inr (1, [.int 0, .int 0]))]) [8] (by decide) rfl
  have hKc := hK.sub (tys' := []) [] rfl
  have hFc := va_free (wc := [(q1, .inr (1, [.int 0, .int 0]))]) hD hS hA [8] rfl
  refine va_callv (va_runIN (As := []) (rest := [.ref q1, .ref h0]) ⟨hx, hb, hml, hown, hts⟩ (k_X1_init l D q1 H.size) ⟨va_cnB 0 hts gX10_init_X1_init_n53 rfl rfl rfl n53 (hts (.initialized RX1) (List.mem_cons_of_mem _ (List.mem_append_left _ (List.mem_append_left _ (List.mem_append_left _ (List.mem_append_left _ (List.mem_append_left _ (List.mem_append_left _ (List.mem_append_left _ (List.mem_append_left _ (List.mem_append_left _ (List.mem_append_left _ (List.mem_append_left _ (List.mem_append_right _ (List.mem_append_left _ (List.mem_of_getElem? (i := 5) rfl)))))))))))))))) (by decide +kernel) ⟨Nat.le_of_ble_eq_true rfl, Nat.le_of_ble_eq_true rfl⟩, rfl, (hts (.instanceMethod yX1_init) (List.mem_cons_of_mem _ (List.mem_append_left _ (List.mem_append_left _ (List.mem_append_left _ (List.mem_append_left _ (List.mem_append_left _ (List.mem_append_left _ (List.mem_append_left _ (List.mem_append_left _ (List.mem_append_left _ (List.mem_append_left _ (List.mem_append_left _ (List.mem_append_right _ (List.mem_append_right _ (List.mem_append_right _ (List.mem_append_left _ (List.mem_of_getElem? (i := 14) rfl))))))))))))))))))⟩ ⟨blW okN_T, preW hPc hKc hDc okN_T trivial⟩ rfl rfl hl.1 rfl (lv_room (Nat.le_of_ble_eq_true rfl)) dX10_init_75 ⟨Nat.le_of_ble_eq_true rfl, Nat.le_of_ble_eq_true rfl⟩) hS (fun q _ h => hFc q h) hFc (fun u t H1 locs ht hvm hw hB hz1 hk1 hS => ?_)
  obtain ⟨hP1, hK1, hD1⟩ := hB
  rw [ht] at hP1
  replace hK1 := va_K.moved hvm.symm hK1
  replace hP1 : va_P D vwCl [(q1, .inr (1, [.int 0, .int 0]))] H1 := hP1
  replace hD1 : va_D (va_A [(q1, .inr (1, [.int 0, .int 0]))] H.size) [(q1, .inr (1, [.int 0, .int 0]))] := hD1
  replace hK1 : va_K D vwCl [] s := hK1
  obtain ⟨hP9, hD9⟩ := va_join (wr := [(h0, .inr (10, [.ref q9, .ref q3, .ref q2, .ref q5, .ref q6, .ref q4, .null, .null, .null, .null])), (q9, .inr (9, [.int 0, .int 4096, .int 0, .long 1, .int 0, .int 1, .int 127])), (q3, .inr (3, [.int 65535])), (q2, .inr (2, [.int 0, .ref r2])), (r2, .inl (cA2, 256, .inl (fun _ => 0))), (q5, .inr (5, [.int 0])), (q6, .inr (6, [.int 0, .int 0, .int 0, .int 0, .int 0, .int 0, .int 0])), (q4, .inr (4, [.int 8, .int 1, .int 0, .int 0, .int 0]))]) (w1 := [(q1, .inr (1, [.int 0, .int 0]))]) hP hD [8] [0, 1, 2, 3, 4, 5, 6, 7] rfl rfl (by decide) (by decide) hk1 hFc hP1 hD1
  clear hPc hDc hKc hFc hP1 hD1 hz1 hk1 hw ht hvm t
  replace hK : va_K D vwCl [(cA2, .boolean)] s := va_K.app hK hK1
  replace hP : va_P D vwCl [(h0, .inr (10, [.ref q9, .ref q3, .ref q2, .ref q5, .ref q6, .ref q4, .null, .null, .null, .null])), (q9, .inr (9, [.int 0, .int 4096, .int 0, .long 1, .int 0, .int 1, .int 127])), (q3, .inr (3, [.int 65535])), (q2, .inr (2, [.int 0, .ref r2])), (r2, .inl (cA2, 256, .inl (fun _ => 0))), (q5, .inr (5, [.int 0])), (q6, .inr (6, [.int 0, .int 0, .int 0, .int 0, .int 0, .int 0, .int 0])), (q4, .inr (4, [.int 8, .int 1, .int 0, .int 0, .int 0])), (q1, .inr (1, [.int 0, .int 0]))] H1 := hP9
  replace hD : va_D A [(h0, .inr (10, [.ref q9, .ref q3, .ref q2, .ref q5, .ref q6, .ref q4, .null, .null, .null, .null])), (q9, .inr (9, [.int 0, .int 4096, .int 0, .long 1, .int 0, .int 1, .int 127])), (q3, .inr (3, [.int 65535])), (q2, .inr (2, [.int 0, .ref r2])), (r2, .inl (cA2, 256, .inl (fun _ => 0))), (q5, .inr (5, [.int 0])), (q6, .inr (6, [.int 0, .int 0, .int 0, .int 0, .int 0, .int 0, .int 0])), (q4, .inr (4, [.int 8, .int 1, .int 0, .int 0, .int 0])), (q1, .inr (1, [.int 0, .int 0]))] := hD9
  clear hP9 hD9 hK1
  skip
  refine W.widen (k := 8) (n := 281) (by decide) (by decide) ?_
  refine va_putF (D := D) (ci := 10) (v := .ref q1) (ty := .object "Phaselock$BitLog") (C := RX10) (T := TX10) (N := 10) hx hb hts (fun _ h => List.mem_cons_of_mem _ (List.mem_append_left _ (List.mem_append_left _ (List.mem_append_left _ (List.mem_append_left _ (List.mem_append_left _ (List.mem_append_left _ (List.mem_append_left _ (List.mem_append_left _ (List.mem_append_left _ (List.mem_append_right _ (h)))))))))))) tyX10 tyX10_ok nmX10 hown hK hP hD hS 0 rfl rfl 6 (by decide) (hts (.fieldLink RX10 54 "Phaselock" "bits" "LPhaselock$BitLog;") (List.mem_cons_of_mem _ (List.mem_append_left _ (List.mem_append_left _ (List.mem_append_left _ (List.mem_append_left _ (List.mem_append_left _ (List.mem_append_left _ (List.mem_append_left _ (List.mem_append_left _ (List.mem_append_left _ (List.mem_append_left _ (List.mem_append_left _ (List.mem_append_right _ (List.mem_append_left _ (List.mem_of_getElem? (i := 6) rfl)))))))))))))))) (fun _ h9 => h9) rfl hin rfl (by decide +kernel) rfl rfl (Nat.le_of_ble_eq_true rfl) dX10_init_78 (fun H locs hP hD hS => ?_)
  replace hP : va_P D vwCl [(h0, .inr (10, [.ref q9, .ref q3, .ref q2, .ref q5, .ref q6, .ref q4, .ref q1, .null, .null, .null])), (q9, .inr (9, [.int 0, .int 4096, .int 0, .long 1, .int 0, .int 1, .int 127])), (q3, .inr (3, [.int 65535])), (q2, .inr (2, [.int 0, .ref r2])), (r2, .inl (cA2, 256, .inl (fun _ => 0))), (q5, .inr (5, [.int 0])), (q6, .inr (6, [.int 0, .int 0, .int 0, .int 0, .int 0, .int 0, .int 0])), (q4, .inr (4, [.int 8, .int 1, .int 0, .int 0, .int 0])), (q1, .inr (1, [.int 0, .int 0]))] H := hP
  replace hD : va_D A [(h0, .inr (10, [.ref q9, .ref q3, .ref q2, .ref q5, .ref q6, .ref q4, .ref q1, .null, .null, .null])), (q9, .inr (9, [.int 0, .int 4096, .int 0, .long 1, .int 0, .int 1, .int 127])), (q3, .inr (3, [.int 65535])), (q2, .inr (2, [.int 0, .ref r2])), (r2, .inl (cA2, 256, .inl (fun _ => 0))), (q5, .inr (5, [.int 0])), (q6, .inr (6, [.int 0, .int 0, .int 0, .int 0, .int 0, .int 0, .int 0])), (q4, .inr (4, [.int 8, .int 1, .int 0, .int 0, .int 0])), (q1, .inr (1, [.int 0, .int 0]))] := hD
  refine lv_aload_n hx hb dX10_init_81 rfl (lv_at hl 0 rfl) ?_
  refine va_new (ci := 8) (fs := [.int 0, .int 0, .int 0, .int 0]) (C := RX8) (T := TX8) (N := 4) hx hb hts (fun _ h => List.mem_cons_of_mem _ (List.mem_append_left _ (List.mem_append_left _ (List.mem_append_right _ (h))))) tyX8 tyX8_ok hown (hts (.classLink RX10 58 RX8) (List.mem_cons_of_mem _ (List.mem_append_left _ (List.mem_append_left _ (List.mem_append_left _ (List.mem_append_left _ (List.mem_append_left _ (List.mem_append_left _ (List.mem_append_left _ (List.mem_append_left _ (List.mem_append_left _ (List.mem_append_left _ (List.mem_append_left _ (List.mem_append_right _ (List.mem_append_left _ (List.mem_of_getElem? (i := 7) rfl)))))))))))))))) (hts (.instantiable RX8 4) (List.mem_cons_of_mem _ (List.mem_append_left _ (List.mem_append_left _ (List.mem_append_left _ (List.mem_append_left _ (List.mem_append_left _ (List.mem_append_left _ (List.mem_append_left _ (List.mem_append_left _ (List.mem_append_left _ (List.mem_append_left _ (List.mem_append_left _ (List.mem_append_right _ (List.mem_append_left _ (List.mem_of_getElem? (i := 8) rfl)))))))))))))))) (hts (.initialized RX8) (List.mem_cons_of_mem _ (List.mem_append_left _ (List.mem_append_left _ (List.mem_append_left _ (List.mem_append_left _ (List.mem_append_left _ (List.mem_append_left _ (List.mem_append_left _ (List.mem_append_left _ (List.mem_append_left _ (List.mem_append_left _ (List.mem_append_left _ (List.mem_append_right _ (List.mem_append_left _ (List.mem_of_getElem? (i := 9) rfl)))))))))))))))) hK hP hD hS hA rfl (fun j hj => by rcases (show j = 0 ∨ j = 1 ∨ j = 2 ∨ j = 3 by omega) with rfl | rfl | rfl | rfl <;> rfl) (Nat.le_of_ble_eq_true rfl) (Nat.le_of_ble_eq_true rfl) dX10_init_82 (fun q8 H hP hD hS => ?_)
  replace hP : va_P D vwCl [(h0, .inr (10, [.ref q9, .ref q3, .ref q2, .ref q5, .ref q6, .ref q4, .ref q1, .null, .null, .null])), (q9, .inr (9, [.int 0, .int 4096, .int 0, .long 1, .int 0, .int 1, .int 127])), (q3, .inr (3, [.int 65535])), (q2, .inr (2, [.int 0, .ref r2])), (r2, .inl (cA2, 256, .inl (fun _ => 0))), (q5, .inr (5, [.int 0])), (q6, .inr (6, [.int 0, .int 0, .int 0, .int 0, .int 0, .int 0, .int 0])), (q4, .inr (4, [.int 8, .int 1, .int 0, .int 0, .int 0])), (q1, .inr (1, [.int 0, .int 0])), (q8, .inr (8, [.int 0, .int 0, .int 0, .int 0]))] H := hP
  replace hD : va_D A [(h0, .inr (10, [.ref q9, .ref q3, .ref q2, .ref q5, .ref q6, .ref q4, .ref q1, .null, .null, .null])), (q9, .inr (9, [.int 0, .int 4096, .int 0, .long 1, .int 0, .int 1, .int 127])), (q3, .inr (3, [.int 65535])), (q2, .inr (2, [.int 0, .ref r2])), (r2, .inl (cA2, 256, .inl (fun _ => 0))), (q5, .inr (5, [.int 0])), (q6, .inr (6, [.int 0, .int 0, .int 0, .int 0, .int 0, .int 0, .int 0])), (q4, .inr (4, [.int 8, .int 1, .int 0, .int 0, .int 0])), (q1, .inr (1, [.int 0, .int 0])), (q8, .inr (8, [.int 0, .int 0, .int 0, .int 0]))] := hD
  refine W.widen (k := 9) (n := 285) (by decide) (by decide) ?_
  refine lv_dup hx hb dX10_init_85 rfl ?_
  have hPc := hP.sub (ws' := [(q8, .inr (8, [.int 0, .int 0, .int 0, .int 0]))]) [9] rfl
  have hDc := hD.sub (ws' := [(q8, .inr (8, [.int 0, .int 0, .int 0, .int 0]))]) [9] (by decide) rfl
  have hKc := hK.sub (tys' := []) [] rfl
  have hFc := va_free (wc := [(q8, .inr (8, [.int 0, .int 0, .int 0, .int 0]))]) hD hS hA [9] rfl
  refine va_callv (va_runIN (As := []) (rest := [.ref q8, .ref h0]) ⟨hx, hb, hml, hown, hts⟩ (k_X8_init l D q8 H.size) ⟨va_cnB 0 hts gX10_init_X8_init_n60 rfl rfl rfl n60 (hts (.initialized RX8) (List.mem_cons_of_mem _ (List.mem_append_left _ (List.mem_append_left _ (List.mem_append_left _ (List.mem_append_left _ (List.mem_append_left _ (List.mem_append_left _ (List.mem_append_left _ (List.mem_append_left _ (List.mem_append_left _ (List.mem_append_left _ (List.mem_append_left _ (List.mem_append_right _ (List.mem_append_left _ (List.mem_of_getElem? (i := 9) rfl)))))))))))))))) (by decide +kernel) ⟨Nat.le_of_ble_eq_true rfl, Nat.le_of_ble_eq_true rfl⟩, rfl, (hts (.instanceMethod yX8_init) (List.mem_cons_of_mem _ (List.mem_append_left _ (List.mem_append_left _ (List.mem_append_left _ (List.mem_append_left _ (List.mem_append_left _ (List.mem_append_left _ (List.mem_append_left _ (List.mem_append_left _ (List.mem_append_left _ (List.mem_append_left _ (List.mem_append_left _ (List.mem_append_right _ (List.mem_append_right _ (List.mem_append_right _ (List.mem_append_left _ (List.mem_of_getElem? (i := 19) rfl))))))))))))))))))⟩ ⟨blW okN_T, preW hPc hKc hDc okN_T trivial⟩ rfl rfl hl.1 rfl (lv_room (Nat.le_of_ble_eq_true rfl)) dX10_init_86 ⟨Nat.le_of_ble_eq_true rfl, Nat.le_of_ble_eq_true rfl⟩) hS (fun q _ h => hFc q h) hFc (fun u t H1 locs ht hvm hw hB hz1 hk1 hS => ?_)
  obtain ⟨hP1, hK1, hD1⟩ := hB
  rw [ht] at hP1
  replace hK1 := va_K.moved hvm.symm hK1
  replace hP1 : va_P D vwCl [(q8, .inr (8, [.int 0, .int 0, .int 0, .int 0]))] H1 := hP1
  replace hD1 : va_D (va_A [(q8, .inr (8, [.int 0, .int 0, .int 0, .int 0]))] H.size) [(q8, .inr (8, [.int 0, .int 0, .int 0, .int 0]))] := hD1
  replace hK1 : va_K D vwCl [] s := hK1
  obtain ⟨hP9, hD9⟩ := va_join (wr := [(h0, .inr (10, [.ref q9, .ref q3, .ref q2, .ref q5, .ref q6, .ref q4, .ref q1, .null, .null, .null])), (q9, .inr (9, [.int 0, .int 4096, .int 0, .long 1, .int 0, .int 1, .int 127])), (q3, .inr (3, [.int 65535])), (q2, .inr (2, [.int 0, .ref r2])), (r2, .inl (cA2, 256, .inl (fun _ => 0))), (q5, .inr (5, [.int 0])), (q6, .inr (6, [.int 0, .int 0, .int 0, .int 0, .int 0, .int 0, .int 0])), (q4, .inr (4, [.int 8, .int 1, .int 0, .int 0, .int 0])), (q1, .inr (1, [.int 0, .int 0]))]) (w1 := [(q8, .inr (8, [.int 0, .int 0, .int 0, .int 0]))]) hP hD [9] [0, 1, 2, 3, 4, 5, 6, 7, 8] rfl rfl (by decide) (by decide) hk1 hFc hP1 hD1
  clear hPc hDc hKc hFc hP1 hD1 hz1 hk1 hw ht hvm t
  replace hK : va_K D vwCl [(cA2, .boolean)] s := va_K.app hK hK1
  replace hP : va_P D vwCl [(h0, .inr (10, [.ref q9, .ref q3, .ref q2, .ref q5, .ref q6, .ref q4, .ref q1, .null, .null, .null])), (q9, .inr (9, [.int 0, .int 4096, .int 0, .long 1, .int 0, .int 1, .int 127])), (q3, .inr (3, [.int 65535])), (q2, .inr (2, [.int 0, .ref r2])), (r2, .inl (cA2, 256, .inl (fun _ => 0))), (q5, .inr (5, [.int 0])), (q6, .inr (6, [.int 0, .int 0, .int 0, .int 0, .int 0, .int 0, .int 0])), (q4, .inr (4, [.int 8, .int 1, .int 0, .int 0, .int 0])), (q1, .inr (1, [.int 0, .int 0])), (q8, .inr (8, [.int 0, .int 0, .int 0, .int 0]))] H1 := hP9
  replace hD : va_D A [(h0, .inr (10, [.ref q9, .ref q3, .ref q2, .ref q5, .ref q6, .ref q4, .ref q1, .null, .null, .null])), (q9, .inr (9, [.int 0, .int 4096, .int 0, .long 1, .int 0, .int 1, .int 127])), (q3, .inr (3, [.int 65535])), (q2, .inr (2, [.int 0, .ref r2])), (r2, .inl (cA2, 256, .inl (fun _ => 0))), (q5, .inr (5, [.int 0])), (q6, .inr (6, [.int 0, .int 0, .int 0, .int 0, .int 0, .int 0, .int 0])), (q4, .inr (4, [.int 8, .int 1, .int 0, .int 0, .int 0])), (q1, .inr (1, [.int 0, .int 0])), (q8, .inr (8, [.int 0, .int 0, .int 0, .int 0]))] := hD9
  clear hP9 hD9 hK1
  skip
  refine W.widen (k := 9) (n := 285) (by decide) (by decide) ?_
  refine va_putF (D := D) (ci := 10) (v := .ref q8) (ty := .object "Phaselock$SlipCounter") (C := RX10) (T := TX10) (N := 10) hx hb hts (fun _ h => List.mem_cons_of_mem _ (List.mem_append_left _ (List.mem_append_left _ (List.mem_append_left _ (List.mem_append_left _ (List.mem_append_left _ (List.mem_append_left _ (List.mem_append_left _ (List.mem_append_left _ (List.mem_append_left _ (List.mem_append_right _ (h)))))))))))) tyX10 tyX10_ok nmX10 hown hK hP hD hS 0 rfl rfl 7 (by decide) (hts (.fieldLink RX10 61 "Phaselock" "slips" "LPhaselock$SlipCounter;") (List.mem_cons_of_mem _ (List.mem_append_left _ (List.mem_append_left _ (List.mem_append_left _ (List.mem_append_left _ (List.mem_append_left _ (List.mem_append_left _ (List.mem_append_left _ (List.mem_append_left _ (List.mem_append_left _ (List.mem_append_left _ (List.mem_append_left _ (List.mem_append_right _ (List.mem_append_left _ (List.mem_of_getElem? (i := 10) rfl)))))))))))))))) (fun _ h9 => h9) rfl hin rfl (by decide +kernel) rfl rfl (Nat.le_of_ble_eq_true rfl) dX10_init_89 (fun H locs hP hD hS => ?_)
  replace hP : va_P D vwCl [(h0, .inr (10, [.ref q9, .ref q3, .ref q2, .ref q5, .ref q6, .ref q4, .ref q1, .ref q8, .null, .null])), (q9, .inr (9, [.int 0, .int 4096, .int 0, .long 1, .int 0, .int 1, .int 127])), (q3, .inr (3, [.int 65535])), (q2, .inr (2, [.int 0, .ref r2])), (r2, .inl (cA2, 256, .inl (fun _ => 0))), (q5, .inr (5, [.int 0])), (q6, .inr (6, [.int 0, .int 0, .int 0, .int 0, .int 0, .int 0, .int 0])), (q4, .inr (4, [.int 8, .int 1, .int 0, .int 0, .int 0])), (q1, .inr (1, [.int 0, .int 0])), (q8, .inr (8, [.int 0, .int 0, .int 0, .int 0]))] H := hP
  replace hD : va_D A [(h0, .inr (10, [.ref q9, .ref q3, .ref q2, .ref q5, .ref q6, .ref q4, .ref q1, .ref q8, .null, .null])), (q9, .inr (9, [.int 0, .int 4096, .int 0, .long 1, .int 0, .int 1, .int 127])), (q3, .inr (3, [.int 65535])), (q2, .inr (2, [.int 0, .ref r2])), (r2, .inl (cA2, 256, .inl (fun _ => 0))), (q5, .inr (5, [.int 0])), (q6, .inr (6, [.int 0, .int 0, .int 0, .int 0, .int 0, .int 0, .int 0])), (q4, .inr (4, [.int 8, .int 1, .int 0, .int 0, .int 0])), (q1, .inr (1, [.int 0, .int 0])), (q8, .inr (8, [.int 0, .int 0, .int 0, .int 0]))] := hD
  refine lv_aload_n hx hb dX10_init_92 rfl (lv_at hl 0 rfl) ?_
  refine va_new (ci := 7) (fs := [.int 0, .int 0, .int 0, .null]) (C := RX7) (T := TX7) (N := 4) hx hb hts (fun _ h => List.mem_cons_of_mem _ (List.mem_append_left _ (List.mem_append_right _ (h)))) tyX7 tyX7_ok hown (hts (.classLink RX10 65 RX7) (List.mem_cons_of_mem _ (List.mem_append_left _ (List.mem_append_left _ (List.mem_append_left _ (List.mem_append_left _ (List.mem_append_left _ (List.mem_append_left _ (List.mem_append_left _ (List.mem_append_left _ (List.mem_append_left _ (List.mem_append_left _ (List.mem_append_left _ (List.mem_append_right _ (List.mem_append_left _ (List.mem_of_getElem? (i := 11) rfl)))))))))))))))) (hts (.instantiable RX7 4) (List.mem_cons_of_mem _ (List.mem_append_left _ (List.mem_append_left _ (List.mem_append_left _ (List.mem_append_left _ (List.mem_append_left _ (List.mem_append_left _ (List.mem_append_left _ (List.mem_append_left _ (List.mem_append_left _ (List.mem_append_left _ (List.mem_append_left _ (List.mem_append_right _ (List.mem_append_left _ (List.mem_of_getElem? (i := 12) rfl)))))))))))))))) (hts (.initialized RX7) (List.mem_cons_of_mem _ (List.mem_append_left _ (List.mem_append_left _ (List.mem_append_left _ (List.mem_append_left _ (List.mem_append_left _ (List.mem_append_left _ (List.mem_append_left _ (List.mem_append_left _ (List.mem_append_left _ (List.mem_append_left _ (List.mem_append_left _ (List.mem_append_right _ (List.mem_append_left _ (List.mem_of_getElem? (i := 13) rfl)))))))))))))))) hK hP hD hS hA rfl (fun j hj => by rcases (show j = 0 ∨ j = 1 ∨ j = 2 ∨ j = 3 by omega) with rfl | rfl | rfl | rfl <;> rfl) (Nat.le_of_ble_eq_true rfl) (Nat.le_of_ble_eq_true rfl) dX10_init_93 (fun q7 H hP hD hS => ?_)
  replace hP : va_P D vwCl [(h0, .inr (10, [.ref q9, .ref q3, .ref q2, .ref q5, .ref q6, .ref q4, .ref q1, .ref q8, .null, .null])), (q9, .inr (9, [.int 0, .int 4096, .int 0, .long 1, .int 0, .int 1, .int 127])), (q3, .inr (3, [.int 65535])), (q2, .inr (2, [.int 0, .ref r2])), (r2, .inl (cA2, 256, .inl (fun _ => 0))), (q5, .inr (5, [.int 0])), (q6, .inr (6, [.int 0, .int 0, .int 0, .int 0, .int 0, .int 0, .int 0])), (q4, .inr (4, [.int 8, .int 1, .int 0, .int 0, .int 0])), (q1, .inr (1, [.int 0, .int 0])), (q8, .inr (8, [.int 0, .int 0, .int 0, .int 0])), (q7, .inr (7, [.int 0, .int 0, .int 0, .null]))] H := hP
  replace hD : va_D A [(h0, .inr (10, [.ref q9, .ref q3, .ref q2, .ref q5, .ref q6, .ref q4, .ref q1, .ref q8, .null, .null])), (q9, .inr (9, [.int 0, .int 4096, .int 0, .long 1, .int 0, .int 1, .int 127])), (q3, .inr (3, [.int 65535])), (q2, .inr (2, [.int 0, .ref r2])), (r2, .inl (cA2, 256, .inl (fun _ => 0))), (q5, .inr (5, [.int 0])), (q6, .inr (6, [.int 0, .int 0, .int 0, .int 0, .int 0, .int 0, .int 0])), (q4, .inr (4, [.int 8, .int 1, .int 0, .int 0, .int 0])), (q1, .inr (1, [.int 0, .int 0])), (q8, .inr (8, [.int 0, .int 0, .int 0, .int 0])), (q7, .inr (7, [.int 0, .int 0, .int 0, .null]))] := hD
  refine W.widen (k := 10) (n := 289) (by decide) (by decide) ?_
  refine lv_dup hx hb dX10_init_96 rfl ?_
  have hPc := hP.sub (ws' := [(q7, .inr (7, [.int 0, .int 0, .int 0, .null]))]) [10] rfl
  have hDc := hD.sub (ws' := [(q7, .inr (7, [.int 0, .int 0, .int 0, .null]))]) [10] (by decide) rfl
  have hKc := hK.sub (tys' := []) [] rfl
  have hFc := va_free (wc := [(q7, .inr (7, [.int 0, .int 0, .int 0, .null]))]) hD hS hA [10] rfl
  refine va_callv (va_runIN (As := []) (rest := [.ref q7, .ref h0]) ⟨hx, hb, hml, hown, hts⟩ (k_X7_init l D q7 H.size) ⟨va_cnB 0 hts gX10_init_X7_init_n67 rfl rfl rfl n67 (hts (.initialized RX7) (List.mem_cons_of_mem _ (List.mem_append_left _ (List.mem_append_left _ (List.mem_append_left _ (List.mem_append_left _ (List.mem_append_left _ (List.mem_append_left _ (List.mem_append_left _ (List.mem_append_left _ (List.mem_append_left _ (List.mem_append_left _ (List.mem_append_left _ (List.mem_append_right _ (List.mem_append_left _ (List.mem_of_getElem? (i := 13) rfl)))))))))))))))) (by decide +kernel) ⟨Nat.le_of_ble_eq_true rfl, Nat.le_of_ble_eq_true rfl⟩, rfl, (hts (.instanceMethod yX7_init) (List.mem_cons_of_mem _ (List.mem_append_left _ (List.mem_append_left _ (List.mem_append_left _ (List.mem_append_left _ (List.mem_append_left _ (List.mem_append_left _ (List.mem_append_left _ (List.mem_append_left _ (List.mem_append_left _ (List.mem_append_left _ (List.mem_append_left _ (List.mem_append_right _ (List.mem_append_right _ (List.mem_append_right _ (List.mem_append_right _ (List.mem_of_getElem? (i := 2) rfl))))))))))))))))))⟩ ⟨blW okN_T, preW hPc hKc hDc okN_T trivial⟩ rfl rfl hl.1 rfl (lv_room (Nat.le_of_ble_eq_true rfl)) dX10_init_97 ⟨Nat.le_of_ble_eq_true rfl, Nat.le_of_ble_eq_true rfl⟩) hS (fun q _ h => hFc q h) hFc (fun u t H1 locs ht hvm hw hB hz1 hk1 hS => ?_)
  obtain ⟨hP1, hK1, hD1⟩ := hB
  rw [ht] at hP1
  replace hK1 := va_K.moved hvm.symm hK1
  obtain ⟨r7, cA7⟩ := u
  replace hP1 : va_P D vwCl [(q7, .inr (7, [.int 0, .int 0, .int 0, .ref r7])), (r7, .inl (cA7, 32, .inl (fun _ => 0)))] H1 := hP1
  replace hD1 : va_D (va_A [(q7, .inr (7, [.int 0, .int 0, .int 0, .null]))] H.size) [(q7, .inr (7, [.int 0, .int 0, .int 0, .ref r7])), (r7, .inl (cA7, 32, .inl (fun _ => 0)))] := hD1
  replace hK1 : va_K D vwCl [(cA7, .int)] s := hK1
  obtain ⟨hP9, hD9⟩ := va_join (wr := [(h0, .inr (10, [.ref q9, .ref q3, .ref q2, .ref q5, .ref q6, .ref q4, .ref q1, .ref q8, .null, .null])), (q9, .inr (9, [.int 0, .int 4096, .int 0, .long 1, .int 0, .int 1, .int 127])), (q3, .inr (3, [.int 65535])), (q2, .inr (2, [.int 0, .ref r2])), (r2, .inl (cA2, 256, .inl (fun _ => 0))), (q5, .inr (5, [.int 0])), (q6, .inr (6, [.int 0, .int 0, .int 0, .int 0, .int 0, .int 0, .int 0])), (q4, .inr (4, [.int 8, .int 1, .int 0, .int 0, .int 0])), (q1, .inr (1, [.int 0, .int 0])), (q8, .inr (8, [.int 0, .int 0, .int 0, .int 0]))]) (w1 := [(q7, .inr (7, [.int 0, .int 0, .int 0, .ref r7])), (r7, .inl (cA7, 32, .inl (fun _ => 0)))]) hP hD [10] [0, 1, 2, 3, 4, 5, 6, 7, 8, 9] rfl rfl (by decide) (by decide) hk1 hFc hP1 hD1
  clear hPc hDc hKc hFc hP1 hD1 hz1 hk1 hw ht hvm t
  replace hK : va_K D vwCl [(cA2, .boolean), (cA7, .int)] s := va_K.app hK hK1
  replace hP : va_P D vwCl [(h0, .inr (10, [.ref q9, .ref q3, .ref q2, .ref q5, .ref q6, .ref q4, .ref q1, .ref q8, .null, .null])), (q9, .inr (9, [.int 0, .int 4096, .int 0, .long 1, .int 0, .int 1, .int 127])), (q3, .inr (3, [.int 65535])), (q2, .inr (2, [.int 0, .ref r2])), (r2, .inl (cA2, 256, .inl (fun _ => 0))), (q5, .inr (5, [.int 0])), (q6, .inr (6, [.int 0, .int 0, .int 0, .int 0, .int 0, .int 0, .int 0])), (q4, .inr (4, [.int 8, .int 1, .int 0, .int 0, .int 0])), (q1, .inr (1, [.int 0, .int 0])), (q8, .inr (8, [.int 0, .int 0, .int 0, .int 0])), (q7, .inr (7, [.int 0, .int 0, .int 0, .ref r7])), (r7, .inl (cA7, 32, .inl (fun _ => 0)))] H1 := hP9
  replace hD : va_D A [(h0, .inr (10, [.ref q9, .ref q3, .ref q2, .ref q5, .ref q6, .ref q4, .ref q1, .ref q8, .null, .null])), (q9, .inr (9, [.int 0, .int 4096, .int 0, .long 1, .int 0, .int 1, .int 127])), (q3, .inr (3, [.int 65535])), (q2, .inr (2, [.int 0, .ref r2])), (r2, .inl (cA2, 256, .inl (fun _ => 0))), (q5, .inr (5, [.int 0])), (q6, .inr (6, [.int 0, .int 0, .int 0, .int 0, .int 0, .int 0, .int 0])), (q4, .inr (4, [.int 8, .int 1, .int 0, .int 0, .int 0])), (q1, .inr (1, [.int 0, .int 0])), (q8, .inr (8, [.int 0, .int 0, .int 0, .int 0])), (q7, .inr (7, [.int 0, .int 0, .int 0, .ref r7])), (r7, .inl (cA7, 32, .inl (fun _ => 0)))] := hD9
  clear hP9 hD9 hK1
  skip
  refine W.widen (k := 11) (n := 321) (by decide) (by decide) ?_
  refine va_putF (D := D) (ci := 10) (v := .ref q7) (ty := .object "Phaselock$PhaseLog") (C := RX10) (T := TX10) (N := 10) hx hb hts (fun _ h => List.mem_cons_of_mem _ (List.mem_append_left _ (List.mem_append_left _ (List.mem_append_left _ (List.mem_append_left _ (List.mem_append_left _ (List.mem_append_left _ (List.mem_append_left _ (List.mem_append_left _ (List.mem_append_left _ (List.mem_append_right _ (h)))))))))))) tyX10 tyX10_ok nmX10 hown hK hP hD hS 0 rfl rfl 8 (by decide) (hts (.fieldLink RX10 68 "Phaselock" "phases" "LPhaselock$PhaseLog;") (List.mem_cons_of_mem _ (List.mem_append_left _ (List.mem_append_left _ (List.mem_append_left _ (List.mem_append_left _ (List.mem_append_left _ (List.mem_append_left _ (List.mem_append_left _ (List.mem_append_left _ (List.mem_append_left _ (List.mem_append_left _ (List.mem_append_left _ (List.mem_append_right _ (List.mem_append_left _ (List.mem_of_getElem? (i := 14) rfl)))))))))))))))) (fun _ h9 => h9) rfl hin rfl (by decide +kernel) rfl rfl (Nat.le_of_ble_eq_true rfl) dX10_init_100 (fun H locs hP hD hS => ?_)
  replace hP : va_P D vwCl [(h0, .inr (10, [.ref q9, .ref q3, .ref q2, .ref q5, .ref q6, .ref q4, .ref q1, .ref q8, .ref q7, .null])), (q9, .inr (9, [.int 0, .int 4096, .int 0, .long 1, .int 0, .int 1, .int 127])), (q3, .inr (3, [.int 65535])), (q2, .inr (2, [.int 0, .ref r2])), (r2, .inl (cA2, 256, .inl (fun _ => 0))), (q5, .inr (5, [.int 0])), (q6, .inr (6, [.int 0, .int 0, .int 0, .int 0, .int 0, .int 0, .int 0])), (q4, .inr (4, [.int 8, .int 1, .int 0, .int 0, .int 0])), (q1, .inr (1, [.int 0, .int 0])), (q8, .inr (8, [.int 0, .int 0, .int 0, .int 0])), (q7, .inr (7, [.int 0, .int 0, .int 0, .ref r7])), (r7, .inl (cA7, 32, .inl (fun _ => 0)))] H := hP
  replace hD : va_D A [(h0, .inr (10, [.ref q9, .ref q3, .ref q2, .ref q5, .ref q6, .ref q4, .ref q1, .ref q8, .ref q7, .null])), (q9, .inr (9, [.int 0, .int 4096, .int 0, .long 1, .int 0, .int 1, .int 127])), (q3, .inr (3, [.int 65535])), (q2, .inr (2, [.int 0, .ref r2])), (r2, .inl (cA2, 256, .inl (fun _ => 0))), (q5, .inr (5, [.int 0])), (q6, .inr (6, [.int 0, .int 0, .int 0, .int 0, .int 0, .int 0, .int 0])), (q4, .inr (4, [.int 8, .int 1, .int 0, .int 0, .int 0])), (q1, .inr (1, [.int 0, .int 0])), (q8, .inr (8, [.int 0, .int 0, .int 0, .int 0])), (q7, .inr (7, [.int 0, .int 0, .int 0, .ref r7])), (r7, .inl (cA7, 32, .inl (fun _ => 0)))] := hD
  refine lv_aload_n hx hb dX10_init_103 rfl (lv_at hl 0 rfl) ?_
  refine va_new (ci := 0) (fs := [.int 0, .int 0, .int 0, .int 0, .int 0, .int 0]) (C := RX0) (T := TX0) (N := 6) hx hb hts (fun _ h => List.mem_cons_of_mem _ (List.mem_append_right _ (h))) tyX0 tyX0_ok hown (hts (.classLink RX10 72 RX0) (List.mem_cons_of_mem _ (List.mem_append_left _ (List.mem_append_left _ (List.mem_append_left _ (List.mem_append_left _ (List.mem_append_left _ (List.mem_append_left _ (List.mem_append_left _ (List.mem_append_left _ (List.mem_append_left _ (List.mem_append_left _ (List.mem_append_left _ (List.mem_append_right _ (List.mem_append_left _ (List.mem_of_getElem? (i := 15) rfl)))))))))))))))) (hts (.instantiable RX0 6) (List.mem_cons_of_mem _ (List.mem_append_left _ (List.mem_append_left _ (List.mem_append_left _ (List.mem_append_left _ (List.mem_append_left _ (List.mem_append_left _ (List.mem_append_left _ (List.mem_append_left _ (List.mem_append_left _ (List.mem_append_left _ (List.mem_append_left _ (List.mem_append_right _ (List.mem_append_left _ (List.mem_of_getElem? (i := 16) rfl)))))))))))))))) (hts (.initialized RX0) (List.mem_cons_of_mem _ (List.mem_append_left _ (List.mem_append_left _ (List.mem_append_left _ (List.mem_append_left _ (List.mem_append_left _ (List.mem_append_left _ (List.mem_append_left _ (List.mem_append_left _ (List.mem_append_left _ (List.mem_append_left _ (List.mem_append_left _ (List.mem_append_right _ (List.mem_append_left _ (List.mem_of_getElem? (i := 17) rfl)))))))))))))))) hK hP hD hS hA rfl (fun j hj => by rcases (show j = 0 ∨ j = 1 ∨ j = 2 ∨ j = 3 ∨ j = 4 ∨ j = 5 by omega) with rfl | rfl | rfl | rfl | rfl | rfl <;> rfl) (Nat.le_of_ble_eq_true rfl) (Nat.le_of_ble_eq_true rfl) dX10_init_104 (fun q0 H hP hD hS => ?_)
  replace hP : va_P D vwCl [(h0, .inr (10, [.ref q9, .ref q3, .ref q2, .ref q5, .ref q6, .ref q4, .ref q1, .ref q8, .ref q7, .null])), (q9, .inr (9, [.int 0, .int 4096, .int 0, .long 1, .int 0, .int 1, .int 127])), (q3, .inr (3, [.int 65535])), (q2, .inr (2, [.int 0, .ref r2])), (r2, .inl (cA2, 256, .inl (fun _ => 0))), (q5, .inr (5, [.int 0])), (q6, .inr (6, [.int 0, .int 0, .int 0, .int 0, .int 0, .int 0, .int 0])), (q4, .inr (4, [.int 8, .int 1, .int 0, .int 0, .int 0])), (q1, .inr (1, [.int 0, .int 0])), (q8, .inr (8, [.int 0, .int 0, .int 0, .int 0])), (q7, .inr (7, [.int 0, .int 0, .int 0, .ref r7])), (r7, .inl (cA7, 32, .inl (fun _ => 0))), (q0, .inr (0, [.int 0, .int 0, .int 0, .int 0, .int 0, .int 0]))] H := hP
  replace hD : va_D A [(h0, .inr (10, [.ref q9, .ref q3, .ref q2, .ref q5, .ref q6, .ref q4, .ref q1, .ref q8, .ref q7, .null])), (q9, .inr (9, [.int 0, .int 4096, .int 0, .long 1, .int 0, .int 1, .int 127])), (q3, .inr (3, [.int 65535])), (q2, .inr (2, [.int 0, .ref r2])), (r2, .inl (cA2, 256, .inl (fun _ => 0))), (q5, .inr (5, [.int 0])), (q6, .inr (6, [.int 0, .int 0, .int 0, .int 0, .int 0, .int 0, .int 0])), (q4, .inr (4, [.int 8, .int 1, .int 0, .int 0, .int 0])), (q1, .inr (1, [.int 0, .int 0])), (q8, .inr (8, [.int 0, .int 0, .int 0, .int 0])), (q7, .inr (7, [.int 0, .int 0, .int 0, .ref r7])), (r7, .inl (cA7, 32, .inl (fun _ => 0))), (q0, .inr (0, [.int 0, .int 0, .int 0, .int 0, .int 0, .int 0]))] := hD
  refine W.widen (k := 12) (n := 327) (by decide) (by decide) ?_
  refine lv_dup hx hb dX10_init_107 rfl ?_
  have hPc := hP.sub (ws' := [(q0, .inr (0, [.int 0, .int 0, .int 0, .int 0, .int 0, .int 0]))]) [12] rfl
  have hDc := hD.sub (ws' := [(q0, .inr (0, [.int 0, .int 0, .int 0, .int 0, .int 0, .int 0]))]) [12] (by decide) rfl
  have hKc := hK.sub (tys' := []) [] rfl
  have hFc := va_free (wc := [(q0, .inr (0, [.int 0, .int 0, .int 0, .int 0, .int 0, .int 0]))]) hD hS hA [12] rfl
  refine va_callv (va_runIN (As := []) (rest := [.ref q0, .ref h0]) ⟨hx, hb, hml, hown, hts⟩ (k_X0_init l D q0 H.size) ⟨va_cnB 0 hts gX10_init_X0_init_n74 rfl rfl rfl n74 (hts (.initialized RX0) (List.mem_cons_of_mem _ (List.mem_append_left _ (List.mem_append_left _ (List.mem_append_left _ (List.mem_append_left _ (List.mem_append_left _ (List.mem_append_left _ (List.mem_append_left _ (List.mem_append_left _ (List.mem_append_left _ (List.mem_append_left _ (List.mem_append_left _ (List.mem_append_right _ (List.mem_append_left _ (List.mem_of_getElem? (i := 17) rfl)))))))))))))))) (by decide +kernel) ⟨Nat.le_of_ble_eq_true rfl, Nat.le_of_ble_eq_true rfl⟩, rfl, (hts (.instanceMethod yX0_init) (List.mem_cons_of_mem _ (List.mem_append_left _ (List.mem_append_left _ (List.mem_append_left _ (List.mem_append_left _ (List.mem_append_left _ (List.mem_append_left _ (List.mem_append_left _ (List.mem_append_left _ (List.mem_append_left _ (List.mem_append_left _ (List.mem_append_left _ (List.mem_append_right _ (List.mem_append_right _ (List.mem_append_right _ (List.mem_append_right _ (List.mem_of_getElem? (i := 10) rfl))))))))))))))))))⟩ ⟨blW okN_T, preW hPc hKc hDc okN_T trivial⟩ rfl rfl hl.1 rfl (lv_room (Nat.le_of_ble_eq_true rfl)) dX10_init_108 ⟨Nat.le_of_ble_eq_true rfl, Nat.le_of_ble_eq_true rfl⟩) hS (fun q _ h => hFc q h) hFc (fun u t H1 locs ht hvm hw hB hz1 hk1 hS => ?_)
  obtain ⟨hP1, hK1, hD1⟩ := hB
  rw [ht] at hP1
  replace hK1 := va_K.moved hvm.symm hK1
  replace hP1 : va_P D vwCl [(q0, .inr (0, [.int 0, .int 0, .int 0, .int 0, .int 0, .int 0]))] H1 := hP1
  replace hD1 : va_D (va_A [(q0, .inr (0, [.int 0, .int 0, .int 0, .int 0, .int 0, .int 0]))] H.size) [(q0, .inr (0, [.int 0, .int 0, .int 0, .int 0, .int 0, .int 0]))] := hD1
  replace hK1 : va_K D vwCl [] s := hK1
  obtain ⟨hP9, hD9⟩ := va_join (wr := [(h0, .inr (10, [.ref q9, .ref q3, .ref q2, .ref q5, .ref q6, .ref q4, .ref q1, .ref q8, .ref q7, .null])), (q9, .inr (9, [.int 0, .int 4096, .int 0, .long 1, .int 0, .int 1, .int 127])), (q3, .inr (3, [.int 65535])), (q2, .inr (2, [.int 0, .ref r2])), (r2, .inl (cA2, 256, .inl (fun _ => 0))), (q5, .inr (5, [.int 0])), (q6, .inr (6, [.int 0, .int 0, .int 0, .int 0, .int 0, .int 0, .int 0])), (q4, .inr (4, [.int 8, .int 1, .int 0, .int 0, .int 0])), (q1, .inr (1, [.int 0, .int 0])), (q8, .inr (8, [.int 0, .int 0, .int 0, .int 0])), (q7, .inr (7, [.int 0, .int 0, .int 0, .ref r7])), (r7, .inl (cA7, 32, .inl (fun _ => 0)))]) (w1 := [(q0, .inr (0, [.int 0, .int 0, .int 0, .int 0, .int 0, .int 0]))]) hP hD [12] [0, 1, 2, 3, 4, 5, 6, 7, 8, 9, 10, 11] rfl rfl (by decide) (by decide) hk1 hFc hP1 hD1
  clear hPc hDc hKc hFc hP1 hD1 hz1 hk1 hw ht hvm t
  replace hK : va_K D vwCl [(cA2, .boolean), (cA7, .int)] s := va_K.app hK hK1
  replace hP : va_P D vwCl [(h0, .inr (10, [.ref q9, .ref q3, .ref q2, .ref q5, .ref q6, .ref q4, .ref q1, .ref q8, .ref q7, .null])), (q9, .inr (9, [.int 0, .int 4096, .int 0, .long 1, .int 0, .int 1, .int 127])), (q3, .inr (3, [.int 65535])), (q2, .inr (2, [.int 0, .ref r2])), (r2, .inl (cA2, 256, .inl (fun _ => 0))), (q5, .inr (5, [.int 0])), (q6, .inr (6, [.int 0, .int 0, .int 0, .int 0, .int 0, .int 0, .int 0])), (q4, .inr (4, [.int 8, .int 1, .int 0, .int 0, .int 0])), (q1, .inr (1, [.int 0, .int 0])), (q8, .inr (8, [.int 0, .int 0, .int 0, .int 0])), (q7, .inr (7, [.int 0, .int 0, .int 0, .ref r7])), (r7, .inl (cA7, 32, .inl (fun _ => 0))), (q0, .inr (0, [.int 0, .int 0, .int 0, .int 0, .int 0, .int 0]))] H1 := hP9
  replace hD : va_D A [(h0, .inr (10, [.ref q9, .ref q3, .ref q2, .ref q5, .ref q6, .ref q4, .ref q1, .ref q8, .ref q7, .null])), (q9, .inr (9, [.int 0, .int 4096, .int 0, .long 1, .int 0, .int 1, .int 127])), (q3, .inr (3, [.int 65535])), (q2, .inr (2, [.int 0, .ref r2])), (r2, .inl (cA2, 256, .inl (fun _ => 0))), (q5, .inr (5, [.int 0])), (q6, .inr (6, [.int 0, .int 0, .int 0, .int 0, .int 0, .int 0, .int 0])), (q4, .inr (4, [.int 8, .int 1, .int 0, .int 0, .int 0])), (q1, .inr (1, [.int 0, .int 0])), (q8, .inr (8, [.int 0, .int 0, .int 0, .int 0])), (q7, .inr (7, [.int 0, .int 0, .int 0, .ref r7])), (r7, .inl (cA7, 32, .inl (fun _ => 0))), (q0, .inr (0, [.int 0, .int 0, .int 0, .int 0, .int 0, .int 0]))] := hD9
  clear hP9 hD9 hK1
  skip
  refine W.widen (k := 12) (n := 327) (by decide) (by decide) ?_
  refine va_putF (D := D) (ci := 10) (v := .ref q0) (ty := .object "Phaselock$Aligner") (C := RX10) (T := TX10) (N := 10) hx hb hts (fun _ h => List.mem_cons_of_mem _ (List.mem_append_left _ (List.mem_append_left _ (List.mem_append_left _ (List.mem_append_left _ (List.mem_append_left _ (List.mem_append_left _ (List.mem_append_left _ (List.mem_append_left _ (List.mem_append_left _ (List.mem_append_right _ (h)))))))))))) tyX10 tyX10_ok nmX10 hown hK hP hD hS 0 rfl rfl 9 (by decide) (hts (.fieldLink RX10 75 "Phaselock" "aligner" "LPhaselock$Aligner;") (List.mem_cons_of_mem _ (List.mem_append_left _ (List.mem_append_left _ (List.mem_append_left _ (List.mem_append_left _ (List.mem_append_left _ (List.mem_append_left _ (List.mem_append_left _ (List.mem_append_left _ (List.mem_append_left _ (List.mem_append_left _ (List.mem_append_left _ (List.mem_append_right _ (List.mem_append_left _ (List.mem_of_getElem? (i := 18) rfl)))))))))))))))) (fun _ h9 => h9) rfl hin rfl (by decide +kernel) rfl rfl (Nat.le_of_ble_eq_true rfl) dX10_init_111 (fun H locs hP hD hS => ?_)
  replace hP : va_P D vwCl [(h0, .inr (10, [.ref q9, .ref q3, .ref q2, .ref q5, .ref q6, .ref q4, .ref q1, .ref q8, .ref q7, .ref q0])), (q9, .inr (9, [.int 0, .int 4096, .int 0, .long 1, .int 0, .int 1, .int 127])), (q3, .inr (3, [.int 65535])), (q2, .inr (2, [.int 0, .ref r2])), (r2, .inl (cA2, 256, .inl (fun _ => 0))), (q5, .inr (5, [.int 0])), (q6, .inr (6, [.int 0, .int 0, .int 0, .int 0, .int 0, .int 0, .int 0])), (q4, .inr (4, [.int 8, .int 1, .int 0, .int 0, .int 0])), (q1, .inr (1, [.int 0, .int 0])), (q8, .inr (8, [.int 0, .int 0, .int 0, .int 0])), (q7, .inr (7, [.int 0, .int 0, .int 0, .ref r7])), (r7, .inl (cA7, 32, .inl (fun _ => 0))), (q0, .inr (0, [.int 0, .int 0, .int 0, .int 0, .int 0, .int 0]))] H := hP
  replace hD : va_D A [(h0, .inr (10, [.ref q9, .ref q3, .ref q2, .ref q5, .ref q6, .ref q4, .ref q1, .ref q8, .ref q7, .ref q0])), (q9, .inr (9, [.int 0, .int 4096, .int 0, .long 1, .int 0, .int 1, .int 127])), (q3, .inr (3, [.int 65535])), (q2, .inr (2, [.int 0, .ref r2])), (r2, .inl (cA2, 256, .inl (fun _ => 0))), (q5, .inr (5, [.int 0])), (q6, .inr (6, [.int 0, .int 0, .int 0, .int 0, .int 0, .int 0, .int 0])), (q4, .inr (4, [.int 8, .int 1, .int 0, .int 0, .int 0])), (q1, .inr (1, [.int 0, .int 0])), (q8, .inr (8, [.int 0, .int 0, .int 0, .int 0])), (q7, .inr (7, [.int 0, .int 0, .int 0, .ref r7])), (r7, .inl (cA7, 32, .inl (fun _ => 0))), (q0, .inr (0, [.int 0, .int 0, .int 0, .int 0, .int 0, .int 0]))] := hD
  obtain ⟨a, ha⟩ : ∃ a : Nat → Nat, a = (fun k => match k with | 0 => h0 | 1 => q9 | 2 => q3 | 3 => q2 | 4 => q5 | 5 => q6 | 6 => q4 | 7 => q1 | 8 => q8 | 9 => q7 | 10 => q0 | 11 => r2 | _ => r7) := ⟨_, rfl⟩
  have hP9 : va_P D vwCl (wP a cA2 cA7 st0) H := by rw [ha]; exact hP.sub [0, 1, 2, 3, 5, 6, 7, 8, 9, 10, 12, 4, 11] rfl
  have hD9 : va_D A (wP a cA2 cA7 st0) := by rw [ha]; exact hD.sub [0, 1, 2, 3, 5, 6, 7, 8, 9, 10, 12, 4, 11] (by decide) rfl
  exact W.vret hx hb hr (fun t ht hW => ⟨⟨(a, cA2, cA7), rfl, (show a 0 = h0 from congrFun ha 0), by rw [ht]; exact hP9, va_K.moved hW.alike hK, hD9⟩, hS.F ht⟩) hS.2.2 dX10_init_114
end
section
/-! what the class answers while it is as it was made (st0) -/
theorem ev_ticks : r_X10_ticks st0 = 0 := by decide +kernel
theorem ev_sent : r_X10_sent st0 = 0 := by decide +kernel
theorem ev_line : r_X10_line st0 = 1 := by decide +kernel
theorem ev_level : r_X10_level st0 = 8 := by decide +kernel
theorem ev_sender : r_X10_sender st0 = 0 := by decide +kernel
theorem ev_receiver : r_X10_receiver st0 = 0 := by decide +kernel
theorem ev_error : r_X10_error st0 = 0 := by decide +kernel
theorem ev_integral : r_X10_integral st0 = 0 := by decide +kernel
theorem ev_control : r_X10_control st0 = 0 := by decide +kernel
theorem ev_received : r_X10_received st0 = 0 := by decide +kernel
theorem ev_repeated : r_X10_repeated st0 = 0 := by decide +kernel
theorem ev_skipped : r_X10_skipped st0 = 0 := by decide +kernel
theorem ev_isLocked : r_X10_isLocked st0 = 0 := by decide +kernel
theorem ev_wander : r_X10_wander st0 = 0 := by decide +kernel
theorem ev_alignment : r_X10_alignment st0 = 0 := by decide +kernel
theorem ev_frames : r_X10_frames st0 = 0 := by decide +kernel
theorem ev_losses : r_X10_losses st0 = 0 := by decide +kernel
theorem scost0 (p : Int32) : ∀ i, scost st0 p i = 0
  | 0 => rfl
  | i + 1 => (if_pos rfl).trans (scost0 p i)
theorem sum0 (p : Int32) : r_X2_sumCosts st0 p = 0 := scost0 p 256
theorem cost0 (p : Int32) : r_X10_cost st0 p = 0 := by
  unfold r_X10_cost
  split
  · rfl
  · exact sum0 p
theorem lcst0 : ∀ i, lcst st0 i = 0
  | 0 => sum0 0
  | i + 1 => by
    show (if lcst st0 i ≤ r_X2_sumCosts st0 (nI (i + 1)) then lcst st0 i else r_X2_sumCosts st0 (nI (i + 1))) = 0
    rw [lcst0 i, sum0]
    exact ite_self 0
theorem bst0 : ∀ i, bst st0 i = 0
  | 0 => rfl
  | i + 1 => by
    show (if lcst st0 i ≤ r_X2_sumCosts st0 (nI (i + 1)) then bst st0 i else nI (i + 1)) = 0
    rw [lcst0 i, sum0, bst0 i]
    exact if_pos (by decide)
theorem ev_bestPhase : r_X10_bestPhase st0 = 0 := bst0 15
theorem xcost0 {i : Nat} (h : i < 16) : x_X10_cost st0 (nI i) = 0 := by
  have h1 : ¬ nI i < 0 := fun q => by
    have q2 : nI i < nI 0 := q
    have := (nI_ltI (by omega) (by decide)).mp q2
    omega
  have h2 : ¬ 15 < nI i := fun q => by
    have q2 : nI 15 < nI i := q
    have := (nI_ltI (by decide) (by omega)).mp q2
    omega
  show (if (if nI i < 0 then (0 : Int32) else if 15 < nI i then 0 else 1) = 0 then (1 : Int32) else 0) = 0
  rw [if_neg h1, if_neg h2]
  decide
theorem xbit0 (p0 : Int32) : x_X10_bit st0 p0 = 1 := by
  have e : v_X1_remembers_1 st0 p0 = 0 := (if_pos (show st0.1 24 < 32 by decide +kernel)).trans (by decide +kernel)
  show (if (if p0 < 1 then (0 : Int32) else if v_X1_remembers_1 st0 p0 < p0 then 0 else 1) = 0 then (1 : Int32) else 0) = 1
  rw [e]
  by_cases h : p0 < 1
  · rw [if_pos h]; decide
  · have e1 : (1 : Int32).toInt = 1 := by decide +kernel
    have e0 : (0 : Int32).toInt = 0 := by decide +kernel
    have q : ¬ p0.toInt < (1 : Int32).toInt := fun z => h (Int32.lt_iff_toInt_lt.mpr z)
    have h2 : (0 : Int32) < p0 := Int32.lt_iff_toInt_lt.mpr (by rw [e0]; rw [e1] at q; omega)
    rw [if_neg h, if_pos h2]; decide
theorem xphase0 : x_X10_phase st0 = 1 := by decide +kernel
theorem rel0 : s_X10_release st0 = st0 := by
  show (upd (upd st0.1 13 0) 12 0, st0.2.1, st0.2.2.1, st0.2.2.2) = (st0.1, st0.2.1, st0.2.2.1, st0.2.2.2)
  refine congrArg (fun f : Nat → Int32 => (f, st0.2.1, st0.2.2.1, st0.2.2.2)) (funext fun k => ?_)
  show (if k = 12 then (0 : Int32) else if k = 13 then 0 else st0.1 k) = st0.1 k
  by_cases h : k = 12
  · rw [if_pos h, h]; decide +kernel
  · rw [if_neg h]
    by_cases h2 : k = 13
    · rw [if_pos h2, h2]; decide +kernel
    · rw [if_neg h2]
/-! two objects side by side -/
theorem twoO {D : va_G} {C B : va_W} {H : Heap} (h : va_P D vwCl (C ++ B) H) : va_P D vwCl C H := subP (X := []) (Y := B) h
theorem twoOD {A : Nat → Prop} {C B : va_W} (h : va_D A (C ++ B)) : va_D A C := subD (X := []) (Y := B) h
theorem twoP {D : va_G} {C B : va_W} {H : Heap} (h : va_P D vwCl (C ++ B) H) : va_P D vwCl B H := subP (X := C) (Y := []) (by rw [List.append_nil]; exact h)
theorem twoPD {A : Nat → Prop} {C B : va_W} (h : va_D A (C ++ B)) : va_D A B := subD (X := C) (Y := []) (by rw [List.append_nil]; exact h)
theorem backO {D : va_G} {A0 : Nat → Prop} {C B : va_W} {as : List Nat} {H H1 : Heap} (hP : va_P D vwCl (C ++ B) H) (hD : va_D A0 (C ++ B)) (eC : C.map (fun q => q.1) = as) (hk : ∀ q : Nat, q < H.size → ¬ aA as H.size q → H1[q]? = H[q]?) (hP1 : va_P D vwCl C H1) : va_P D vwCl (C ++ B) H1 :=
  (joinW (X := []) (C := C) (C1 := C) (Y := B) hP hD eC eC hk hP1).1
theorem backP {D : va_G} {A0 : Nat → Prop} {C B : va_W} {as : List Nat} {H H1 : Heap} (hP : va_P D vwCl (C ++ B) H) (hD : va_D A0 (C ++ B)) (eC : B.map (fun q => q.1) = as) (hk : ∀ q : Nat, q < H.size → ¬ aA as H.size q → H1[q]? = H[q]?) (hP1 : va_P D vwCl B H1) : va_P D vwCl (C ++ B) H1 := by
  have h := (joinW (X := C) (C := B) (C1 := B) (Y := []) (by rw [List.append_nil]; exact hP) (by rw [List.append_nil]; exact hD) eC eC hk hP1).1
  rw [List.append_nil] at h
  exact h
end
section
def rm_L_bit : Room := { frames := 7, cells := 1, slots := 6, locals := 103 }
set_option maxRecDepth 100000 in
set_option maxHeartbeats 4000000 in
theorem k_L_bit (l : Launch) (hfl : l.stackTraces = false) (D : va_G) (a : Nat → Nat) (cZ cI : ClassId) (sz : Nat) (p0 : Int32) : Met l yL_bit wsL_bit rm_L_bit (va_Pc [.ref (a 0), .int p0] (pY D (tyZI cZ cI) (wP a cZ cI st0) sz (adP a))) (va_Qi (fun (r : Int32) (_ : Unit) => r = -99999) (fun _ t => oW D (tyZI cZ cI) (wP a cZ cI st0) (aA (adP a) sz) t ∧ sz < t.heap.size) (aA (adP a) sz)) 1 6 (aA (adP a) sz) := by
  refine va_MetW (cc := cL_bit) (maxL := 3) (ret := (some .int)) (by decide +kernel) rfl ?_
  intro p e s m args below meth c s₁ B hml hv
  obtain ⟨rfl, ⟨hsz, hP0, hK, hD9, hNY⟩, hZ⟩ := hv
  have hN := hNY.1
  have hx := B.exec
  have hb := B.bytes
  have hr := B.returns
  have hts := atoms_spec (ws := wsL_bit) B.pre
  have hown : s.vm.findClass RL = some m.cls := findClass_of_methodNamed B.named
  have hlocks := B.notSynchronized
  have htab := vx_table (x := yL_bit) B (hts _ List.mem_cons_self)
  subst hsz
  have hD := aA_self (sz := s.heap.size) (as := adP a) hD9 rfl
  generalize hAe : aA (adP a) s.heap.size = A at hD hZ ⊢
  have hA : ∀ q : Nat, s.heap.size ≤ q → A q := fun q h => by rw [← hAe]; exact Or.inr h
  have hAc : ∀ q : Nat, q ∈ adP a → A q := fun q h => by rw [← hAe]; exact Or.inl h
  have hS0 : va_S A s.heap s.heap [] := va_S.rf
  have hn0 : s.heap.size + 0 ≤ s.heap.size := Nat.le_refl _
  have hl0 := lv_entry ([.ref (a 0), .int p0]) (n := 3) (Nat.le_of_ble_eq_true rfl)
  rw [lg_entry_eq]
  generalize (lg_sl ([.ref (a 0), .int p0]) ++ List.replicate (3 - (lg_sl ([.ref (a 0), .int p0])).length) Slot.unset).toArray = ls0 at hl0 ⊢
  have hl0 : lv_has ls0 3 [(0, .ref (a 0)), (1, .int p0)] := hl0
  clear hD9
  refine lv_aload_n hx hb dL_bit_0 rfl (lv_at hl0 0 rfl) ?_
  refine lv_iload_n hx hb dL_bit_1 rfl (lv_at hl0 1 rfl) ?_
  refine vx_calli (vx_runV (As := [.int p0]) (rest := []) ⟨hx, hb, hml, hown, hts⟩ (k_X10_bit l hfl D a cZ cI st0 s.heap.size p0) (cwV 1 hts gL_bit_X10_bit rfl rfl rfl (by decide +kernel) ⟨Nat.le_of_ble_eq_true rfl, Nat.le_of_ble_eq_true rfl⟩) ⟨blY, va_recv hK hP0 (ci := 10) (q0 := 0) rfl rfl, preY hP0 hK hD hNY hZ hS0 (aA_free hAc hA hS0)⟩ rfl rfl hl0.1 rfl (lv_room (Nat.le_of_ble_eq_true rfl)) dL_bit_2 ⟨Nat.le_of_ble_eq_true rfl, Nat.le_of_ble_eq_true rfl⟩) hS0 (aA_in hAc) (aA_free hAc hA hS0) (aA_in hAc) (fun E ce q9 u t H1 L1 ht hvm hw hB hz hk1 hS1 hce hcv hcl => ?_) (fun r u t H1 L1 ht hvm hw hB hz hk1 hS1 => ?_)
  · obtain ⟨hu, hxx⟩ := hw
    obtain ⟨rfl, hB, hg⟩ := hB
    subst u
    have hP1 : va_P D vwCl (wP a cZ cI st0) H1 := by rw [← ht]; exact hB.1
    rw [ht] at hg
    refine vx_catch hown (name := "java/lang/IndexOutOfBoundsException") [] ⟨0, 5, 6, 36⟩ [] htab (fun _ h => nomatch h) (by decide) (by decide) (hts (.classLink RL 36 "java/lang/IndexOutOfBoundsException") (List.mem_cons_of_mem _ (List.mem_append_left _ (List.mem_append_left _ (List.mem_append_left _ (List.mem_append_left _ (List.mem_of_getElem? (i := 0) rfl))))))) (va_Nw.use rfl hNY.2.2.1) hce hcv hcl ?_
    refine lv_astore_n (lv' := [(2, .ref q9), (0, .ref (a 0)), (1, .int p0)]) hx hb dL_bit_6 rfl hl0 (by decide) rfl (fun ls1 hl1 => ?_)
    refine lv_ldc (v := (-99999)) hx hb hown (hts (.constant RL 25 (-99999)) (List.mem_cons_of_mem _ (List.mem_append_left _ (List.mem_append_left _ (List.mem_append_left _ (List.mem_append_left _ (List.mem_of_getElem? (i := 1) rfl))))))) dL_bit_7 ?_
    exact W.iret (v := (-99999)) hx hb hr (fun t ht hW => ⟨⟨(-99999), (), rfl, rfl, endW hP1 hK hD ht hW, by rw [ht]; exact hg⟩, hS1.F ht⟩) hS1.2.2 dL_bit_9
  · exact absurd (hw.1.symm.trans (xbit0 p0)) (by decide)

def rm_L_phase : Room := { frames := 7, cells := 1, slots := 6, locals := 102 }
set_option maxRecDepth 100000 in
set_option maxHeartbeats 4000000 in
theorem k_L_phase (l : Launch) (hfl : l.stackTraces = false) (D : va_G) (a : Nat → Nat) (cZ cI : ClassId) (sz : Nat) : Met l yL_phase wsL_phase rm_L_phase (va_Pc [.ref (a 0)] (pY D (tyZI cZ cI) (wP a cZ cI st0) sz (adP a))) (va_Qi (fun (r : Int32) (_ : Unit) => r = -99999) (fun _ t => oW D (tyZI cZ cI) (wP a cZ cI st0) (aA (adP a) sz) t ∧ sz < t.heap.size) (aA (adP a) sz)) 1 6 (aA (adP a) sz) := by
  refine va_MetW (cc := cL_phase) (maxL := 2) (ret := (some .int)) (by decide +kernel) rfl ?_
  intro p e s m args below meth c s₁ B hml hv
  obtain ⟨rfl, ⟨hsz, hP0, hK, hD9, hNY⟩, hZ⟩ := hv
  have hN := hNY.1
  have hx := B.exec
  have hb := B.bytes
  have hr := B.returns
  have hts := atoms_spec (ws := wsL_phase) B.pre
  have hown : s.vm.findClass RL = some m.cls := findClass_of_methodNamed B.named
  have hlocks := B.notSynchronized
  have htab := vx_table (x := yL_phase) B (hts _ List.mem_cons_self)
  subst hsz
  have hD := aA_self (sz := s.heap.size) (as := adP a) hD9 rfl
  generalize hAe : aA (adP a) s.heap.size = A at hD hZ ⊢
  have hA : ∀ q : Nat, s.heap.size ≤ q → A q := fun q h => by rw [← hAe]; exact Or.inr h
  have hAc : ∀ q : Nat, q ∈ adP a → A q := fun q h => by rw [← hAe]; exact Or.inl h
  have hS0 : va_S A s.heap s.heap [] := va_S.rf
  have hn0 : s.heap.size + 0 ≤ s.heap.size := Nat.le_refl _
  have hl0 := lv_entry ([.ref (a 0)]) (n := 2) (Nat.le_of_ble_eq_true rfl)
  rw [lg_entry_eq]
  generalize (lg_sl ([.ref (a 0)]) ++ List.replicate (2 - (lg_sl ([.ref (a 0)])).length) Slot.unset).toArray = ls0 at hl0 ⊢
  have hl0 : lv_has ls0 2 [(0, .ref (a 0))] := hl0
  clear hD9
  refine lv_aload_n hx hb dL_phase_0 rfl (lv_at hl0 0 rfl) ?_
  refine vx_calli (vx_runV (As := []) (rest := []) ⟨hx, hb, hml, hown, hts⟩ (k_X10_phase l hfl D a cZ cI st0 s.heap.size) (cwV 0 hts gL_phase_X10_phase rfl rfl rfl (by decide +kernel) ⟨Nat.le_of_ble_eq_true rfl, Nat.le_of_ble_eq_true rfl⟩) ⟨blY, va_recv hK hP0 (ci := 10) (q0 := 0) rfl rfl, preY hP0 hK hD hNY hZ hS0 (aA_free hAc hA hS0)⟩ rfl rfl hl0.1 rfl (lv_room (Nat.le_of_ble_eq_true rfl)) dL_phase_1 ⟨Nat.le_of_ble_eq_true rfl, Nat.le_of_ble_eq_true rfl⟩) hS0 (aA_in hAc) (aA_free hAc hA hS0) (aA_in hAc) (fun E ce q9 u t H1 L1 ht hvm hw hB hz hk1 hS1 hce hcv hcl => ?_) (fun r u t H1 L1 ht hvm hw hB hz hk1 hS1 => ?_)
  · obtain ⟨hu, hxx⟩ := hw
    obtain ⟨rfl, hB, hg⟩ := hB
    subst u
    have hP1 : va_P D vwCl (wP a cZ cI st0) H1 := by rw [← ht]; exact hB.1
    rw [ht] at hg
    refine vx_catch hown (name := "java/lang/IllegalStateException") [] ⟨0, 4, 5, 42⟩ [] htab (fun _ h => nomatch h) (by decide) (by decide) (hts (.classLink RL 42 "java/lang/IllegalStateException") (List.mem_cons_of_mem _ (List.mem_append_left _ (List.mem_append_left _ (List.mem_append_left _ (List.mem_of_getElem? (i := 0) rfl)))))) (va_Nw.use rfl hNY.2.2.2.1) hce hcv hcl ?_
    refine lv_astore_n (lv' := [(1, .ref q9), (0, .ref (a 0))]) hx hb dL_phase_5 rfl hl0 (by decide) rfl (fun ls1 hl1 => ?_)
    refine lv_ldc (v := (-99999)) hx hb hown (hts (.constant RL 25 (-99999)) (List.mem_cons_of_mem _ (List.mem_append_left _ (List.mem_append_left _ (List.mem_append_left _ (List.mem_of_getElem? (i := 1) rfl)))))) dL_phase_6 ?_
    exact W.iret (v := (-99999)) hx hb hr (fun t ht hW => ⟨⟨(-99999), (), rfl, rfl, endW hP1 hK hD ht hW, by rw [ht]; exact hg⟩, hS1.F ht⟩) hS1.2.2 dL_phase_8
  · exact absurd (hw.1.symm.trans xphase0) (by decide)

/-- nothing is asked of the heap but its size -/
theorem blS {av : List Value} {sz : Nat} : FrameBlind (va_Pc av (fun U => U.heap.size = sz)) := fun _ _ _ _ q => q
def rm_L_low : Room := { frames := 0, cells := 0, slots := 0, locals := 0 }
set_option maxRecDepth 100000 in
set_option maxHeartbeats 4000000 in
theorem k_L_low (l : Launch) (sz : Nat) (p0 p1 : Int32) (h0 : ¬ p1 = 0) : Met l yL_low wsL_low rm_L_low (va_Pc [.int p0, .int p1] (fun U => U.heap.size = sz)) (va_Qi (fun (r : Int32) (_ : Unit) => r = (p0 &&& 2147483647) - (p0 &&& 2147483647) / p1 * p1) (fun _ _ => True) (fun q => sz ≤ q)) 0 0 (fun q => sz ≤ q) := by
  refine Met.ofW (cc := cL_low) (maxL := 2) (ret := (some .int)) (by decide +kernel) rfl ?_
  intro p e s m args below meth c s₁ B hml hv
  obtain ⟨rfl, hsz⟩ := hv
  have hx := B.exec
  have hb := B.bytes
  have hr := B.returns
  have hts := atoms_spec (ws := wsL_low) B.pre
  have hown : s.vm.findClass RL = some m.cls := findClass_of_methodNamed B.named
  have hlocks := B.notSynchronized
  have hl0 := lv_entry ([.int p0, .int p1]) (n := 2) (Nat.le_of_ble_eq_true rfl)
  rw [lg_entry_eq]
  generalize (lg_sl ([.int p0, .int p1]) ++ List.replicate (2 - (lg_sl ([.int p0, .int p1])).length) Slot.unset).toArray = ls0 at hl0 ⊢
  have hl0 : lv_has ls0 2 [(0, .int p0), (1, .int p1)] := hl0
  generalize hQ : MQ below _ _ s _ _ _ = Q
  skip
  have hS0 : va_S (fun q => sz ≤ q) s.heap s.heap [] := va_S.rf
  refine lv_iload_n hx hb dL_low_0 rfl (lv_at hl0 0 rfl) ?_
  refine lv_ldc (v := 2147483647) hx hb hown (hts (.constant RL 7 (2147483647)) (List.mem_cons_of_mem _ (List.mem_of_getElem? (i := 0) rfl))) dL_low_1 ?_
  refine lv_iand hx hb dL_low_3 ?_
  refine lv_iload_n hx hb dL_low_4 rfl (lv_at hl0 1 rfl) ?_
  refine lv_irem hx hb dL_low_5 h0 ?_
  subst hQ; exact W.iret (v := (p0 &&& 2147483647) - (p0 &&& 2147483647) / p1 * p1) hx hb hr (fun t ht hW => ⟨⟨_, (), rfl, rfl, trivial⟩, hS0.F ht⟩) hS0.2.2 dL_low_6

def pX9 (b L : Nat) (xs : Nat → Int32) (sz : Nat) (U : State) : Prop := U.heap.size = sz ∧ va_X b L xs U U.heap ∧ b < U.heap.size
theorem blX9 {av : List Value} {b L : Nat} {xs : Nat → Int32} {sz : Nat} : FrameBlind (va_Pc av (pX9 b L xs sz)) := fun a U g mk q => by
  obtain ⟨q0, q1, q2, q3⟩ := q
  exact ⟨q0, q1, va_X.moved (u := U) (U := U.calling g mk a) (Vm.Alike.refl U.vm) q2, q3⟩
def rm_L_cell : Room := { frames := 0, cells := 0, slots := 0, locals := 0 }
set_option maxRecDepth 100000 in
set_option maxHeartbeats 4000000 in
theorem k_L_cell (l : Launch) (b L : Nat) (xs : Nat → Int32) (sz k : Nat) (hk : k < L) (hL : L ≤ 260) : Met l yL_cell wsL_cell rm_L_cell (va_Pc [.ref b, .int (nI k)] (pX9 b L xs sz)) (va_Qi (fun (r : Int32) (_ : Unit) => r = xs k) (fun _ _ => True) (fun q => sz ≤ q)) 0 0 (fun q => sz ≤ q) := by
  refine Met.ofW (cc := cL_cell) (maxL := 2) (ret := (some .int)) (by decide +kernel) rfl ?_
  intro p e s m args below meth c s₁ B hml hv
  obtain ⟨rfl, hsz⟩ := hv
  have hx := B.exec
  have hb := B.bytes
  have hr := B.returns
  have hts := atoms_spec (ws := wsL_cell) B.pre
  have hown : s.vm.findClass RL = some m.cls := findClass_of_methodNamed B.named
  have hlocks := B.notSynchronized
  have hl0 := lv_entry ([.ref b, .int (nI k)]) (n := 2) (Nat.le_of_ble_eq_true rfl)
  rw [lg_entry_eq]
  generalize (lg_sl ([.ref b, .int (nI k)]) ++ List.replicate (2 - (lg_sl ([.ref b, .int (nI k)])).length) Slot.unset).toArray = ls0 at hl0 ⊢
  have hl0 : lv_has ls0 2 [(0, .ref b), (1, .int (nI k))] := hl0
  generalize hQ : MQ below _ _ s _ _ _ = Q
  skip
  obtain ⟨hsz, hX, hbl⟩ := hsz
  have hS0 : va_S (fun q => sz ≤ q) s.heap s.heap [] := va_S.rf
  have hbA : ¬ sz ≤ b := by rw [← hsz]; exact Nat.not_le.mpr hbl
  refine lv_iload_n hx hb dL_cell_0 rfl (lv_at hl0 1 rfl) ?_
  refine lv_aload_n hx hb dL_cell_1 rfl (lv_at hl0 0 rfl) ?_
  refine va_slen (A := fun q => sz ≤ q) hx hb hX hbl hbA hS0 dL_cell_2 ?_
  have hlt : ¬ Int32.ofNat L ≤ nI k := fun q => by
    have := (nI_leI (a := L) (b := k) (by omega) (by omega)).mp q
    omega
  refine lv_icmp_ge (tgt := 12) hx hb dL_cell_3 (by decide) (fun c1 => absurd c1 hlt) (fun c1 => ?_)
  refine lv_aload_n hx hb dL_cell_6 rfl (lv_at hl0 0 rfl) ?_
  refine lv_iload_n hx hb dL_cell_7 rfl (lv_at hl0 1 rfl) ?_
  refine va_sld (A := fun q => sz ≤ q) hx hb hX hbl hbA hS0 (vp_in_nI hk (by omega)) dL_cell_8 ?_
  refine lv_goto (tgt := 27) hx hb dL_cell_9 (by decide) ?_
  refine lv_asi (y := xs k) (by rw [nI_clamp (by omega)]) ?_
  subst hQ; exact W.iret (v := xs k) hx hb hr (fun t ht hW => ⟨⟨_, (), rfl, rfl, trivial⟩, hS0.F ht⟩) hS0.2.2 dL_cell_27
end
section
def rm_L_isLineSo : Room := { frames := 3, cells := 0, slots := 0, locals := 60 }
set_option maxRecDepth 100000 in
set_option maxHeartbeats 4000000 in
theorem k_L_isLineSo (l : Launch) (hfl : l.stackTraces = false) (D : va_G) (a : Nat → Nat) (cZ cI : ClassId) (sz : Nat) : Met l yL_isLineSo wsL_isLineSo rm_L_isLineSo (va_Pc [.ref (a 0)] (pY D (tyZI cZ cI) (wP a cZ cI st0) sz (adP a))) (va_Qi (fun (r : Int32) (_ : Unit) => r = 1) (fun _ t => oW D (tyZI cZ cI) (wP a cZ cI st0) (aA (adP a) sz) t) (aA (adP a) sz)) 0 0 (aA (adP a) sz) := by
  refine Met.ofW (cc := cL_isLineSo) (maxL := 2) (ret := (some .boolean)) (by decide +kernel) rfl ?_
  intro p e s m args below meth c s₁ B hml hv
  obtain ⟨rfl, ⟨hsz, hP0, hK, hD9, hNY⟩, hZ⟩ := hv
  have hN := hNY.1
  have hx := B.exec
  have hb := B.bytes
  have hr := B.returns
  have hts := atoms_spec (ws := wsL_isLineSo) B.pre
  have hown : s.vm.findClass RL = some m.cls := findClass_of_methodNamed B.named
  have hlocks := B.notSynchronized
  subst hsz
  have hD := aA_self (sz := s.heap.size) (as := adP a) hD9 rfl
  generalize hAe : aA (adP a) s.heap.size = A at hD hZ ⊢
  have hA : ∀ q : Nat, s.heap.size ≤ q → A q := fun q h => by rw [← hAe]; exact Or.inr h
  have hAc : ∀ q : Nat, q ∈ adP a → A q := fun q h => by rw [← hAe]; exact Or.inl h
  have hS0 : va_S A s.heap s.heap [] := va_S.rf
  have hn0 : s.heap.size + 0 ≤ s.heap.size := Nat.le_refl _
  have hl0 := lv_entry ([.ref (a 0)]) (n := 2) (Nat.le_of_ble_eq_true rfl)
  rw [lg_entry_eq]
  generalize (lg_sl ([.ref (a 0)]) ++ List.replicate (2 - (lg_sl ([.ref (a 0)])).length) Slot.unset).toArray = ls0 at hl0 ⊢
  have hl0 : lv_has ls0 2 [(0, .ref (a 0))] := hl0
  generalize hQ : MQ below _ _ s _ _ _ = Q
  clear hD9 B
  refine lv_aload_n hx hb dL_isLineSo_0 rfl (lv_at hl0 0 rfl) ?_
  refine va_calli (va_runV (As := []) (rest := []) ⟨hx, hb, hml, hown, hts⟩ (k_X10_line l D a cZ cI st0 s.heap.size) (cwV 0 hts gL_isLineSo_X10_line rfl rfl rfl (by decide +kernel) ⟨Nat.le_of_ble_eq_true rfl, Nat.le_of_ble_eq_true rfl⟩) ⟨blW okN_P, va_recv hK hP0 (ci := 10) (q0 := 0) rfl rfl, preW hP0 hK hD okN_P hN⟩ rfl rfl hl0.1 rfl (lv_room (Nat.le_of_ble_eq_true rfl)) dL_isLineSo_1 ⟨Nat.le_of_ble_eq_true rfl, Nat.le_of_ble_eq_true rfl⟩) hS0 (aA_in hAc) (aA_free hAc hA hS0) (fun r1 u1 t1 H1 L1 ht1 hvm1 hw1 hB1 hz1 hk1 hS1 => ?_)
  obtain ⟨hu1, hr1⟩ := hw1
  subst u1; subst r1
  have hP1 : va_P D vwCl (wP a cZ cI st0) H1 := (by rw [← ht1]; exact hB1.1)
  have hn1 : s.heap.size + 0 ≤ H1.size := Nat.le_trans hn0 hz1
  clear ht1 hvm1 hB1 hz1 hk1
  refine lv_asi (y := 1) ev_line ?_
  refine lv_if_lt (tgt := 145) hx hb dL_isLineSo_4 (by decide) (fun c1 => absurd c1 (by decide)) (fun c1 => ?_)
  refine lv_aload_n hx hb dL_isLineSo_7 rfl (lv_at hl0 0 rfl) ?_
  refine va_calli (va_runV (As := []) (rest := []) ⟨hx, hb, hml, hown, hts⟩ (k_X10_line l D a cZ cI st0 H1.size) (cwV 0 hts gL_isLineSo_X10_line rfl rfl rfl (by decide +kernel) ⟨Nat.le_of_ble_eq_true rfl, Nat.le_of_ble_eq_true rfl⟩) ⟨blW okN_P, va_recv hK hP1 (ci := 10) (q0 := 0) rfl rfl, preW hP1 hK hD okN_P hN⟩ rfl rfl hl0.1 rfl (lv_room (Nat.le_of_ble_eq_true rfl)) dL_isLineSo_8 ⟨Nat.le_of_ble_eq_true rfl, Nat.le_of_ble_eq_true rfl⟩) hS1 (aA_in hAc) (aA_free hAc hA hS1) (fun r2 u2 t2 H2 L2 ht2 hvm2 hw2 hB2 hz2 hk2 hS2 => ?_)
  obtain ⟨hu2, hr2⟩ := hw2
  subst u2; subst r2
  have hP2 : va_P D vwCl (wP a cZ cI st0) H2 := (by rw [← ht2]; exact hB2.1)
  have hn2 : s.heap.size + 0 ≤ H2.size := Nat.le_trans hn1 hz2
  clear ht2 hvm2 hB2 hz2 hk2
  refine lv_asi (y := 1) ev_line ?_
  refine lv_iconst (v := 2) hx hb dL_isLineSo_11 (by decide) ?_
  refine lv_icmp_ge (tgt := 145) hx hb dL_isLineSo_12 (by decide) (fun c1 => absurd c1 (by decide)) (fun c1 => ?_)
  refine lv_aload_n hx hb dL_isLineSo_15 rfl (lv_at hl0 0 rfl) ?_
  refine va_calli (va_runV (As := []) (rest := []) ⟨hx, hb, hml, hown, hts⟩ (k_X10_level l D a cZ cI st0 H2.size) (cwV 0 hts gL_isLineSo_X10_level rfl rfl rfl (by decide +kernel) ⟨Nat.le_of_ble_eq_true rfl, Nat.le_of_ble_eq_true rfl⟩) ⟨blW okN_P, va_recv hK hP2 (ci := 10) (q0 := 0) rfl rfl, preW hP2 hK hD okN_P hN⟩ rfl rfl hl0.1 rfl (lv_room (Nat.le_of_ble_eq_true rfl)) dL_isLineSo_16 ⟨Nat.le_of_ble_eq_true rfl, Nat.le_of_ble_eq_true rfl⟩) hS2 (aA_in hAc) (aA_free hAc hA hS2) (fun r3 u3 t3 H3 L3 ht3 hvm3 hw3 hB3 hz3 hk3 hS3 => ?_)
  obtain ⟨hu3, hr3⟩ := hw3
  subst u3; subst r3
  have hP3 : va_P D vwCl (wP a cZ cI st0) H3 := (by rw [← ht3]; exact hB3.1)
  have hn3 : s.heap.size + 0 ≤ H3.size := Nat.le_trans hn2 hz3
  clear ht3 hvm3 hB3 hz3 hk3
  refine lv_asi (y := 8) ev_level ?_
  refine lv_iconst (v := 2) hx hb dL_isLineSo_19 (by decide) ?_
  refine lv_irem hx hb dL_isLineSo_20 (by decide) ?_
  refine lv_asi (y := 0) (by decide +kernel) ?_
  refine lv_if_ne (tgt := 145) hx hb dL_isLineSo_21 (by decide) (fun c1 => absurd c1 (by decide)) (fun c1 => ?_)
  refine lv_aload_n hx hb dL_isLineSo_24 rfl (lv_at hl0 0 rfl) ?_
  refine va_calli (va_runV (As := []) (rest := []) ⟨hx, hb, hml, hown, hts⟩ (k_X10_level l D a cZ cI st0 H3.size) (cwV 0 hts gL_isLineSo_X10_level rfl rfl rfl (by decide +kernel) ⟨Nat.le_of_ble_eq_true rfl, Nat.le_of_ble_eq_true rfl⟩) ⟨blW okN_P, va_recv hK hP3 (ci := 10) (q0 := 0) rfl rfl, preW hP3 hK hD okN_P hN⟩ rfl rfl hl0.1 rfl (lv_room (Nat.le_of_ble_eq_true rfl)) dL_isLineSo_25 ⟨Nat.le_of_ble_eq_true rfl, Nat.le_of_ble_eq_true rfl⟩) hS3 (aA_in hAc) (aA_free hAc hA hS3) (fun r4 u4 t4 H4 L4 ht4 hvm4 hw4 hB4 hz4 hk4 hS4 => ?_)
  obtain ⟨hu4, hr4⟩ := hw4
  subst u4; subst r4
  have hP4 : va_P D vwCl (wP a cZ cI st0) H4 := (by rw [← ht4]; exact hB4.1)
  have hn4 : s.heap.size + 0 ≤ H4.size := Nat.le_trans hn3 hz4
  clear ht4 hvm4 hB4 hz4 hk4
  refine lv_asi (y := 8) ev_level ?_
  refine lv_bipush (v := (-8)) hx hb dL_isLineSo_28 (by decide) ?_
  refine lv_icmp_lt (tgt := 145) hx hb dL_isLineSo_30 (by decide) (fun c1 => absurd c1 (by decide)) (fun c1 => ?_)
  refine lv_aload_n hx hb dL_isLineSo_33 rfl (lv_at hl0 0 rfl) ?_
  refine va_calli (va_runV (As := []) (rest := []) ⟨hx, hb, hml, hown, hts⟩ (k_X10_level l D a cZ cI st0 H4.size) (cwV 0 hts gL_isLineSo_X10_level rfl rfl rfl (by decide +kernel) ⟨Nat.le_of_ble_eq_true rfl, Nat.le_of_ble_eq_true rfl⟩) ⟨blW okN_P, va_recv hK hP4 (ci := 10) (q0 := 0) rfl rfl, preW hP4 hK hD okN_P hN⟩ rfl rfl hl0.1 rfl (lv_room (Nat.le_of_ble_eq_true rfl)) dL_isLineSo_34 ⟨Nat.le_of_ble_eq_true rfl, Nat.le_of_ble_eq_true rfl⟩) hS4 (aA_in hAc) (aA_free hAc hA hS4) (fun r5 u5 t5 H5 L5 ht5 hvm5 hw5 hB5 hz5 hk5 hS5 => ?_)
  obtain ⟨hu5, hr5⟩ := hw5
  subst u5; subst r5
  have hP5 : va_P D vwCl (wP a cZ cI st0) H5 := (by rw [← ht5]; exact hB5.1)
  have hn5 : s.heap.size + 0 ≤ H5.size := Nat.le_trans hn4 hz5
  clear ht5 hvm5 hB5 hz5 hk5
  refine lv_asi (y := 8) ev_level ?_
  refine lv_bipush (v := 8) hx hb dL_isLineSo_37 (by decide) ?_
  refine lv_icmp_gt (tgt := 145) hx hb dL_isLineSo_39 (by decide) (fun c1 => absurd c1 (by decide)) (fun c1 => ?_)
  refine lv_aload_n hx hb dL_isLineSo_42 rfl (lv_at hl0 0 rfl) ?_
  refine va_calli (va_runV (As := []) (rest := []) ⟨hx, hb, hml, hown, hts⟩ (k_X10_sender l D a cZ cI st0 H5.size) (cwV 0 hts gL_isLineSo_X10_sender rfl rfl rfl (by decide +kernel) ⟨Nat.le_of_ble_eq_true rfl, Nat.le_of_ble_eq_true rfl⟩) ⟨blW okN_P, va_recv hK hP5 (ci := 10) (q0 := 0) rfl rfl, preW hP5 hK hD okN_P hN⟩ rfl rfl hl0.1 rfl (lv_room (Nat.le_of_ble_eq_true rfl)) dL_isLineSo_43 ⟨Nat.le_of_ble_eq_true rfl, Nat.le_of_ble_eq_true rfl⟩) hS5 (aA_in hAc) (aA_free hAc hA hS5) (fun r6 u6 t6 H6 L6 ht6 hvm6 hw6 hB6 hz6 hk6 hS6 => ?_)
  obtain ⟨hu6, hr6⟩ := hw6
  subst u6; subst r6
  have hP6 : va_P D vwCl (wP a cZ cI st0) H6 := (by rw [← ht6]; exact hB6.1)
  have hn6 : s.heap.size + 0 ≤ H6.size := Nat.le_trans hn5 hz6
  clear ht6 hvm6 hB6 hz6 hk6
  refine lv_asi (y := 0) ev_sender ?_
  refine lv_if_lt (tgt := 145) hx hb dL_isLineSo_46 (by decide) (fun c1 => absurd c1 (by decide)) (fun c1 => ?_)
  refine lv_aload_n hx hb dL_isLineSo_49 rfl (lv_at hl0 0 rfl) ?_
  refine va_calli (va_runV (As := []) (rest := []) ⟨hx, hb, hml, hown, hts⟩ (k_X10_sender l D a cZ cI st0 H6.size) (cwV 0 hts gL_isLineSo_X10_sender rfl rfl rfl (by decide +kernel) ⟨Nat.le_of_ble_eq_true rfl, Nat.le_of_ble_eq_true rfl⟩) ⟨blW okN_P, va_recv hK hP6 (ci := 10) (q0 := 0) rfl rfl, preW hP6 hK hD okN_P hN⟩ rfl rfl hl0.1 rfl (lv_room (Nat.le_of_ble_eq_true rfl)) dL_isLineSo_50 ⟨Nat.le_of_ble_eq_true rfl, Nat.le_of_ble_eq_true rfl⟩) hS6 (aA_in hAc) (aA_free hAc hA hS6) (fun r7 u7 t7 H7 L7 ht7 hvm7 hw7 hB7 hz7 hk7 hS7 => ?_)
  obtain ⟨hu7, hr7⟩ := hw7
  subst u7; subst r7
  have hP7 : va_P D vwCl (wP a cZ cI st0) H7 := (by rw [← ht7]; exact hB7.1)
  have hn7 : s.heap.size + 0 ≤ H7.size := Nat.le_trans hn6 hz7
  clear ht7 hvm7 hB7 hz7 hk7
  refine lv_asi (y := 0) ev_sender ?_
  refine lv_ldc (v := 65536) hx hb hown (hts (.constant RL 61 (65536)) (List.mem_cons_of_mem _ (List.mem_append_left _ (List.mem_append_left _ (List.mem_append_left _ (List.mem_append_left _ (List.mem_append_left _ (List.mem_append_left _ (List.mem_append_left _ (List.mem_of_getElem? (i := 0) rfl)))))))))) dL_isLineSo_53 ?_
  refine lv_icmp_ge (tgt := 145) hx hb dL_isLineSo_55 (by decide) (fun c1 => absurd c1 (by decide)) (fun c1 => ?_)
  refine lv_aload_n hx hb dL_isLineSo_58 rfl (lv_at hl0 0 rfl) ?_
  refine va_calli (va_runV (As := []) (rest := []) ⟨hx, hb, hml, hown, hts⟩ (k_X10_receiver l D a cZ cI st0 H7.size) (cwV 0 hts gL_isLineSo_X10_receiver rfl rfl rfl (by decide +kernel) ⟨Nat.le_of_ble_eq_true rfl, Nat.le_of_ble_eq_true rfl⟩) ⟨blW okN_P, va_recv hK hP7 (ci := 10) (q0 := 0) rfl rfl, preW hP7 hK hD okN_P hN⟩ rfl rfl hl0.1 rfl (lv_room (Nat.le_of_ble_eq_true rfl)) dL_isLineSo_59 ⟨Nat.le_of_ble_eq_true rfl, Nat.le_of_ble_eq_true rfl⟩) hS7 (aA_in hAc) (aA_free hAc hA hS7) (fun r8 u8 t8 H8 L8 ht8 hvm8 hw8 hB8 hz8 hk8 hS8 => ?_)
  obtain ⟨hu8, hr8⟩ := hw8
  subst u8; subst r8
  have hP8 : va_P D vwCl (wP a cZ cI st0) H8 := (by rw [← ht8]; exact hB8.1)
  have hn8 : s.heap.size + 0 ≤ H8.size := Nat.le_trans hn7 hz8
  clear ht8 hvm8 hB8 hz8 hk8
  refine lv_asi (y := 0) ev_receiver ?_
  refine lv_if_lt (tgt := 145) hx hb dL_isLineSo_62 (by decide) (fun c1 => absurd c1 (by decide)) (fun c1 => ?_)
  refine lv_aload_n hx hb dL_isLineSo_65 rfl (lv_at hl0 0 rfl) ?_
  refine va_calli (va_runV (As := []) (rest := []) ⟨hx, hb, hml, hown, hts⟩ (k_X10_receiver l D a cZ cI st0 H8.size) (cwV 0 hts gL_isLineSo_X10_receiver rfl rfl rfl (by decide +kernel) ⟨Nat.le_of_ble_eq_true rfl, Nat.le_of_ble_eq_true rfl⟩) ⟨blW okN_P, va_recv hK hP8 (ci := 10) (q0 := 0) rfl rfl, preW hP8 hK hD okN_P hN⟩ rfl rfl hl0.1 rfl (lv_room (Nat.le_of_ble_eq_true rfl)) dL_isLineSo_66 ⟨Nat.le_of_ble_eq_true rfl, Nat.le_of_ble_eq_true rfl⟩) hS8 (aA_in hAc) (aA_free hAc hA hS8) (fun r9 u9 t9 H9 L9 ht9 hvm9 hw9 hB9 hz9 hk9 hS9 => ?_)
  obtain ⟨hu9, hr9⟩ := hw9
  subst u9; subst r9
  have hP9 : va_P D vwCl (wP a cZ cI st0) H9 := (by rw [← ht9]; exact hB9.1)
  have hn9 : s.heap.size + 0 ≤ H9.size := Nat.le_trans hn8 hz9
  clear ht9 hvm9 hB9 hz9 hk9
  refine lv_asi (y := 0) ev_receiver ?_
  refine lv_ldc (v := 65536) hx hb hown (hts (.constant RL 61 (65536)) (List.mem_cons_of_mem _ (List.mem_append_left _ (List.mem_append_left _ (List.mem_append_left _ (List.mem_append_left _ (List.mem_append_left _ (List.mem_append_left _ (List.mem_append_left _ (List.mem_of_getElem? (i := 0) rfl)))))))))) dL_isLineSo_69 ?_
  refine lv_icmp_ge (tgt := 145) hx hb dL_isLineSo_71 (by decide) (fun c1 => absurd c1 (by decide)) (fun c1 => ?_)
  refine lv_aload_n hx hb dL_isLineSo_74 rfl (lv_at hl0 0 rfl) ?_
  refine va_calli (va_runV (As := []) (rest := []) ⟨hx, hb, hml, hown, hts⟩ (k_X10_integral l D a cZ cI st0 H9.size) (cwV 0 hts gL_isLineSo_X10_integral rfl rfl rfl (by decide +kernel) ⟨Nat.le_of_ble_eq_true rfl, Nat.le_of_ble_eq_true rfl⟩) ⟨blW okN_P, va_recv hK hP9 (ci := 10) (q0 := 0) rfl rfl, preW hP9 hK hD okN_P hN⟩ rfl rfl hl0.1 rfl (lv_room (Nat.le_of_ble_eq_true rfl)) dL_isLineSo_75 ⟨Nat.le_of_ble_eq_true rfl, Nat.le_of_ble_eq_true rfl⟩) hS9 (aA_in hAc) (aA_free hAc hA hS9) (fun r10 u10 t10 H10 L10 ht10 hvm10 hw10 hB10 hz10 hk10 hS10 => ?_)
  obtain ⟨hu10, hr10⟩ := hw10
  subst u10; subst r10
  have hP10 : va_P D vwCl (wP a cZ cI st0) H10 := (by rw [← ht10]; exact hB10.1)
  have hn10 : s.heap.size + 0 ≤ H10.size := Nat.le_trans hn9 hz10
  clear ht10 hvm10 hB10 hz10 hk10
  refine lv_asi (y := 0) ev_integral ?_
  refine lv_ldc (v := (-262144)) hx hb hown (hts (.constant RL 122 (-262144)) (List.mem_cons_of_mem _ (List.mem_append_left _ (List.mem_append_left _ (List.mem_append_left _ (List.mem_append_left _ (List.mem_append_left _ (List.mem_append_left _ (List.mem_append_left _ (List.mem_of_getElem? (i := 1) rfl)))))))))) dL_isLineSo_78 ?_
  refine lv_icmp_lt (tgt := 145) hx hb dL_isLineSo_80 (by decide) (fun c1 => absurd c1 (by decide)) (fun c1 => ?_)
  refine lv_aload_n hx hb dL_isLineSo_83 rfl (lv_at hl0 0 rfl) ?_
  refine va_calli (va_runV (As := []) (rest := []) ⟨hx, hb, hml, hown, hts⟩ (k_X10_integral l D a cZ cI st0 H10.size) (cwV 0 hts gL_isLineSo_X10_integral rfl rfl rfl (by decide +kernel) ⟨Nat.le_of_ble_eq_true rfl, Nat.le_of_ble_eq_true rfl⟩) ⟨blW okN_P, va_recv hK hP10 (ci := 10) (q0 := 0) rfl rfl, preW hP10 hK hD okN_P hN⟩ rfl rfl hl0.1 rfl (lv_room (Nat.le_of_ble_eq_true rfl)) dL_isLineSo_84 ⟨Nat.le_of_ble_eq_true rfl, Nat.le_of_ble_eq_true rfl⟩) hS10 (aA_in hAc) (aA_free hAc hA hS10) (fun r11 u11 t11 H11 L11 ht11 hvm11 hw11 hB11 hz11 hk11 hS11 => ?_)
  obtain ⟨hu11, hr11⟩ := hw11
  subst u11; subst r11
  have hP11 : va_P D vwCl (wP a cZ cI st0) H11 := (by rw [← ht11]; exact hB11.1)
  have hn11 : s.heap.size + 0 ≤ H11.size := Nat.le_trans hn10 hz11
  clear ht11 hvm11 hB11 hz11 hk11
  refine lv_asi (y := 0) ev_integral ?_
  refine lv_ldc (v := 262144) hx hb hown (hts (.constant RL 123 (262144)) (List.mem_cons_of_mem _ (List.mem_append_left _ (List.mem_append_left _ (List.mem_append_left _ (List.mem_append_left _ (List.mem_append_left _ (List.mem_append_left _ (List.mem_append_left _ (List.mem_of_getElem? (i := 2) rfl)))))))))) dL_isLineSo_87 ?_
  refine lv_icmp_gt (tgt := 145) hx hb dL_isLineSo_89 (by decide) (fun c1 => absurd c1 (by decide)) (fun c1 => ?_)
  refine lv_aload_n hx hb dL_isLineSo_92 rfl (lv_at hl0 0 rfl) ?_
  refine va_calli (va_runV (As := []) (rest := []) ⟨hx, hb, hml, hown, hts⟩ (k_X10_control l D a cZ cI st0 H11.size) (cwV 0 hts gL_isLineSo_X10_control rfl rfl rfl (by decide +kernel) ⟨Nat.le_of_ble_eq_true rfl, Nat.le_of_ble_eq_true rfl⟩) ⟨blW okN_P, va_recv hK hP11 (ci := 10) (q0 := 0) rfl rfl, preW hP11 hK hD okN_P hN⟩ rfl rfl hl0.1 rfl (lv_room (Nat.le_of_ble_eq_true rfl)) dL_isLineSo_93 ⟨Nat.le_of_ble_eq_true rfl, Nat.le_of_ble_eq_true rfl⟩) hS11 (aA_in hAc) (aA_free hAc hA hS11) (fun r12 u12 t12 H12 L12 ht12 hvm12 hw12 hB12 hz12 hk12 hS12 => ?_)
  obtain ⟨hu12, hr12⟩ := hw12
  subst u12; subst r12
  have hP12 : va_P D vwCl (wP a cZ cI st0) H12 := (by rw [← ht12]; exact hB12.1)
  have hn12 : s.heap.size + 0 ≤ H12.size := Nat.le_trans hn11 hz12
  clear ht12 hvm12 hB12 hz12 hk12
  refine lv_asi (y := 0) ev_control ?_
  refine lv_sipush (v := (-1024)) hx hb dL_isLineSo_96 (by decide) ?_
  refine lv_icmp_lt (tgt := 145) hx hb dL_isLineSo_99 (by decide) (fun c1 => absurd c1 (by decide)) (fun c1 => ?_)
  refine lv_aload_n hx hb dL_isLineSo_102 rfl (lv_at hl0 0 rfl) ?_
  refine va_calli (va_runV (As := []) (rest := []) ⟨hx, hb, hml, hown, hts⟩ (k_X10_control l D a cZ cI st0 H12.size) (cwV 0 hts gL_isLineSo_X10_control rfl rfl rfl (by decide +kernel) ⟨Nat.le_of_ble_eq_true rfl, Nat.le_of_ble_eq_true rfl⟩) ⟨blW okN_P, va_recv hK hP12 (ci := 10) (q0 := 0) rfl rfl, preW hP12 hK hD okN_P hN⟩ rfl rfl hl0.1 rfl (lv_room (Nat.le_of_ble_eq_true rfl)) dL_isLineSo_103 ⟨Nat.le_of_ble_eq_true rfl, Nat.le_of_ble_eq_true rfl⟩) hS12 (aA_in hAc) (aA_free hAc hA hS12) (fun r13 u13 t13 H13 L13 ht13 hvm13 hw13 hB13 hz13 hk13 hS13 => ?_)
  obtain ⟨hu13, hr13⟩ := hw13
  subst u13; subst r13
  have hP13 : va_P D vwCl (wP a cZ cI st0) H13 := (by rw [← ht13]; exact hB13.1)
  have hn13 : s.heap.size + 0 ≤ H13.size := Nat.le_trans hn12 hz13
  clear ht13 hvm13 hB13 hz13 hk13
  refine lv_asi (y := 0) ev_control ?_
  refine lv_sipush (v := 1024) hx hb dL_isLineSo_106 (by decide) ?_
  refine lv_icmp_gt (tgt := 145) hx hb dL_isLineSo_109 (by decide) (fun c1 => absurd c1 (by decide)) (fun c1 => ?_)
  refine lv_aload_n hx hb dL_isLineSo_112 rfl (lv_at hl0 0 rfl) ?_
  refine va_calli (va_runV (As := []) (rest := []) ⟨hx, hb, hml, hown, hts⟩ (k_X10_error l D a cZ cI st0 H13.size) (cwV 0 hts gL_isLineSo_X10_error rfl rfl rfl (by decide +kernel) ⟨Nat.le_of_ble_eq_true rfl, Nat.le_of_ble_eq_true rfl⟩) ⟨blW okN_P, va_recv hK hP13 (ci := 10) (q0 := 0) rfl rfl, preW hP13 hK hD okN_P hN⟩ rfl rfl hl0.1 rfl (lv_room (Nat.le_of_ble_eq_true rfl)) dL_isLineSo_113 ⟨Nat.le_of_ble_eq_true rfl, Nat.le_of_ble_eq_true rfl⟩) hS13 (aA_in hAc) (aA_free hAc hA hS13) (fun r14 u14 t14 H14 L14 ht14 hvm14 hw14 hB14 hz14 hk14 hS14 => ?_)
  obtain ⟨hu14, hr14⟩ := hw14
  subst u14; subst r14
  have hP14 : va_P D vwCl (wP a cZ cI st0) H14 := (by rw [← ht14]; exact hB14.1)
  have hn14 : s.heap.size + 0 ≤ H14.size := Nat.le_trans hn13 hz14
  clear ht14 hvm14 hB14 hz14 hk14
  refine lv_asi (y := 0) ev_error ?_
  refine lv_bipush (v := (-128)) hx hb dL_isLineSo_116 (by decide) ?_
  refine lv_aload_n hx hb dL_isLineSo_118 rfl (lv_at hl0 0 rfl) ?_
  refine va_calli (va_runV (As := []) (rest := [.int (-128), .int 0]) ⟨hx, hb, hml, hown, hts⟩ (k_X10_ticks l D a cZ cI st0 H14.size) (cwV 0 hts gL_isLineSo_X10_ticks rfl rfl rfl (by decide +kernel) ⟨Nat.le_of_ble_eq_true rfl, Nat.le_of_ble_eq_true rfl⟩) ⟨blW okN_P, va_recv hK hP14 (ci := 10) (q0 := 0) rfl rfl, preW hP14 hK hD okN_P hN⟩ rfl rfl hl0.1 rfl (lv_room (Nat.le_of_ble_eq_true rfl)) dL_isLineSo_119 ⟨Nat.le_of_ble_eq_true rfl, Nat.le_of_ble_eq_true rfl⟩) hS14 (aA_in hAc) (aA_free hAc hA hS14) (fun r15 u15 t15 H15 L15 ht15 hvm15 hw15 hB15 hz15 hk15 hS15 => ?_)
  obtain ⟨hu15, hr15⟩ := hw15
  subst u15; subst r15
  have hP15 : va_P D vwCl (wP a cZ cI st0) H15 := (by rw [← ht15]; exact hB15.1)
  have hn15 : s.heap.size + 0 ≤ H15.size := Nat.le_trans hn14 hz15
  clear ht15 hvm15 hB15 hz15 hk15
  refine lv_asi (y := 0) ev_ticks ?_
  refine lv_isub hx hb dL_isLineSo_122 ?_
  refine lv_asi (y := (-128)) (by decide +kernel) ?_
  refine lv_icmp_lt (tgt := 145) hx hb dL_isLineSo_123 (by decide) (fun c1 => absurd c1 (by decide)) (fun c1 => ?_)
  refine lv_aload_n hx hb dL_isLineSo_126 rfl (lv_at hl0 0 rfl) ?_
  refine va_calli (va_runV (As := []) (rest := []) ⟨hx, hb, hml, hown, hts⟩ (k_X10_error l D a cZ cI st0 H15.size) (cwV 0 hts gL_isLineSo_X10_error rfl rfl rfl (by decide +kernel) ⟨Nat.le_of_ble_eq_true rfl, Nat.le_of_ble_eq_true rfl⟩) ⟨blW okN_P, va_recv hK hP15 (ci := 10) (q0 := 0) rfl rfl, preW hP15 hK hD okN_P hN⟩ rfl rfl hl0.1 rfl (lv_room (Nat.le_of_ble_eq_true rfl)) dL_isLineSo_127 ⟨Nat.le_of_ble_eq_true rfl, Nat.le_of_ble_eq_true rfl⟩) hS15 (aA_in hAc) (aA_free hAc hA hS15) (fun r16 u16 t16 H16 L16 ht16 hvm16 hw16 hB16 hz16 hk16 hS16 => ?_)
  obtain ⟨hu16, hr16⟩ := hw16
  subst u16; subst r16
  have hP16 : va_P D vwCl (wP a cZ cI st0) H16 := (by rw [← ht16]; exact hB16.1)
  have hn16 : s.heap.size + 0 ≤ H16.size := Nat.le_trans hn15 hz16
  clear ht16 hvm16 hB16 hz16 hk16
  refine lv_asi (y := 0) ev_error ?_
  refine lv_sipush (v := 128) hx hb dL_isLineSo_130 (by decide) ?_
  refine lv_aload_n hx hb dL_isLineSo_133 rfl (lv_at hl0 0 rfl) ?_
  refine va_calli (va_runV (As := []) (rest := [.int 128, .int 0]) ⟨hx, hb, hml, hown, hts⟩ (k_X10_ticks l D a cZ cI st0 H16.size) (cwV 0 hts gL_isLineSo_X10_ticks rfl rfl rfl (by decide +kernel) ⟨Nat.le_of_ble_eq_true rfl, Nat.le_of_ble_eq_true rfl⟩) ⟨blW okN_P, va_recv hK hP16 (ci := 10) (q0 := 0) rfl rfl, preW hP16 hK hD okN_P hN⟩ rfl rfl hl0.1 rfl (lv_room (Nat.le_of_ble_eq_true rfl)) dL_isLineSo_134 ⟨Nat.le_of_ble_eq_true rfl, Nat.le_of_ble_eq_true rfl⟩) hS16 (aA_in hAc) (aA_free hAc hA hS16) (fun r17 u17 t17 H17 L17 ht17 hvm17 hw17 hB17 hz17 hk17 hS17 => ?_)
  obtain ⟨hu17, hr17⟩ := hw17
  subst u17; subst r17
  have hP17 : va_P D vwCl (wP a cZ cI st0) H17 := (by rw [← ht17]; exact hB17.1)
  have hn17 : s.heap.size + 0 ≤ H17.size := Nat.le_trans hn16 hz17
  clear ht17 hvm17 hB17 hz17 hk17
  refine lv_asi (y := 0) ev_ticks ?_
  refine lv_iadd hx hb dL_isLineSo_137 ?_
  refine lv_asi (y := 128) (by decide +kernel) ?_
  refine lv_icmp_gt (tgt := 145) hx hb dL_isLineSo_138 (by decide) (fun c1 => absurd c1 (by decide)) (fun c1 => ?_)
  refine lv_iconst (v := 1) hx hb dL_isLineSo_141 (by decide) ?_
  refine lv_goto (tgt := 146) hx hb dL_isLineSo_142 (by decide) ?_
  refine lv_istore_n (lv' := [(1, .int 1), (0, .ref (a 0))]) hx hb dL_isLineSo_146 rfl hl0 (by decide) rfl (fun ls1 hl1 => ?_)
  refine lv_iload_n hx hb dL_isLineSo_147 rfl (lv_at hl1 0 rfl) ?_
  refine lv_if_eq (tgt := 206) hx hb dL_isLineSo_148 (by decide) (fun c1 => absurd c1 (by decide)) (fun c1 => ?_)
  refine lv_aload_n hx hb dL_isLineSo_151 rfl (lv_at hl1 1 rfl) ?_
  refine va_calli (va_runV (As := []) (rest := []) ⟨hx, hb, hml, hown, hts⟩ (k_X10_sent l D a cZ cI st0 H17.size) (cwV 0 hts gL_isLineSo_X10_sent rfl rfl rfl (by decide +kernel) ⟨Nat.le_of_ble_eq_true rfl, Nat.le_of_ble_eq_true rfl⟩) ⟨blW okN_P, va_recv hK hP17 (ci := 10) (q0 := 0) rfl rfl, preW hP17 hK hD okN_P hN⟩ rfl rfl hl1.1 rfl (lv_room (Nat.le_of_ble_eq_true rfl)) dL_isLineSo_152 ⟨Nat.le_of_ble_eq_true rfl, Nat.le_of_ble_eq_true rfl⟩) hS17 (aA_in hAc) (aA_free hAc hA hS17) (fun r18 u18 t18 H18 L18 ht18 hvm18 hw18 hB18 hz18 hk18 hS18 => ?_)
  obtain ⟨hu18, hr18⟩ := hw18
  subst u18; subst r18
  have hP18 : va_P D vwCl (wP a cZ cI st0) H18 := (by rw [← ht18]; exact hB18.1)
  have hn18 : s.heap.size + 0 ≤ H18.size := Nat.le_trans hn17 hz18
  clear ht18 hvm18 hB18 hz18 hk18
  refine lv_asi (y := 0) ev_sent ?_
  refine lv_if_lt (tgt := 206) hx hb dL_isLineSo_155 (by decide) (fun c1 => absurd c1 (by decide)) (fun c1 => ?_)
  refine lv_aload_n hx hb dL_isLineSo_158 rfl (lv_at hl1 1 rfl) ?_
  refine va_calli (va_runV (As := []) (rest := []) ⟨hx, hb, hml, hown, hts⟩ (k_X10_sent l D a cZ cI st0 H18.size) (cwV 0 hts gL_isLineSo_X10_sent rfl rfl rfl (by decide +kernel) ⟨Nat.le_of_ble_eq_true rfl, Nat.le_of_ble_eq_true rfl⟩) ⟨blW okN_P, va_recv hK hP18 (ci := 10) (q0 := 0) rfl rfl, preW hP18 hK hD okN_P hN⟩ rfl rfl hl1.1 rfl (lv_room (Nat.le_of_ble_eq_true rfl)) dL_isLineSo_159 ⟨Nat.le_of_ble_eq_true rfl, Nat.le_of_ble_eq_true rfl⟩) hS18 (aA_in hAc) (aA_free hAc hA hS18) (fun r19 u19 t19 H19 L19 ht19 hvm19 hw19 hB19 hz19 hk19 hS19 => ?_)
  obtain ⟨hu19, hr19⟩ := hw19
  subst u19; subst r19
  have hP19 : va_P D vwCl (wP a cZ cI st0) H19 := (by rw [← ht19]; exact hB19.1)
  have hn19 : s.heap.size + 0 ≤ H19.size := Nat.le_trans hn18 hz19
  clear ht19 hvm19 hB19 hz19 hk19
  refine lv_asi (y := 0) ev_sent ?_
  refine lv_aload_n hx hb dL_isLineSo_162 rfl (lv_at hl1 1 rfl) ?_
  refine va_calli (va_runV (As := []) (rest := [.int 0]) ⟨hx, hb, hml, hown, hts⟩ (k_X10_ticks l D a cZ cI st0 H19.size) (cwV 0 hts gL_isLineSo_X10_ticks rfl rfl rfl (by decide +kernel) ⟨Nat.le_of_ble_eq_true rfl, Nat.le_of_ble_eq_true rfl⟩) ⟨blW okN_P, va_recv hK hP19 (ci := 10) (q0 := 0) rfl rfl, preW hP19 hK hD okN_P hN⟩ rfl rfl hl1.1 rfl (lv_room (Nat.le_of_ble_eq_true rfl)) dL_isLineSo_163 ⟨Nat.le_of_ble_eq_true rfl, Nat.le_of_ble_eq_true rfl⟩) hS19 (aA_in hAc) (aA_free hAc hA hS19) (fun r20 u20 t20 H20 L20 ht20 hvm20 hw20 hB20 hz20 hk20 hS20 => ?_)
  obtain ⟨hu20, hr20⟩ := hw20
  subst u20; subst r20
  have hP20 : va_P D vwCl (wP a cZ cI st0) H20 := (by rw [← ht20]; exact hB20.1)
  have hn20 : s.heap.size + 0 ≤ H20.size := Nat.le_trans hn19 hz20
  clear ht20 hvm20 hB20 hz20 hk20
  refine lv_asi (y := 0) ev_ticks ?_
  refine lv_icmp_gt (tgt := 206) hx hb dL_isLineSo_166 (by decide) (fun c1 => absurd c1 (by decide)) (fun c1 => ?_)
  refine lv_aload_n hx hb dL_isLineSo_169 rfl (lv_at hl1 1 rfl) ?_
  refine va_calli (va_runV (As := []) (rest := []) ⟨hx, hb, hml, hown, hts⟩ (k_X10_level l D a cZ cI st0 H20.size) (cwV 0 hts gL_isLineSo_X10_level rfl rfl rfl (by decide +kernel) ⟨Nat.le_of_ble_eq_true rfl, Nat.le_of_ble_eq_true rfl⟩) ⟨blW okN_P, va_recv hK hP20 (ci := 10) (q0 := 0) rfl rfl, preW hP20 hK hD okN_P hN⟩ rfl rfl hl1.1 rfl (lv_room (Nat.le_of_ble_eq_true rfl)) dL_isLineSo_170 ⟨Nat.le_of_ble_eq_true rfl, Nat.le_of_ble_eq_true rfl⟩) hS20 (aA_in hAc) (aA_free hAc hA hS20) (fun r21 u21 t21 H21 L21 ht21 hvm21 hw21 hB21 hz21 hk21 hS21 => ?_)
  obtain ⟨hu21, hr21⟩ := hw21
  subst u21; subst r21
  have hP21 : va_P D vwCl (wP a cZ cI st0) H21 := (by rw [← ht21]; exact hB21.1)
  have hn21 : s.heap.size + 0 ≤ H21.size := Nat.le_trans hn20 hz21
  clear ht21 hvm21 hB21 hz21 hk21
  refine lv_asi (y := 8) ev_level ?_
  refine lv_bipush (v := 8) hx hb dL_isLineSo_173 (by decide) ?_
  refine lv_icmp_lt (tgt := 186) hx hb dL_isLineSo_175 (by decide) (fun c1 => absurd c1 (by decide)) (fun c1 => ?_)
  refine lv_aload_n hx hb dL_isLineSo_178 rfl (lv_at hl1 1 rfl) ?_
  refine va_calli (va_runV (As := []) (rest := []) ⟨hx, hb, hml, hown, hts⟩ (k_X10_line l D a cZ cI st0 H21.size) (cwV 0 hts gL_isLineSo_X10_line rfl rfl rfl (by decide +kernel) ⟨Nat.le_of_ble_eq_true rfl, Nat.le_of_ble_eq_true rfl⟩) ⟨blW okN_P, va_recv hK hP21 (ci := 10) (q0 := 0) rfl rfl, preW hP21 hK hD okN_P hN⟩ rfl rfl hl1.1 rfl (lv_room (Nat.le_of_ble_eq_true rfl)) dL_isLineSo_179 ⟨Nat.le_of_ble_eq_true rfl, Nat.le_of_ble_eq_true rfl⟩) hS21 (aA_in hAc) (aA_free hAc hA hS21) (fun r22 u22 t22 H22 L22 ht22 hvm22 hw22 hB22 hz22 hk22 hS22 => ?_)
  obtain ⟨hu22, hr22⟩ := hw22
  subst u22; subst r22
  have hP22 : va_P D vwCl (wP a cZ cI st0) H22 := (by rw [← ht22]; exact hB22.1)
  have hn22 : s.heap.size + 0 ≤ H22.size := Nat.le_trans hn21 hz22
  clear ht22 hvm22 hB22 hz22 hk22
  refine lv_asi (y := 1) ev_line ?_
  refine lv_iconst (v := 1) hx hb dL_isLineSo_182 (by decide) ?_
  refine lv_icmp_ne (tgt := 206) hx hb dL_isLineSo_183 (by decide) (fun c1 => absurd c1 (by decide)) (fun c1 => ?_)
  refine lv_aload_n hx hb dL_isLineSo_186 rfl (lv_at hl1 1 rfl) ?_
  refine va_calli (va_runV (As := []) (rest := []) ⟨hx, hb, hml, hown, hts⟩ (k_X10_level l D a cZ cI st0 H22.size) (cwV 0 hts gL_isLineSo_X10_level rfl rfl rfl (by decide +kernel) ⟨Nat.le_of_ble_eq_true rfl, Nat.le_of_ble_eq_true rfl⟩) ⟨blW okN_P, va_recv hK hP22 (ci := 10) (q0 := 0) rfl rfl, preW hP22 hK hD okN_P hN⟩ rfl rfl hl1.1 rfl (lv_room (Nat.le_of_ble_eq_true rfl)) dL_isLineSo_187 ⟨Nat.le_of_ble_eq_true rfl, Nat.le_of_ble_eq_true rfl⟩) hS22 (aA_in hAc) (aA_free hAc hA hS22) (fun r23 u23 t23 H23 L23 ht23 hvm23 hw23 hB23 hz23 hk23 hS23 => ?_)
  obtain ⟨hu23, hr23⟩ := hw23
  subst u23; subst r23
  have hP23 : va_P D vwCl (wP a cZ cI st0) H23 := (by rw [← ht23]; exact hB23.1)
  have hn23 : s.heap.size + 0 ≤ H23.size := Nat.le_trans hn22 hz23
  clear ht23 hvm23 hB23 hz23 hk23
  refine lv_asi (y := 8) ev_level ?_
  refine lv_bipush (v := (-8)) hx hb dL_isLineSo_190 (by decide) ?_
  refine lv_icmp_gt (tgt := 202) hx hb dL_isLineSo_192 (by decide) (fun c1 => ?_) (fun c1 => absurd c1 (by decide))
  refine lv_iconst (v := 1) hx hb dL_isLineSo_202 (by decide) ?_
  refine lv_goto (tgt := 207) hx hb dL_isLineSo_203 (by decide) ?_
  subst hQ; exact W.zret (v := 1) hx hb hr (by decide) (fun t ht hW => ⟨⟨1, (), rfl, rfl, endW hP23 hK hD ht hW⟩, hS23.F ht⟩) hS23.2.2 dL_isLineSo_207

def rm_L_areBitsSo : Room := { frames := 8, cells := 35, slots := 210, locals := 125 }
set_option maxRecDepth 100000 in
set_option maxHeartbeats 4000000 in
theorem k_L_areBitsSo (l : Launch) (hfl : l.stackTraces = false) (D : va_G) (a : Nat → Nat) (cZ cI : ClassId) (sz : Nat) : Met l yL_areBitsSo wsL_areBitsSo rm_L_areBitsSo (va_Pc [.ref (a 0)] (pY D (tyZI cZ cI) (wP a cZ cI st0) sz (adP a))) (va_Qi (fun (r : Int32) (_ : Unit) => r = 1) (fun _ t => oW D (tyZI cZ cI) (wP a cZ cI st0) (aA (adP a) sz) t ∧ sz + 35 ≤ t.heap.size) (aA (adP a) sz)) 35 210 (aA (adP a) sz) := by
  refine Met.ofW (cc := cL_areBitsSo) (maxL := 5) (ret := (some .boolean)) (by decide +kernel) rfl ?_
  intro p e s m args below meth c s₁ B hml hv
  obtain ⟨rfl, ⟨hsz, hP0, hK, hD9, hNY⟩, hZ⟩ := hv
  have hN := hNY.1
  have hx := B.exec
  have hb := B.bytes
  have hr := B.returns
  have hts := atoms_spec (ws := wsL_areBitsSo) B.pre
  have hown : s.vm.findClass RL = some m.cls := findClass_of_methodNamed B.named
  have hlocks := B.notSynchronized
  subst hsz
  have hD := aA_self (sz := s.heap.size) (as := adP a) hD9 rfl
  generalize hAe : aA (adP a) s.heap.size = A at hD hZ ⊢
  have hA : ∀ q : Nat, s.heap.size ≤ q → A q := fun q h => by rw [← hAe]; exact Or.inr h
  have hAc : ∀ q : Nat, q ∈ adP a → A q := fun q h => by rw [← hAe]; exact Or.inl h
  have hS0 : va_S A s.heap s.heap [] := va_S.rf
  have hn0 : s.heap.size + 0 ≤ s.heap.size := Nat.le_refl _
  have hl0 := lv_entry ([.ref (a 0)]) (n := 5) (Nat.le_of_ble_eq_true rfl)
  rw [lg_entry_eq]
  generalize (lg_sl ([.ref (a 0)]) ++ List.replicate (5 - (lg_sl ([.ref (a 0)])).length) Slot.unset).toArray = ls0 at hl0 ⊢
  have hl0 : lv_has ls0 5 [(0, .ref (a 0))] := hl0
  generalize hQ : MQ below _ _ s _ _ _ = Q
  clear hD9 B
  refine lv_aload_n hx hb dL_areBitsSo_0 rfl (lv_at hl0 0 rfl) ?_
  refine va_calli (va_runV (As := []) (rest := []) ⟨hx, hb, hml, hown, hts⟩ (k_X10_received l D a cZ cI st0 s.heap.size) (cwV 0 hts gL_areBitsSo_X10_received rfl rfl rfl (by decide +kernel) ⟨Nat.le_of_ble_eq_true rfl, Nat.le_of_ble_eq_true rfl⟩) ⟨blW okN_P, va_recv hK hP0 (ci := 10) (q0 := 0) rfl rfl, preW hP0 hK hD okN_P hN⟩ rfl rfl hl0.1 rfl (lv_room (Nat.le_of_ble_eq_true rfl)) dL_areBitsSo_1 ⟨Nat.le_of_ble_eq_true rfl, Nat.le_of_ble_eq_true rfl⟩) hS0 (aA_in hAc) (aA_free hAc hA hS0) (fun r1 u1 t1 H1 L1 ht1 hvm1 hw1 hB1 hz1 hk1 hS1 => ?_)
  obtain ⟨hu1, hr1⟩ := hw1
  subst u1; subst r1
  have hP1 : va_P D vwCl (wP a cZ cI st0) H1 := (by rw [← ht1]; exact hB1.1)
  have hn1 : s.heap.size + 0 ≤ H1.size := Nat.le_trans hn0 hz1
  clear ht1 hvm1 hB1 hz1 hk1
  refine lv_asi (y := 0) ev_received ?_
  refine lv_istore_n (lv' := [(1, .int 0), (0, .ref (a 0))]) hx hb dL_areBitsSo_4 rfl hl0 (by decide) rfl (fun ls1 hl1 => ?_)
  refine lv_iload_n hx hb dL_areBitsSo_5 rfl (lv_at hl1 0 rfl) ?_
  refine lv_if_lt (tgt := 96) hx hb dL_areBitsSo_6 (by decide) (fun c1 => absurd c1 (by decide)) (fun c1 => ?_)
  refine lv_iload_n hx hb dL_areBitsSo_9 rfl (lv_at hl1 0 rfl) ?_
  refine lv_aload_n hx hb dL_areBitsSo_10 rfl (lv_at hl1 1 rfl) ?_
  refine va_calli (va_runV (As := []) (rest := [.int 0]) ⟨hx, hb, hml, hown, hts⟩ (k_X10_ticks l D a cZ cI st0 H1.size) (cwV 0 hts gL_areBitsSo_X10_ticks rfl rfl rfl (by decide +kernel) ⟨Nat.le_of_ble_eq_true rfl, Nat.le_of_ble_eq_true rfl⟩) ⟨blW okN_P, va_recv hK hP1 (ci := 10) (q0 := 0) rfl rfl, preW hP1 hK hD okN_P hN⟩ rfl rfl hl1.1 rfl (lv_room (Nat.le_of_ble_eq_true rfl)) dL_areBitsSo_11 ⟨Nat.le_of_ble_eq_true rfl, Nat.le_of_ble_eq_true rfl⟩) hS1 (aA_in hAc) (aA_free hAc hA hS1) (fun r2 u2 t2 H2 L2 ht2 hvm2 hw2 hB2 hz2 hk2 hS2 => ?_)
  obtain ⟨hu2, hr2⟩ := hw2
  subst u2; subst r2
  have hP2 : va_P D vwCl (wP a cZ cI st0) H2 := (by rw [← ht2]; exact hB2.1)
  have hn2 : s.heap.size + 0 ≤ H2.size := Nat.le_trans hn1 hz2
  clear ht2 hvm2 hB2 hz2 hk2
  refine lv_asi (y := 0) ev_ticks ?_
  refine lv_icmp_gt (tgt := 96) hx hb dL_areBitsSo_14 (by decide) (fun c1 => absurd c1 (by decide)) (fun c1 => ?_)
  refine lv_aload_n hx hb dL_areBitsSo_17 rfl (lv_at hl1 1 rfl) ?_
  refine va_calli (va_runV (As := []) (rest := []) ⟨hx, hb, hml, hown, hts⟩ (k_X10_repeated l D a cZ cI st0 H2.size) (cwV 0 hts gL_areBitsSo_X10_repeated rfl rfl rfl (by decide +kernel) ⟨Nat.le_of_ble_eq_true rfl, Nat.le_of_ble_eq_true rfl⟩) ⟨blW okN_P, va_recv hK hP2 (ci := 10) (q0 := 0) rfl rfl, preW hP2 hK hD okN_P hN⟩ rfl rfl hl1.1 rfl (lv_room (Nat.le_of_ble_eq_true rfl)) dL_areBitsSo_18 ⟨Nat.le_of_ble_eq_true rfl, Nat.le_of_ble_eq_true rfl⟩) hS2 (aA_in hAc) (aA_free hAc hA hS2) (fun r3 u3 t3 H3 L3 ht3 hvm3 hw3 hB3 hz3 hk3 hS3 => ?_)
  obtain ⟨hu3, hr3⟩ := hw3
  subst u3; subst r3
  have hP3 : va_P D vwCl (wP a cZ cI st0) H3 := (by rw [← ht3]; exact hB3.1)
  have hn3 : s.heap.size + 0 ≤ H3.size := Nat.le_trans hn2 hz3
  clear ht3 hvm3 hB3 hz3 hk3
  refine lv_asi (y := 0) ev_repeated ?_
  refine lv_if_lt (tgt := 96) hx hb dL_areBitsSo_21 (by decide) (fun c1 => absurd c1 (by decide)) (fun c1 => ?_)
  refine lv_aload_n hx hb dL_areBitsSo_24 rfl (lv_at hl1 1 rfl) ?_
  refine va_calli (va_runV (As := []) (rest := []) ⟨hx, hb, hml, hown, hts⟩ (k_X10_repeated l D a cZ cI st0 H3.size) (cwV 0 hts gL_areBitsSo_X10_repeated rfl rfl rfl (by decide +kernel) ⟨Nat.le_of_ble_eq_true rfl, Nat.le_of_ble_eq_true rfl⟩) ⟨blW okN_P, va_recv hK hP3 (ci := 10) (q0 := 0) rfl rfl, preW hP3 hK hD okN_P hN⟩ rfl rfl hl1.1 rfl (lv_room (Nat.le_of_ble_eq_true rfl)) dL_areBitsSo_25 ⟨Nat.le_of_ble_eq_true rfl, Nat.le_of_ble_eq_true rfl⟩) hS3 (aA_in hAc) (aA_free hAc hA hS3) (fun r4 u4 t4 H4 L4 ht4 hvm4 hw4 hB4 hz4 hk4 hS4 => ?_)
  obtain ⟨hu4, hr4⟩ := hw4
  subst u4; subst r4
  have hP4 : va_P D vwCl (wP a cZ cI st0) H4 := (by rw [← ht4]; exact hB4.1)
  have hn4 : s.heap.size + 0 ≤ H4.size := Nat.le_trans hn3 hz4
  clear ht4 hvm4 hB4 hz4 hk4
  refine lv_asi (y := 0) ev_repeated ?_
  refine lv_iload_n hx hb dL_areBitsSo_28 rfl (lv_at hl1 0 rfl) ?_
  refine lv_icmp_gt (tgt := 96) hx hb dL_areBitsSo_29 (by decide) (fun c1 => absurd c1 (by decide)) (fun c1 => ?_)
  refine lv_aload_n hx hb dL_areBitsSo_32 rfl (lv_at hl1 1 rfl) ?_
  refine va_calli (va_runV (As := []) (rest := []) ⟨hx, hb, hml, hown, hts⟩ (k_X10_skipped l D a cZ cI st0 H4.size) (cwV 0 hts gL_areBitsSo_X10_skipped rfl rfl rfl (by decide +kernel) ⟨Nat.le_of_ble_eq_true rfl, Nat.le_of_ble_eq_true rfl⟩) ⟨blW okN_P, va_recv hK hP4 (ci := 10) (q0 := 0) rfl rfl, preW hP4 hK hD okN_P hN⟩ rfl rfl hl1.1 rfl (lv_room (Nat.le_of_ble_eq_true rfl)) dL_areBitsSo_33 ⟨Nat.le_of_ble_eq_true rfl, Nat.le_of_ble_eq_true rfl⟩) hS4 (aA_in hAc) (aA_free hAc hA hS4) (fun r5 u5 t5 H5 L5 ht5 hvm5 hw5 hB5 hz5 hk5 hS5 => ?_)
  obtain ⟨hu5, hr5⟩ := hw5
  subst u5; subst r5
  have hP5 : va_P D vwCl (wP a cZ cI st0) H5 := (by rw [← ht5]; exact hB5.1)
  have hn5 : s.heap.size + 0 ≤ H5.size := Nat.le_trans hn4 hz5
  clear ht5 hvm5 hB5 hz5 hk5
  refine lv_asi (y := 0) ev_skipped ?_
  refine lv_if_lt (tgt := 96) hx hb dL_areBitsSo_36 (by decide) (fun c1 => absurd c1 (by decide)) (fun c1 => ?_)
  refine lv_aload_n hx hb dL_areBitsSo_39 rfl (lv_at hl1 1 rfl) ?_
  refine va_calli (va_runV (As := []) (rest := []) ⟨hx, hb, hml, hown, hts⟩ (k_X10_skipped l D a cZ cI st0 H5.size) (cwV 0 hts gL_areBitsSo_X10_skipped rfl rfl rfl (by decide +kernel) ⟨Nat.le_of_ble_eq_true rfl, Nat.le_of_ble_eq_true rfl⟩) ⟨blW okN_P, va_recv hK hP5 (ci := 10) (q0 := 0) rfl rfl, preW hP5 hK hD okN_P hN⟩ rfl rfl hl1.1 rfl (lv_room (Nat.le_of_ble_eq_true rfl)) dL_areBitsSo_40 ⟨Nat.le_of_ble_eq_true rfl, Nat.le_of_ble_eq_true rfl⟩) hS5 (aA_in hAc) (aA_free hAc hA hS5) (fun r6 u6 t6 H6 L6 ht6 hvm6 hw6 hB6 hz6 hk6 hS6 => ?_)
  obtain ⟨hu6, hr6⟩ := hw6
  subst u6; subst r6
  have hP6 : va_P D vwCl (wP a cZ cI st0) H6 := (by rw [← ht6]; exact hB6.1)
  have hn6 : s.heap.size + 0 ≤ H6.size := Nat.le_trans hn5 hz6
  clear ht6 hvm6 hB6 hz6 hk6
  refine lv_asi (y := 0) ev_skipped ?_
  refine lv_aload_n hx hb dL_areBitsSo_43 rfl (lv_at hl1 1 rfl) ?_
  refine va_calli (va_runV (As := []) (rest := [.int 0]) ⟨hx, hb, hml, hown, hts⟩ (k_X10_sent l D a cZ cI st0 H6.size) (cwV 0 hts gL_areBitsSo_X10_sent rfl rfl rfl (by decide +kernel) ⟨Nat.le_of_ble_eq_true rfl, Nat.le_of_ble_eq_true rfl⟩) ⟨blW okN_P, va_recv hK hP6 (ci := 10) (q0 := 0) rfl rfl, preW hP6 hK hD okN_P hN⟩ rfl rfl hl1.1 rfl (lv_room (Nat.le_of_ble_eq_true rfl)) dL_areBitsSo_44 ⟨Nat.le_of_ble_eq_true rfl, Nat.le_of_ble_eq_true rfl⟩) hS6 (aA_in hAc) (aA_free hAc hA hS6) (fun r7 u7 t7 H7 L7 ht7 hvm7 hw7 hB7 hz7 hk7 hS7 => ?_)
  obtain ⟨hu7, hr7⟩ := hw7
  subst u7; subst r7
  have hP7 : va_P D vwCl (wP a cZ cI st0) H7 := (by rw [← ht7]; exact hB7.1)
  have hn7 : s.heap.size + 0 ≤ H7.size := Nat.le_trans hn6 hz7
  clear ht7 hvm7 hB7 hz7 hk7
  refine lv_asi (y := 0) ev_sent ?_
  refine lv_icmp_gt (tgt := 96) hx hb dL_areBitsSo_47 (by decide) (fun c1 => absurd c1 (by decide)) (fun c1 => ?_)
  refine lv_aload_n hx hb dL_areBitsSo_50 rfl (lv_at hl1 1 rfl) ?_
  refine va_calli (vx_runSW (As := [.ref (a 0)]) (rest := []) ⟨hx, hb, hml, hown, hts⟩ (k_L_phase l hfl D a cZ cI H7.size) (vx_cwSW 1 hts gL_areBitsSo_L_phase rfl rfl rfl (by decide +kernel) ⟨Nat.le_of_ble_eq_true rfl, Nat.le_of_ble_eq_true rfl⟩) ⟨blY, preY hP7 hK hD hNY hZ hS7 (aA_free hAc hA hS7)⟩ rfl rfl hl1.1 rfl (lv_room (Nat.le_of_ble_eq_true rfl)) dL_areBitsSo_51 ⟨Nat.le_of_ble_eq_true rfl, Nat.le_of_ble_eq_true rfl⟩) hS7 (aA_in hAc) (aA_free hAc hA hS7) (fun r8 u8 t8 H8 L8 ht8 hvm8 hw8 hB8 hz8 hk8 hS8 => ?_)
  replace hw8 : r8 = (-99999) := hw8
  subst r8
  have hg8 := hB8.2
  rw [ht8] at hg8
  have hP8 : va_P D vwCl (wP a cZ cI st0) H8 := (by rw [← ht8]; exact hB8.1.1)
  have hn8 : s.heap.size + 1 ≤ H8.size := Nat.lt_of_le_of_lt hn7 hg8
  clear ht8 hvm8 hB8 hz8 hk8
  refine W.widen (k := 1) (n := 6) (by decide) (by decide) ?_
  refine lv_ldc (v := (-99999)) hx hb hown (hts (.constant RL 25 (-99999)) (List.mem_cons_of_mem _ (List.mem_append_left _ (List.mem_append_left _ (List.mem_append_left _ (List.mem_append_left _ (List.mem_append_left _ (List.mem_append_left _ (List.mem_append_left _ (List.mem_append_left _ (List.mem_append_left _ (List.mem_append_left _ (List.mem_of_getElem? (i := 0) rfl))))))))))))) dL_areBitsSo_54 ?_
  refine lv_icmp_ne (tgt := 63) hx hb dL_areBitsSo_56 (by decide) (fun c1 => absurd c1 (by decide)) (fun c1 => ?_)
  refine lv_iconst (v := 1) hx hb dL_areBitsSo_59 (by decide) ?_
  refine lv_goto (tgt := 64) hx hb dL_areBitsSo_60 (by decide) ?_
  refine lv_iload_n hx hb dL_areBitsSo_64 rfl (lv_at hl1 0 rfl) ?_
  refine lv_if_ne (tgt := 72) hx hb dL_areBitsSo_65 (by decide) (fun c1 => absurd c1 (by decide)) (fun c1 => ?_)
  refine lv_iconst (v := 1) hx hb dL_areBitsSo_68 (by decide) ?_
  refine lv_goto (tgt := 73) hx hb dL_areBitsSo_69 (by decide) ?_
  refine lv_icmp_ne (tgt := 96) hx hb dL_areBitsSo_73 (by decide) (fun c1 => absurd c1 (by decide)) (fun c1 => ?_)
  refine lv_aload_n hx hb dL_areBitsSo_76 rfl (lv_at hl1 1 rfl) ?_
  refine va_calli (va_runV (As := []) (rest := []) ⟨hx, hb, hml, hown, hts⟩ (k_X10_wander l D a cZ cI st0 H8.size) (cwV 0 hts gL_areBitsSo_X10_wander rfl rfl rfl (by decide +kernel) ⟨Nat.le_of_ble_eq_true rfl, Nat.le_of_ble_eq_true rfl⟩) ⟨blW okN_P, va_recv hK hP8 (ci := 10) (q0 := 0) rfl rfl, preW hP8 hK hD okN_P hN⟩ rfl rfl hl1.1 rfl (lv_room (Nat.le_of_ble_eq_true rfl)) dL_areBitsSo_77 ⟨Nat.le_of_ble_eq_true rfl, Nat.le_of_ble_eq_true rfl⟩) hS8 (aA_in hAc) (aA_free hAc hA hS8) (fun r9 u9 t9 H9 L9 ht9 hvm9 hw9 hB9 hz9 hk9 hS9 => ?_)
  obtain ⟨hu9, hr9⟩ := hw9
  subst u9; subst r9
  have hP9 : va_P D vwCl (wP a cZ cI st0) H9 := (by rw [← ht9]; exact hB9.1)
  have hn9 : s.heap.size + 1 ≤ H9.size := Nat.le_trans hn8 hz9
  clear ht9 hvm9 hB9 hz9 hk9
  refine lv_asi (y := 0) ev_wander ?_
  refine lv_if_lt (tgt := 96) hx hb dL_areBitsSo_80 (by decide) (fun c1 => absurd c1 (by decide)) (fun c1 => ?_)
  refine lv_aload_n hx hb dL_areBitsSo_83 rfl (lv_at hl1 1 rfl) ?_
  refine va_calli (va_runV (As := []) (rest := []) ⟨hx, hb, hml, hown, hts⟩ (k_X10_wander l D a cZ cI st0 H9.size) (cwV 0 hts gL_areBitsSo_X10_wander rfl rfl rfl (by decide +kernel) ⟨Nat.le_of_ble_eq_true rfl, Nat.le_of_ble_eq_true rfl⟩) ⟨blW okN_P, va_recv hK hP9 (ci := 10) (q0 := 0) rfl rfl, preW hP9 hK hD okN_P hN⟩ rfl rfl hl1.1 rfl (lv_room (Nat.le_of_ble_eq_true rfl)) dL_areBitsSo_84 ⟨Nat.le_of_ble_eq_true rfl, Nat.le_of_ble_eq_true rfl⟩) hS9 (aA_in hAc) (aA_free hAc hA hS9) (fun r10 u10 t10 H10 L10 ht10 hvm10 hw10 hB10 hz10 hk10 hS10 => ?_)
  obtain ⟨hu10, hr10⟩ := hw10
  subst u10; subst r10
  have hP10 : va_P D vwCl (wP a cZ cI st0) H10 := (by rw [← ht10]; exact hB10.1)
  have hn10 : s.heap.size + 1 ≤ H10.size := Nat.le_trans hn9 hz10
  clear ht10 hvm10 hB10 hz10 hk10
  refine lv_asi (y := 0) ev_wander ?_
  refine lv_ldc (v := 1048576) hx hb hown (hts (.constant RL 124 (1048576)) (List.mem_cons_of_mem _ (List.mem_append_left _ (List.mem_append_left _ (List.mem_append_left _ (List.mem_append_left _ (List.mem_append_left _ (List.mem_append_left _ (List.mem_append_left _ (List.mem_append_left _ (List.mem_append_left _ (List.mem_append_left _ (List.mem_of_getElem? (i := 1) rfl))))))))))))) dL_areBitsSo_87 ?_
  refine lv_icmp_gt (tgt := 96) hx hb dL_areBitsSo_89 (by decide) (fun c1 => absurd c1 (by decide)) (fun c1 => ?_)
  refine lv_iconst (v := 1) hx hb dL_areBitsSo_92 (by decide) ?_
  refine lv_goto (tgt := 97) hx hb dL_areBitsSo_93 (by decide) ?_
  refine lv_istore_n (lv' := [(2, .int 1), (1, .int 0), (0, .ref (a 0))]) hx hb dL_areBitsSo_97 rfl hl1 (by decide) rfl (fun ls2 hl2 => ?_)
  refine lv_iconst (v := 0) hx hb dL_areBitsSo_98 (by decide) ?_
  refine lv_istore_n (lv' := [(3, .int 0), (2, .int 1), (1, .int 0), (0, .ref (a 0))]) hx hb dL_areBitsSo_99 rfl hl2 (by decide) rfl (fun ls3 hl3 => ?_)
  have LOOP : ∀ (fu i : Nat), i ≤ 34 → 34 < i + fu → ∀ (H11 : Heap) (L11 : List Loc), va_P D vwCl (wP a cZ cI st0) H11 → va_S A s.heap H11 L11 → s.heap.size + (1 + i) ≤ H11.size → ∀ ls4 : Array Slot, lv_has ls4 5 [(3, .int (nI i)), (2, .int 1), (1, .int 0), (0, .ref (a 0))] → W p l e (headSpec wsL_areBitsSo rm_L_areBitsSo).room s m ([.ref (a 0)] : List Value).toArray below meth c H11 L11 (1 + i) (6 + 6 * i) Q (F0 m 100 ls4 []) := by
    clear hP10 hS10 hn10 hl3
    intro fu
    induction fu with
    | zero => exact fun i h1 h2 => absurd h2 (by omega)
    | succ fu ih =>
      intro i hi hin H11 L11 hP11 hS11 hn11 ls4 hl4
      refine lv_iload_n hx hb dL_areBitsSo_100 rfl (lv_at hl4 0 rfl) ?_
      refine lv_bipush (v := 34) hx hb dL_areBitsSo_101 (by decide) ?_
      refine lv_icmp_ge (tgt := 170) hx hb dL_areBitsSo_103 (by decide) (fun c1 => ?_) (fun c1 => ?_)
      · have hie : i = 34 := lp_ge (N := 34) (by decide) hi c1
        subst hie
        have hn11 : s.heap.size + 35 ≤ H11.size := hn11
        refine W.widen (k := 35) (n := 210) (by decide) (by decide) ?_
        refine lv_iload_n hx hb dL_areBitsSo_170 rfl (lv_at hl4 1 rfl) ?_
        refine lv_if_eq (tgt := 224) hx hb dL_areBitsSo_171 (by decide) (fun c1 => absurd c1 (by decide)) (fun c1 => ?_)
        refine lv_iload_n hx hb dL_areBitsSo_174 rfl (lv_at hl4 2 rfl) ?_
        refine lv_if_eq (tgt := 198) hx hb dL_areBitsSo_175 (by decide) (fun c1 => ?_) (fun c1 => absurd c1 (by decide))
        refine lv_aload_n hx hb dL_areBitsSo_198 rfl (lv_at hl4 3 rfl) ?_
        refine va_calli (va_runV (As := []) (rest := []) ⟨hx, hb, hml, hown, hts⟩ (k_X10_isLocked l D a cZ cI st0 H11.size) (cwV 0 hts gL_areBitsSo_X10_isLocked rfl rfl rfl (by decide +kernel) ⟨Nat.le_of_ble_eq_true rfl, Nat.le_of_ble_eq_true rfl⟩) ⟨blW okN_P, va_recv hK hP11 (ci := 10) (q0 := 0) rfl rfl, preW hP11 hK hD okN_P hN⟩ rfl rfl hl4.1 rfl (lv_room (Nat.le_of_ble_eq_true rfl)) dL_areBitsSo_199 ⟨Nat.le_of_ble_eq_true rfl, Nat.le_of_ble_eq_true rfl⟩) hS11 (aA_in hAc) (aA_free hAc hA hS11) (fun r12 u12 t12 H12 L12 ht12 hvm12 hw12 hB12 hz12 hk12 hS12 => ?_)
        obtain ⟨hu12, hr12⟩ := hw12
        subst u12; subst r12
        have hP12 : va_P D vwCl (wP a cZ cI st0) H12 := (by rw [← ht12]; exact hB12.1)
        have hn12 : s.heap.size + 35 ≤ H12.size := Nat.le_trans hn11 hz12
        clear ht12 hvm12 hB12 hz12 hk12
        refine lv_asi (y := 0) ev_isLocked ?_
        refine lv_if_eq (tgt := 220) hx hb dL_areBitsSo_202 (by decide) (fun c1 => ?_) (fun c1 => absurd c1 (by decide))
        refine lv_iconst (v := 1) hx hb dL_areBitsSo_220 (by decide) ?_
        refine lv_goto (tgt := 225) hx hb dL_areBitsSo_221 (by decide) ?_
        refine lv_istore_n (lv' := [(2, .int 1), (3, .int (nI 34)), (1, .int 0), (0, .ref (a 0))]) hx hb dL_areBitsSo_225 rfl hl4 (by decide) rfl (fun ls5 hl5 => ?_)
        refine lv_iload_n hx hb dL_areBitsSo_226 rfl (lv_at hl5 0 rfl) ?_
        refine lv_if_eq (tgt := 284) hx hb dL_areBitsSo_227 (by decide) (fun c1 => absurd c1 (by decide)) (fun c1 => ?_)
        refine lv_aload_n hx hb dL_areBitsSo_230 rfl (lv_at hl5 3 rfl) ?_
        refine va_calli (va_runV (As := []) (rest := []) ⟨hx, hb, hml, hown, hts⟩ (k_X10_alignment l D a cZ cI st0 H12.size) (cwV 0 hts gL_areBitsSo_X10_alignment rfl rfl rfl (by decide +kernel) ⟨Nat.le_of_ble_eq_true rfl, Nat.le_of_ble_eq_true rfl⟩) ⟨blW okN_P, va_recv hK hP12 (ci := 10) (q0 := 0) rfl rfl, preW hP12 hK hD okN_P hN⟩ rfl rfl hl5.1 rfl (lv_room (Nat.le_of_ble_eq_true rfl)) dL_areBitsSo_231 ⟨Nat.le_of_ble_eq_true rfl, Nat.le_of_ble_eq_true rfl⟩) hS12 (aA_in hAc) (aA_free hAc hA hS12) (fun r13 u13 t13 H13 L13 ht13 hvm13 hw13 hB13 hz13 hk13 hS13 => ?_)
        obtain ⟨hu13, hr13⟩ := hw13
        subst u13; subst r13
        have hP13 : va_P D vwCl (wP a cZ cI st0) H13 := (by rw [← ht13]; exact hB13.1)
        have hn13 : s.heap.size + 35 ≤ H13.size := Nat.le_trans hn12 hz13
        clear ht13 hvm13 hB13 hz13 hk13
        refine lv_asi (y := 0) ev_alignment ?_
        refine lv_if_lt (tgt := 284) hx hb dL_areBitsSo_234 (by decide) (fun c1 => absurd c1 (by decide)) (fun c1 => ?_)
        refine lv_aload_n hx hb dL_areBitsSo_237 rfl (lv_at hl5 3 rfl) ?_
        refine va_calli (va_runV (As := []) (rest := []) ⟨hx, hb, hml, hown, hts⟩ (k_X10_alignment l D a cZ cI st0 H13.size) (cwV 0 hts gL_areBitsSo_X10_alignment rfl rfl rfl (by decide +kernel) ⟨Nat.le_of_ble_eq_true rfl, Nat.le_of_ble_eq_true rfl⟩) ⟨blW okN_P, va_recv hK hP13 (ci := 10) (q0 := 0) rfl rfl, preW hP13 hK hD okN_P hN⟩ rfl rfl hl5.1 rfl (lv_room (Nat.le_of_ble_eq_true rfl)) dL_areBitsSo_238 ⟨Nat.le_of_ble_eq_true rfl, Nat.le_of_ble_eq_true rfl⟩) hS13 (aA_in hAc) (aA_free hAc hA hS13) (fun r14 u14 t14 H14 L14 ht14 hvm14 hw14 hB14 hz14 hk14 hS14 => ?_)
        obtain ⟨hu14, hr14⟩ := hw14
        subst u14; subst r14
        have hP14 : va_P D vwCl (wP a cZ cI st0) H14 := (by rw [← ht14]; exact hB14.1)
        have hn14 : s.heap.size + 35 ≤ H14.size := Nat.le_trans hn13 hz14
        clear ht14 hvm14 hB14 hz14 hk14
        refine lv_asi (y := 0) ev_alignment ?_
        refine lv_iconst (v := 2) hx hb dL_areBitsSo_241 (by decide) ?_
        refine lv_icmp_gt (tgt := 284) hx hb dL_areBitsSo_242 (by decide) (fun c1 => absurd c1 (by decide)) (fun c1 => ?_)
        refine lv_bipush (v := 24) hx hb dL_areBitsSo_245 (by decide) ?_
        refine lv_aload_n hx hb dL_areBitsSo_247 rfl (lv_at hl5 3 rfl) ?_
        refine va_calli (va_runV (As := []) (rest := [.int 24]) ⟨hx, hb, hml, hown, hts⟩ (k_X10_frames l D a cZ cI st0 H14.size) (cwV 0 hts gL_areBitsSo_X10_frames rfl rfl rfl (by decide +kernel) ⟨Nat.le_of_ble_eq_true rfl, Nat.le_of_ble_eq_true rfl⟩) ⟨blW okN_P, va_recv hK hP14 (ci := 10) (q0 := 0) rfl rfl, preW hP14 hK hD okN_P hN⟩ rfl rfl hl5.1 rfl (lv_room (Nat.le_of_ble_eq_true rfl)) dL_areBitsSo_248 ⟨Nat.le_of_ble_eq_true rfl, Nat.le_of_ble_eq_true rfl⟩) hS14 (aA_in hAc) (aA_free hAc hA hS14) (fun r15 u15 t15 H15 L15 ht15 hvm15 hw15 hB15 hz15 hk15 hS15 => ?_)
        obtain ⟨hu15, hr15⟩ := hw15
        subst u15; subst r15
        have hP15 : va_P D vwCl (wP a cZ cI st0) H15 := (by rw [← ht15]; exact hB15.1)
        have hn15 : s.heap.size + 35 ≤ H15.size := Nat.le_trans hn14 hz15
        clear ht15 hvm15 hB15 hz15 hk15
        refine lv_asi (y := 0) ev_frames ?_
        refine lv_imul hx hb dL_areBitsSo_251 ?_
        refine lv_asi (y := 0) (by decide +kernel) ?_
        refine lv_iload_n hx hb dL_areBitsSo_252 rfl (lv_at hl5 2 rfl) ?_
        refine lv_icmp_gt (tgt := 284) hx hb dL_areBitsSo_253 (by decide) (fun c1 => absurd c1 (by decide)) (fun c1 => ?_)
        refine lv_bipush (v := 72) hx hb dL_areBitsSo_256 (by decide) ?_
        refine lv_aload_n hx hb dL_areBitsSo_258 rfl (lv_at hl5 3 rfl) ?_
        refine va_calli (va_runV (As := []) (rest := [.int 72]) ⟨hx, hb, hml, hown, hts⟩ (k_X10_losses l D a cZ cI st0 H15.size) (cwV 0 hts gL_areBitsSo_X10_losses rfl rfl rfl (by decide +kernel) ⟨Nat.le_of_ble_eq_true rfl, Nat.le_of_ble_eq_true rfl⟩) ⟨blW okN_P, va_recv hK hP15 (ci := 10) (q0 := 0) rfl rfl, preW hP15 hK hD okN_P hN⟩ rfl rfl hl5.1 rfl (lv_room (Nat.le_of_ble_eq_true rfl)) dL_areBitsSo_259 ⟨Nat.le_of_ble_eq_true rfl, Nat.le_of_ble_eq_true rfl⟩) hS15 (aA_in hAc) (aA_free hAc hA hS15) (fun r16 u16 t16 H16 L16 ht16 hvm16 hw16 hB16 hz16 hk16 hS16 => ?_)
        obtain ⟨hu16, hr16⟩ := hw16
        subst u16; subst r16
        have hP16 : va_P D vwCl (wP a cZ cI st0) H16 := (by rw [← ht16]; exact hB16.1)
        have hn16 : s.heap.size + 35 ≤ H16.size := Nat.le_trans hn15 hz16
        clear ht16 hvm16 hB16 hz16 hk16
        refine lv_asi (y := 0) ev_losses ?_
        refine lv_imul hx hb dL_areBitsSo_262 ?_
        refine lv_asi (y := 0) (by decide +kernel) ?_
        refine lv_iload_n hx hb dL_areBitsSo_263 rfl (lv_at hl5 2 rfl) ?_
        refine lv_icmp_gt (tgt := 284) hx hb dL_areBitsSo_264 (by decide) (fun c1 => absurd c1 (by decide)) (fun c1 => ?_)
        refine lv_aload_n hx hb dL_areBitsSo_267 rfl (lv_at hl5 3 rfl) ?_
        refine va_calli (va_runV (As := []) (rest := []) ⟨hx, hb, hml, hown, hts⟩ (k_X10_alignment l D a cZ cI st0 H16.size) (cwV 0 hts gL_areBitsSo_X10_alignment rfl rfl rfl (by decide +kernel) ⟨Nat.le_of_ble_eq_true rfl, Nat.le_of_ble_eq_true rfl⟩) ⟨blW okN_P, va_recv hK hP16 (ci := 10) (q0 := 0) rfl rfl, preW hP16 hK hD okN_P hN⟩ rfl rfl hl5.1 rfl (lv_room (Nat.le_of_ble_eq_true rfl)) dL_areBitsSo_268 ⟨Nat.le_of_ble_eq_true rfl, Nat.le_of_ble_eq_true rfl⟩) hS16 (aA_in hAc) (aA_free hAc hA hS16) (fun r17 u17 t17 H17 L17 ht17 hvm17 hw17 hB17 hz17 hk17 hS17 => ?_)
        obtain ⟨hu17, hr17⟩ := hw17
        subst u17; subst r17
        have hP17 : va_P D vwCl (wP a cZ cI st0) H17 := (by rw [← ht17]; exact hB17.1)
        have hn17 : s.heap.size + 35 ≤ H17.size := Nat.le_trans hn16 hz17
        clear ht17 hvm17 hB17 hz17 hk17
        refine lv_asi (y := 0) ev_alignment ?_
        refine lv_if_eq (tgt := 280) hx hb dL_areBitsSo_271 (by decide) (fun c1 => ?_) (fun c1 => absurd c1 (by decide))
        refine lv_iconst (v := 1) hx hb dL_areBitsSo_280 (by decide) ?_
        refine lv_goto (tgt := 285) hx hb dL_areBitsSo_281 (by decide) ?_
        subst hQ; exact W.zret (v := 1) hx hb hr (by decide) (fun t ht hW => ⟨⟨1, (), rfl, rfl, ⟨endW hP17 hK hD ht hW, by rw [ht]; exact hn17⟩⟩, hS17.F ht⟩) hS17.2.2 dL_areBitsSo_285
      · have hlt : i < 34 := lp_lt (N := 34) (by decide) hi c1
        refine lv_iload_n hx hb dL_areBitsSo_106 rfl (lv_at hl4 1 rfl) ?_
        refine lv_if_eq (tgt := 170) hx hb dL_areBitsSo_107 (by decide) (fun c1 => absurd c1 (by decide)) (fun c1 => ?_)
        refine lv_aload_n hx hb dL_areBitsSo_110 rfl (lv_at hl4 3 rfl) ?_
        refine lv_iload_n hx hb dL_areBitsSo_111 rfl (lv_at hl4 0 rfl) ?_
        refine va_calli (vx_runSW (As := [.ref (a 0), .int (nI i)]) (rest := []) ⟨hx, hb, hml, hown, hts⟩ (k_L_bit l hfl D a cZ cI H11.size (nI i)) (vx_cwSW 2 hts gL_areBitsSo_L_bit rfl rfl rfl (by decide +kernel) ⟨Nat.le_of_ble_eq_true rfl, Nat.le_of_ble_eq_true rfl⟩) ⟨blY, preY hP11 hK hD hNY hZ hS11 (aA_free hAc hA hS11)⟩ rfl rfl hl4.1 rfl (lv_room (Nat.le_of_ble_eq_true rfl)) dL_areBitsSo_112 ⟨by show (1 + i) + 1 ≤ 35; omega, by show (6 + 6 * i) + 6 ≤ 210; omega⟩) hS11 (aA_in hAc) (aA_free hAc hA hS11) (fun r18 u18 t18 H18 L18 ht18 hvm18 hw18 hB18 hz18 hk18 hS18 => ?_)
        replace hw18 : r18 = (-99999) := hw18
        subst r18
        have hg18 := hB18.2
        rw [ht18] at hg18
        have hP18 : va_P D vwCl (wP a cZ cI st0) H18 := (by rw [← ht18]; exact hB18.1.1)
        have hn18 : s.heap.size + (1 + (i + 1)) ≤ H18.size := (by have := hg18; have := hn11; omega)
        clear ht18 hvm18 hB18 hz18 hk18
        refine lv_istore (lv' := [(4, .int (-99999)), (3, .int (nI i)), (2, .int 1), (1, .int 0), (0, .ref (a 0))]) hx hb dL_areBitsSo_115 hl4 (by decide) rfl (fun ls5 hl5 => ?_)
        refine W.widen (k := 1 + (i + 1)) (n := 6 + 6 * (i + 1)) (by omega) (by omega) ?_
        have J151 : W p l e (headSpec wsL_areBitsSo rm_L_areBitsSo).room s m ([.ref (a 0)] : List Value).toArray below meth c H18 L18 (1 + (i + 1)) (6 + 6 * (i + 1)) Q (F0 m 151 ls5 []) := by
          refine lv_iload hx hb dL_areBitsSo_151 (lv_at hl5 0 rfl) ?_
          refine lv_ldc (v := (-99999)) hx hb hown (hts (.constant RL 25 (-99999)) (List.mem_cons_of_mem _ (List.mem_append_left _ (List.mem_append_left _ (List.mem_append_left _ (List.mem_append_left _ (List.mem_append_left _ (List.mem_append_left _ (List.mem_append_left _ (List.mem_append_left _ (List.mem_append_left _ (List.mem_append_left _ (List.mem_of_getElem? (i := 0) rfl))))))))))))) dL_areBitsSo_153 ?_
          refine lv_icmp_ne (tgt := 162) hx hb dL_areBitsSo_155 (by decide) (fun c1 => absurd c1 (by decide)) (fun c1 => ?_)
          refine lv_iconst (v := 1) hx hb dL_areBitsSo_158 (by decide) ?_
          refine lv_goto (tgt := 163) hx hb dL_areBitsSo_159 (by decide) ?_
          refine lv_istore_n (lv' := [(2, .int 1), (4, .int (-99999)), (3, .int (nI i)), (1, .int 0), (0, .ref (a 0))]) hx hb dL_areBitsSo_163 rfl hl5 (by decide) rfl (fun ls6 hl6 => ?_)
          refine lv_iinc (v := nI (i + 1)) (lv' := [(3, .int (nI (i + 1))), (2, .int 1), (4, .int (-99999)), (1, .int 0), (0, .ref (a 0))]) hx hb dL_areBitsSo_164 hl6 (k := 2) rfl (nI_add i 1) (by decide) rfl (fun ls7 hl7 => ?_)
          refine lv_goto (tgt := 100) hx hb dL_areBitsSo_167 (by decide) ?_
          exact ih (i + 1) (by omega) (by omega) _ _ hP18 hS18 hn18 _ (lv_sub (l' := [(3, .int (nI (i + 1))), (2, .int 1), (1, .int 0), (0, .ref (a 0))]) hl7 [0, 1, 3, 4] rfl)
        refine lv_iload_n hx hb dL_areBitsSo_117 rfl (lv_at hl5 1 rfl) ?_
        refine lv_if_le (tgt := 151) hx hb dL_areBitsSo_118 (by decide) (fun _ => J151) (fun c2 => ?_)
        refine lv_iload_n hx hb dL_areBitsSo_121 rfl (lv_at hl5 1 rfl) ?_
        refine lv_iload_n hx hb dL_areBitsSo_122 rfl (lv_at hl5 3 rfl) ?_
        exact lv_icmp_gt (tgt := 151) hx hb dL_areBitsSo_123 (by decide) (fun _ => J151) (fun c3 => absurd (Int32.not_le.mp c2) c3)
  exact LOOP 35 0 (Nat.zero_le _) (by omega) _ _ hP10 hS10 hn10 _ (lv_sub (l' := [(3, .int (nI 0)), (2, .int 1), (1, .int 0), (0, .ref (a 0))]) hl3 [0, 1, 2, 3] rfl)

def rm_L_act : Room := { frames := 1, cells := 0, slots := 0, locals := 21 }
set_option maxRecDepth 100000 in
set_option maxHeartbeats 4000000 in
theorem k_L_act (l : Launch) (hfl : l.stackTraces = false) (D : va_G) (a : Nat → Nat) (cZ cI : ClassId) (sz : Nat) : Met l yL_act wsL_act rm_L_act (va_Pc [.ref (a 0), .int 5] (pY D (tyZI cZ cI) (wP a cZ cI st0) sz (adP a))) (va_Qi (fun (r : Int32) (_ : Unit) => r = 0) (fun _ t => oW D (tyZI cZ cI) (wP a cZ cI st0) (aA (adP a) sz) t) (aA (adP a) sz)) 0 0 (aA (adP a) sz) := by
  refine Met.ofW (cc := cL_act) (maxL := 4) (ret := (some .int)) (by decide +kernel) rfl ?_
  intro p e s m args below meth c s₁ B hml hv
  obtain ⟨rfl, ⟨hsz, hP0, hK, hD9, hNY⟩, hZ⟩ := hv
  have hN := hNY.1
  have hx := B.exec
  have hb := B.bytes
  have hr := B.returns
  have hts := atoms_spec (ws := wsL_act) B.pre
  have hown : s.vm.findClass RL = some m.cls := findClass_of_methodNamed B.named
  have hlocks := B.notSynchronized
  subst hsz
  have hD := aA_self (sz := s.heap.size) (as := adP a) hD9 rfl
  generalize hAe : aA (adP a) s.heap.size = A at hD hZ ⊢
  have hA : ∀ q : Nat, s.heap.size ≤ q → A q := fun q h => by rw [← hAe]; exact Or.inr h
  have hAc : ∀ q : Nat, q ∈ adP a → A q := fun q h => by rw [← hAe]; exact Or.inl h
  have hS0 : va_S A s.heap s.heap [] := va_S.rf
  have hn0 : s.heap.size + 0 ≤ s.heap.size := Nat.le_refl _
  have hl0 := lv_entry ([.ref (a 0), .int 5]) (n := 4) (Nat.le_of_ble_eq_true rfl)
  rw [lg_entry_eq]
  generalize (lg_sl ([.ref (a 0), .int 5]) ++ List.replicate (4 - (lg_sl ([.ref (a 0), .int 5])).length) Slot.unset).toArray = ls0 at hl0 ⊢
  have hl0 : lv_has ls0 4 [(0, .ref (a 0)), (1, .int 5)] := hl0
  generalize hQ : MQ below _ _ s _ _ _ = Q
  clear hD9 B
  refine lv_iload_n hx hb dL_act_0 rfl (lv_at hl0 1 rfl) ?_
  refine lv_bipush (v := 24) hx hb dL_act_1 (by decide) ?_
  refine lv_ishr hx hb dL_act_3 ?_
  refine lv_asi (y := 0) (by decide +kernel) ?_
  refine lv_bipush (v := 8) hx hb dL_act_4 (by decide) ?_
  refine va_calli (va_runS (As := [.int 0, .int 8]) (rest := []) ⟨hx, hb, hml, hown, hts⟩ (k_L_low l s.heap.size 0 8 (by decide)) (va_cwS 2 hts gL_act_L_low rfl rfl rfl (by decide +kernel) ⟨Nat.le_of_ble_eq_true rfl, Nat.le_of_ble_eq_true rfl⟩) ⟨blS, fun U hU hW => ⟨rfl, congrArg Array.size hU⟩⟩ rfl rfl hl0.1 rfl (lv_room (Nat.le_of_ble_eq_true rfl)) dL_act_6 ⟨Nat.le_of_ble_eq_true rfl, Nat.le_of_ble_eq_true rfl⟩) hS0 (fun q h1 h2 => absurd h1 (Nat.not_lt.mpr h2)) (fun q h => hA q (Nat.le_trans hS0.1 h)) (fun r1 u1 t1 H1 L1 ht1 hvm1 hw1 hB1 hz1 hk1 hS1 => ?_)
  replace hw1 : r1 = _ := hw1
  subst r1
  have hP1 : va_P D vwCl (wP a cZ cI st0) H1 := hP0.kept (fun k q h => hk1 q.1 (hP0 k q h).lt (Nat.not_le.mpr (hP0 k q h).lt))
  have hn1 : s.heap.size + 0 ≤ H1.size := Nat.le_trans hn0 hz1
  refine lv_asi (y := 0) (by decide +kernel) ?_
  refine lv_if_ne (tgt := 16) hx hb dL_act_9 (by decide) (fun c1 => absurd c1 (by decide)) (fun c1 => ?_)
  refine lv_iconst (v := 1) hx hb dL_act_12 (by decide) ?_
  refine lv_goto (tgt := 17) hx hb dL_act_13 (by decide) ?_
  refine lv_istore_n (lv' := [(2, .int 1), (0, .ref (a 0)), (1, .int 5)]) hx hb dL_act_17 rfl hl0 (by decide) rfl (fun ls1 hl1 => ?_)
  refine lv_iload_n hx hb dL_act_18 rfl (lv_at hl1 2 rfl) ?_
  refine lv_bipush (v := 14) hx hb dL_act_19 (by decide) ?_
  refine va_calli (va_runS (As := [.int 5, .int 14]) (rest := []) ⟨hx, hb, hml, hown, hts⟩ (k_L_low l H1.size 5 14 (by decide)) (va_cwS 2 hts gL_act_L_low rfl rfl rfl (by decide +kernel) ⟨Nat.le_of_ble_eq_true rfl, Nat.le_of_ble_eq_true rfl⟩) ⟨blS, fun U hU hW => ⟨rfl, congrArg Array.size hU⟩⟩ rfl rfl hl1.1 rfl (lv_room (Nat.le_of_ble_eq_true rfl)) dL_act_21 ⟨Nat.le_of_ble_eq_true rfl, Nat.le_of_ble_eq_true rfl⟩) hS1 (fun q h1 h2 => absurd h1 (Nat.not_lt.mpr h2)) (fun q h => hA q (Nat.le_trans hS1.1 h)) (fun r2 u2 t2 H2 L2 ht2 hvm2 hw2 hB2 hz2 hk2 hS2 => ?_)
  replace hw2 : r2 = _ := hw2
  subst r2
  have hP2 : va_P D vwCl (wP a cZ cI st0) H2 := hP1.kept (fun k q h => hk2 q.1 (hP1 k q h).lt (Nat.not_le.mpr (hP1 k q h).lt))
  have hn2 : s.heap.size + 0 ≤ H2.size := Nat.le_trans hn1 hz2
  refine lv_asi (y := 5) (by decide +kernel) ?_
  refine lv_istore_n (lv' := [(3, .int 5), (2, .int 1), (0, .ref (a 0)), (1, .int 5)]) hx hb dL_act_24 rfl hl1 (by decide) rfl (fun ls2 hl2 => ?_)
  refine lv_iload_n hx hb dL_act_25 rfl (lv_at hl2 0 rfl) ?_
  refine lv_if_ne (tgt := 68) hx hb dL_act_26 (by decide) (fun c1 => ?_) (fun c1 => absurd c1 (by decide))
  refine lv_iload_n hx hb dL_act_68 rfl (lv_at hl2 0 rfl) ?_
  refine lv_iconst (v := 1) hx hb dL_act_69 (by decide) ?_
  refine lv_icmp_ne (tgt := 123) hx hb dL_act_70 (by decide) (fun c1 => ?_) (fun c1 => absurd c1 (by decide))
  refine lv_iload_n hx hb dL_act_123 rfl (lv_at hl2 0 rfl) ?_
  refine lv_iconst (v := 2) hx hb dL_act_124 (by decide) ?_
  refine lv_icmp_ne (tgt := 150) hx hb dL_act_125 (by decide) (fun c1 => ?_) (fun c1 => absurd c1 (by decide))
  refine lv_iload_n hx hb dL_act_150 rfl (lv_at hl2 0 rfl) ?_
  refine lv_iconst (v := 3) hx hb dL_act_151 (by decide) ?_
  refine lv_icmp_ne (tgt := 195) hx hb dL_act_152 (by decide) (fun c1 => ?_) (fun c1 => absurd c1 (by decide))
  refine lv_iload_n hx hb dL_act_195 rfl (lv_at hl2 0 rfl) ?_
  refine lv_iconst (v := 4) hx hb dL_act_196 (by decide) ?_
  refine lv_icmp_ne (tgt := 223) hx hb dL_act_197 (by decide) (fun c1 => ?_) (fun c1 => absurd c1 (by decide))
  refine lv_iload_n hx hb dL_act_223 rfl (lv_at hl2 0 rfl) ?_
  refine lv_iconst (v := 5) hx hb dL_act_224 (by decide) ?_
  refine lv_icmp_ne (tgt := 234) hx hb dL_act_225 (by decide) (fun c1 => absurd c1 (by decide)) (fun c1 => ?_)
  refine lv_aload_n hx hb dL_act_228 rfl (lv_at hl2 2 rfl) ?_
  refine va_callv (va_runV (As := []) (rest := []) ⟨hx, hb, hml, hown, hts⟩ (k_X10_release l D a cZ cI st0 H2.size) (cwV 0 hts gL_act_X10_release rfl rfl rfl (by decide +kernel) ⟨Nat.le_of_ble_eq_true rfl, Nat.le_of_ble_eq_true rfl⟩) ⟨blW okN_P, va_recv hK hP2 (ci := 10) (q0 := 0) rfl rfl, preW hP2 hK hD okN_P hN⟩ rfl rfl hl2.1 rfl (lv_room (Nat.le_of_ble_eq_true rfl)) dL_act_229 ⟨Nat.le_of_ble_eq_true rfl, Nat.le_of_ble_eq_true rfl⟩) hS2 (aA_in hAc) (aA_free hAc hA hS2) (fun u3 t3 H3 L3 ht3 hvm3 hw3 hB3 hz3 hk3 hS3 => ?_)
  replace hw3 : u3 = s_X10_release st0 := hw3
  rw [rel0] at hw3
  subst u3
  have hP3 : va_P D vwCl (wP a cZ cI st0) H3 := (by rw [← ht3]; exact hB3.1)
  have hn3 : s.heap.size + 0 ≤ H3.size := Nat.le_trans hn2 hz3
  clear ht3 hvm3 hB3 hz3 hk3
  refine lv_iconst (v := 0) hx hb dL_act_232 (by decide) ?_
  subst hQ; exact W.iret (v := 0) hx hb hr (fun t ht hW => ⟨⟨0, (), rfl, rfl, endW hP3 hK hD ht hW⟩, hS3.F ht⟩) hS3.2.2 dL_act_233
end
section
def rm_L_areCostsSo : Room := { frames := 7, cells := 82, slots := 492, locals := 103 }
set_option maxRecDepth 100000 in
set_option maxHeartbeats 4000000 in
theorem k_L_areCostsSo (l : Launch) (hfl : l.stackTraces = false) (D : va_G) (a : Nat → Nat) (cZ cI : ClassId) (sz : Nat) : Met l yL_areCostsSo wsL_areCostsSo rm_L_areCostsSo (va_Pc [.ref (a 0)] (pY D (tyZI cZ cI) (wP a cZ cI st0) sz (adP a))) (va_Qi (fun (r : Int32) (_ : Unit) => r = 1) (fun _ t => oW D (tyZI cZ cI) (wP a cZ cI st0) (aA (adP a) sz) t) (aA (adP a) sz)) 82 492 (aA (adP a) sz) := by
  refine Met.ofW (cc := cL_areCostsSo) (maxL := 5) (ret := (some .boolean)) (by decide +kernel) rfl ?_
  intro p e s m args below meth c s₁ B hml hv
  obtain ⟨rfl, ⟨hsz, hP0, hK, hD9, hNY⟩, hZ⟩ := hv
  have hN := hNY.1
  have hx := B.exec
  have hb := B.bytes
  have hr := B.returns
  have hts := atoms_spec (ws := wsL_areCostsSo) B.pre
  have hown : s.vm.findClass RL = some m.cls := findClass_of_methodNamed B.named
  have hlocks := B.notSynchronized
  subst hsz
  have hD := aA_self (sz := s.heap.size) (as := adP a) hD9 rfl
  generalize hAe : aA (adP a) s.heap.size = A at hD hZ ⊢
  have hA : ∀ q : Nat, s.heap.size ≤ q → A q := fun q h => by rw [← hAe]; exact Or.inr h
  have hAc : ∀ q : Nat, q ∈ adP a → A q := fun q h => by rw [← hAe]; exact Or.inl h
  have hS0 : va_S A s.heap s.heap [] := va_S.rf
  have hn0 : s.heap.size + 0 ≤ s.heap.size := Nat.le_refl _
  have hl0 := lv_entry ([.ref (a 0)]) (n := 5) (Nat.le_of_ble_eq_true rfl)
  rw [lg_entry_eq]
  generalize (lg_sl ([.ref (a 0)]) ++ List.replicate (5 - (lg_sl ([.ref (a 0)])).length) Slot.unset).toArray = ls0 at hl0 ⊢
  have hl0 : lv_has ls0 5 [(0, .ref (a 0))] := hl0
  generalize hQ : MQ below _ _ s _ _ _ = Q
  clear hD9 B
  refine lv_aload_n hx hb dL_areCostsSo_0 rfl (lv_at hl0 0 rfl) ?_
  refine lv_iconst (v := 0) hx hb dL_areCostsSo_1 (by decide) ?_
  refine vx_calli (vx_runV (As := [.int 0]) (rest := []) ⟨hx, hb, hml, hown, hts⟩ (k_X10_cost l hfl D a cZ cI st0 s.heap.size 0) (cwV 1 hts gL_areCostsSo_X10_cost rfl rfl rfl (by decide +kernel) ⟨Nat.le_of_ble_eq_true rfl, Nat.le_of_ble_eq_true rfl⟩) ⟨blY, va_recv hK hP0 (ci := 10) (q0 := 0) rfl rfl, preY hP0 hK hD hNY hZ hS0 (aA_free hAc hA hS0)⟩ rfl rfl hl0.1 rfl (lv_room (Nat.le_of_ble_eq_true rfl)) dL_areCostsSo_2 ⟨Nat.le_of_ble_eq_true rfl, Nat.le_of_ble_eq_true rfl⟩) hS0 (aA_in hAc) (aA_free hAc hA hS0) (aA_in hAc) (fun E ce q9 u t H L ht hvm hw hB hz hk hS hce hcv hcl => absurd ((xcost0 (i := 0) (by decide)).symm.trans hw.2) (by decide)) (fun r1 u1 t1 H1 L1 ht1 hvm1 hw1 hB1 hz1 hk1 hS1 => ?_)
  obtain ⟨hx1, hu1, hr1⟩ := hw1
  subst u1; subst r1
  clear hx1
  have hP1 : va_P D vwCl (wP a cZ cI st0) H1 := (by rw [← ht1]; exact hB1.1)
  have hn1 : s.heap.size + 0 ≤ H1.size := Nat.le_trans hn0 hz1
  clear ht1 hvm1 hB1 hz1 hk1
  refine W.widen (k := 1) (n := 6) (by decide) (by decide) ?_
  refine lv_asi (y := 0) (cost0 _) ?_
  refine lv_aload_n hx hb dL_areCostsSo_5 rfl (lv_at hl0 0 rfl) ?_
  refine lv_bipush (v := 8) hx hb dL_areCostsSo_6 (by decide) ?_
  refine vx_calli (vx_runV (As := [.int 8]) (rest := [.int 0]) ⟨hx, hb, hml, hown, hts⟩ (k_X10_cost l hfl D a cZ cI st0 H1.size 8) (cwV 1 hts gL_areCostsSo_X10_cost rfl rfl rfl (by decide +kernel) ⟨Nat.le_of_ble_eq_true rfl, Nat.le_of_ble_eq_true rfl⟩) ⟨blY, va_recv hK hP1 (ci := 10) (q0 := 0) rfl rfl, preY hP1 hK hD hNY hZ hS1 (aA_free hAc hA hS1)⟩ rfl rfl hl0.1 rfl (lv_room (Nat.le_of_ble_eq_true rfl)) dL_areCostsSo_8 ⟨Nat.le_of_ble_eq_true rfl, Nat.le_of_ble_eq_true rfl⟩) hS1 (aA_in hAc) (aA_free hAc hA hS1) (aA_in hAc) (fun E ce q9 u t H L ht hvm hw hB hz hk hS hce hcv hcl => absurd ((xcost0 (i := 8) (by decide)).symm.trans hw.2) (by decide)) (fun r2 u2 t2 H2 L2 ht2 hvm2 hw2 hB2 hz2 hk2 hS2 => ?_)
  obtain ⟨hx2, hu2, hr2⟩ := hw2
  subst u2; subst r2
  clear hx2
  have hP2 : va_P D vwCl (wP a cZ cI st0) H2 := (by rw [← ht2]; exact hB2.1)
  have hn2 : s.heap.size + 0 ≤ H2.size := Nat.le_trans hn1 hz2
  clear ht2 hvm2 hB2 hz2 hk2
  refine W.widen (k := 2) (n := 12) (by decide) (by decide) ?_
  refine lv_asi (y := 0) (cost0 _) ?_
  refine lv_iadd hx hb dL_areCostsSo_11 ?_
  refine lv_asi (y := 0) (by decide +kernel) ?_
  refine lv_istore_n (lv' := [(1, .int 0), (0, .ref (a 0))]) hx hb dL_areCostsSo_12 rfl hl0 (by decide) rfl (fun ls1 hl1 => ?_)
  refine lv_aload_n hx hb dL_areCostsSo_13 rfl (lv_at hl1 1 rfl) ?_
  refine va_calli (va_runV (As := []) (rest := []) ⟨hx, hb, hml, hown, hts⟩ (k_X10_bestPhase l D a cZ cI st0 H2.size) (cwV 0 hts gL_areCostsSo_X10_bestPhase rfl rfl rfl (by decide +kernel) ⟨Nat.le_of_ble_eq_true rfl, Nat.le_of_ble_eq_true rfl⟩) ⟨blW okN_P, va_recv hK hP2 (ci := 10) (q0 := 0) rfl rfl, preW hP2 hK hD okN_P hN⟩ rfl rfl hl1.1 rfl (lv_room (Nat.le_of_ble_eq_true rfl)) dL_areCostsSo_14 ⟨Nat.le_of_ble_eq_true rfl, Nat.le_of_ble_eq_true rfl⟩) hS2 (aA_in hAc) (aA_free hAc hA hS2) (fun r3 u3 t3 H3 L3 ht3 hvm3 hw3 hB3 hz3 hk3 hS3 => ?_)
  obtain ⟨hu3, hr3⟩ := hw3
  subst u3; subst r3
  have hP3 : va_P D vwCl (wP a cZ cI st0) H3 := (by rw [← ht3]; exact hB3.1)
  have hn3 : s.heap.size + 0 ≤ H3.size := Nat.le_trans hn2 hz3
  clear ht3 hvm3 hB3 hz3 hk3
  refine lv_asi (y := 0) ev_bestPhase ?_
  refine lv_istore_n (lv' := [(2, .int 0), (1, .int 0), (0, .ref (a 0))]) hx hb dL_areCostsSo_17 rfl hl1 (by decide) rfl (fun ls2 hl2 => ?_)
  refine lv_iload_n hx hb dL_areCostsSo_18 rfl (lv_at hl2 1 rfl) ?_
  refine lv_bipush (v := 8) hx hb dL_areCostsSo_19 (by decide) ?_
  refine lv_irem hx hb dL_areCostsSo_21 (by decide) ?_
  refine lv_asi (y := 0) (by decide +kernel) ?_
  refine lv_if_ne (tgt := 40) hx hb dL_areCostsSo_22 (by decide) (fun c1 => absurd c1 (by decide)) (fun c1 => ?_)
  refine lv_iload_n hx hb dL_areCostsSo_25 rfl (lv_at hl2 1 rfl) ?_
  refine lv_if_lt (tgt := 40) hx hb dL_areCostsSo_26 (by decide) (fun c1 => absurd c1 (by decide)) (fun c1 => ?_)
  refine lv_iload_n hx hb dL_areCostsSo_29 rfl (lv_at hl2 1 rfl) ?_
  refine lv_sipush (v := 2048) hx hb dL_areCostsSo_30 (by decide) ?_
  refine lv_icmp_gt (tgt := 40) hx hb dL_areCostsSo_33 (by decide) (fun c1 => absurd c1 (by decide)) (fun c1 => ?_)
  refine lv_iconst (v := 1) hx hb dL_areCostsSo_36 (by decide) ?_
  refine lv_goto (tgt := 41) hx hb dL_areCostsSo_37 (by decide) ?_
  refine lv_istore_n (lv' := [(3, .int 1), (2, .int 0), (1, .int 0), (0, .ref (a 0))]) hx hb dL_areCostsSo_41 rfl hl2 (by decide) rfl (fun ls3 hl3 => ?_)
  refine lv_iconst (v := 0) hx hb dL_areCostsSo_42 (by decide) ?_
  refine lv_istore (lv' := [(4, .int 0), (3, .int 1), (2, .int 0), (1, .int 0), (0, .ref (a 0))]) hx hb dL_areCostsSo_43 hl3 (by decide) rfl (fun ls4 hl4 => ?_)
  have LOOP : ∀ (fu i : Nat), i ≤ 16 → 16 < i + fu → ∀ (H4 : Heap) (L4 : List Loc), va_P D vwCl (wP a cZ cI st0) H4 → va_S A s.heap H4 L4 → s.heap.size + 0 ≤ H4.size → ∀ ls5 : Array Slot, lv_has ls5 5 [(4, .int (nI i)), (3, .int 1), (2, .int 0), (1, .int 0), (0, .ref (a 0))] → W p l e (headSpec wsL_areCostsSo rm_L_areCostsSo).room s m ([.ref (a 0)] : List Value).toArray below meth c H4 L4 (2 + 5 * i) (12 + 30 * i) Q (F0 m 45 ls5 []) := by
    clear hP3 hS3 hn3 hl4
    intro fu
    induction fu with
    | zero => exact fun i h1 h2 => absurd h2 (by omega)
    | succ fu ih =>
      intro i hi hin H4 L4 hP4 hS4 hn4 ls5 hl5
      refine lv_iload hx hb dL_areCostsSo_45 (lv_at hl5 0 rfl) ?_
      refine lv_bipush (v := 16) hx hb dL_areCostsSo_47 (by decide) ?_
      refine lv_icmp_ge (tgt := 137) hx hb dL_areCostsSo_49 (by decide) (fun c1 => ?_) (fun c1 => ?_)
      · have hie : i = 16 := lp_ge (N := 16) (by decide) hi c1
        subst hie
        refine W.widen (k := 82) (n := 492) (by decide) (by decide) ?_
        refine lv_iload_n hx hb dL_areCostsSo_137 rfl (lv_at hl5 1 rfl) ?_
        subst hQ; exact W.zret (v := 1) hx hb hr (by decide) (fun t ht hW => ⟨⟨1, (), rfl, rfl, endW hP4 hK hD ht hW⟩, hS4.F ht⟩) hS4.2.2 dL_areCostsSo_138
      · have hlt : i < 16 := lp_lt (N := 16) (by decide) hi c1
        have h0i : (0 : Int32) ≤ nI i := (nI_leI (a := 0) (b := i) (by decide) (by omega)).mpr (Nat.zero_le _)
        refine lv_iload_n hx hb dL_areCostsSo_52 rfl (lv_at hl5 1 rfl) ?_
        refine lv_if_eq (tgt := 137) hx hb dL_areCostsSo_53 (by decide) (fun c1 => absurd c1 (by decide)) (fun c1 => ?_)
        refine lv_aload_n hx hb dL_areCostsSo_56 rfl (lv_at hl5 4 rfl) ?_
        refine lv_iload hx hb dL_areCostsSo_57 (lv_at hl5 0 rfl) ?_
        refine vx_calli (vx_runV (As := [.int (nI i)]) (rest := []) ⟨hx, hb, hml, hown, hts⟩ (k_X10_cost l hfl D a cZ cI st0 H4.size (nI i)) (cwV 1 hts gL_areCostsSo_X10_cost rfl rfl rfl (by decide +kernel) ⟨Nat.le_of_ble_eq_true rfl, Nat.le_of_ble_eq_true rfl⟩) ⟨blY, va_recv hK hP4 (ci := 10) (q0 := 0) rfl rfl, preY hP4 hK hD hNY hZ hS4 (aA_free hAc hA hS4)⟩ rfl rfl hl5.1 rfl (lv_room (Nat.le_of_ble_eq_true rfl)) dL_areCostsSo_59 ⟨by show (2 + 5 * i) + 1 ≤ 82; omega, by show (12 + 30 * i) + 6 ≤ 492; omega⟩) hS4 (aA_in hAc) (aA_free hAc hA hS4) (aA_in hAc) (fun E ce q9 u t H L ht hvm hw hB hz hk hS hce hcv hcl => absurd ((xcost0 hlt).symm.trans hw.2) (by decide)) (fun r5 u5 t5 H5 L5 ht5 hvm5 hw5 hB5 hz5 hk5 hS5 => ?_)
        obtain ⟨hx5, hu5, hr5⟩ := hw5
        subst u5; subst r5
        clear hx5
        have hP5 : va_P D vwCl (wP a cZ cI st0) H5 := (by rw [← ht5]; exact hB5.1)
        have hn5 : s.heap.size + 0 ≤ H5.size := Nat.le_trans hn4 hz5
        clear ht5 hvm5 hB5 hz5 hk5
        refine W.widen (k := (2 + 5 * i + 1)) (n := (12 + 30 * i + 6)) (by omega) (by omega) ?_
        refine lv_asi (y := 0) (cost0 _) ?_
        refine lv_aload_n hx hb dL_areCostsSo_62 rfl (lv_at hl5 4 rfl) ?_
        refine lv_iload hx hb dL_areCostsSo_63 (lv_at hl5 0 rfl) ?_
        refine lv_bipush (v := 8) hx hb dL_areCostsSo_65 (by decide) ?_
        refine lv_iadd hx hb dL_areCostsSo_67 ?_
        refine lv_asi (y := nI (i + 8)) (nI_add i 8) ?_
        refine lv_bipush (v := 16) hx hb dL_areCostsSo_68 (by decide) ?_
        refine lv_irem hx hb dL_areCostsSo_70 (by decide) ?_
        refine lv_asi (y := nI ((i + 8) % 16)) (irem_nI rfl rfl (by omega) (by decide) (by decide)) ?_
        refine vx_calli (vx_runV (As := [.int (nI ((i + 8) % 16))]) (rest := [.int 0]) ⟨hx, hb, hml, hown, hts⟩ (k_X10_cost l hfl D a cZ cI st0 H5.size (nI ((i + 8) % 16))) (cwV 1 hts gL_areCostsSo_X10_cost rfl rfl rfl (by decide +kernel) ⟨Nat.le_of_ble_eq_true rfl, Nat.le_of_ble_eq_true rfl⟩) ⟨blY, va_recv hK hP5 (ci := 10) (q0 := 0) rfl rfl, preY hP5 hK hD hNY hZ hS5 (aA_free hAc hA hS5)⟩ rfl rfl hl5.1 rfl (lv_room (Nat.le_of_ble_eq_true rfl)) dL_areCostsSo_71 ⟨by show (2 + 5 * i + 1) + 1 ≤ 82; omega, by show (12 + 30 * i + 6) + 6 ≤ 492; omega⟩) hS5 (aA_in hAc) (aA_free hAc hA hS5) (aA_in hAc) (fun E ce q9 u t H L ht hvm hw hB hz hk hS hce hcv hcl => absurd ((xcost0 (i := (i + 8) % 16) (Nat.mod_lt _ (by decide))).symm.trans hw.2) (by decide)) (fun r6 u6 t6 H6 L6 ht6 hvm6 hw6 hB6 hz6 hk6 hS6 => ?_)
        obtain ⟨hx6, hu6, hr6⟩ := hw6
        subst u6; subst r6
        clear hx6
        have hP6 : va_P D vwCl (wP a cZ cI st0) H6 := (by rw [← ht6]; exact hB6.1)
        have hn6 : s.heap.size + 0 ≤ H6.size := Nat.le_trans hn5 hz6
        clear ht6 hvm6 hB6 hz6 hk6
        refine W.widen (k := (2 + 5 * i + 2)) (n := (12 + 30 * i + 12)) (by omega) (by omega) ?_
        refine lv_asi (y := 0) (cost0 _) ?_
        refine lv_iadd hx hb dL_areCostsSo_74 ?_
        refine lv_asi (y := 0) (by decide +kernel) ?_
        refine lv_iload_n hx hb dL_areCostsSo_75 rfl (lv_at hl5 3 rfl) ?_
        refine lv_icmp_ne (tgt := 129) hx hb dL_areCostsSo_76 (by decide) (fun c1 => absurd c1 (by decide)) (fun c1 => ?_)
        refine lv_aload_n hx hb dL_areCostsSo_79 rfl (lv_at hl5 4 rfl) ?_
        refine lv_iload hx hb dL_areCostsSo_80 (lv_at hl5 0 rfl) ?_
        refine vx_calli (vx_runV (As := [.int (nI i)]) (rest := []) ⟨hx, hb, hml, hown, hts⟩ (k_X10_cost l hfl D a cZ cI st0 H6.size (nI i)) (cwV 1 hts gL_areCostsSo_X10_cost rfl rfl rfl (by decide +kernel) ⟨Nat.le_of_ble_eq_true rfl, Nat.le_of_ble_eq_true rfl⟩) ⟨blY, va_recv hK hP6 (ci := 10) (q0 := 0) rfl rfl, preY hP6 hK hD hNY hZ hS6 (aA_free hAc hA hS6)⟩ rfl rfl hl5.1 rfl (lv_room (Nat.le_of_ble_eq_true rfl)) dL_areCostsSo_82 ⟨by show (2 + 5 * i + 2) + 1 ≤ 82; omega, by show (12 + 30 * i + 12) + 6 ≤ 492; omega⟩) hS6 (aA_in hAc) (aA_free hAc hA hS6) (aA_in hAc) (fun E ce q9 u t H L ht hvm hw hB hz hk hS hce hcv hcl => absurd ((xcost0 hlt).symm.trans hw.2) (by decide)) (fun r7 u7 t7 H7 L7 ht7 hvm7 hw7 hB7 hz7 hk7 hS7 => ?_)
        obtain ⟨hx7, hu7, hr7⟩ := hw7
        subst u7; subst r7
        clear hx7
        have hP7 : va_P D vwCl (wP a cZ cI st0) H7 := (by rw [← ht7]; exact hB7.1)
        have hn7 : s.heap.size + 0 ≤ H7.size := Nat.le_trans hn6 hz7
        clear ht7 hvm7 hB7 hz7 hk7
        refine W.widen (k := (2 + 5 * i + 3)) (n := (12 + 30 * i + 18)) (by omega) (by omega) ?_
        refine lv_asi (y := 0) (cost0 _) ?_
        refine lv_if_lt (tgt := 129) hx hb dL_areCostsSo_85 (by decide) (fun c1 => absurd c1 (by decide)) (fun c1 => ?_)
        refine lv_iload hx hb dL_areCostsSo_88 (lv_at hl5 0 rfl) ?_
        refine lv_iload_n hx hb dL_areCostsSo_90 rfl (lv_at hl5 2 rfl) ?_
        refine lv_icmp_ge (tgt := 111) hx hb dL_areCostsSo_91 (by decide) (fun _ => ?_) (fun c1 => absurd h0i c1)
        refine lv_aload_n hx hb dL_areCostsSo_111 rfl (lv_at hl5 4 rfl) ?_
        refine lv_iload hx hb dL_areCostsSo_112 (lv_at hl5 0 rfl) ?_
        refine vx_calli (vx_runV (As := [.int (nI i)]) (rest := []) ⟨hx, hb, hml, hown, hts⟩ (k_X10_cost l hfl D a cZ cI st0 H7.size (nI i)) (cwV 1 hts gL_areCostsSo_X10_cost rfl rfl rfl (by decide +kernel) ⟨Nat.le_of_ble_eq_true rfl, Nat.le_of_ble_eq_true rfl⟩) ⟨blY, va_recv hK hP7 (ci := 10) (q0 := 0) rfl rfl, preY hP7 hK hD hNY hZ hS7 (aA_free hAc hA hS7)⟩ rfl rfl hl5.1 rfl (lv_room (Nat.le_of_ble_eq_true rfl)) dL_areCostsSo_114 ⟨by show (2 + 5 * i + 3) + 1 ≤ 82; omega, by show (12 + 30 * i + 18) + 6 ≤ 492; omega⟩) hS7 (aA_in hAc) (aA_free hAc hA hS7) (aA_in hAc) (fun E ce q9 u t H L ht hvm hw hB hz hk hS hce hcv hcl => absurd ((xcost0 hlt).symm.trans hw.2) (by decide)) (fun r8 u8 t8 H8 L8 ht8 hvm8 hw8 hB8 hz8 hk8 hS8 => ?_)
        obtain ⟨hx8, hu8, hr8⟩ := hw8
        subst u8; subst r8
        clear hx8
        have hP8 : va_P D vwCl (wP a cZ cI st0) H8 := (by rw [← ht8]; exact hB8.1)
        have hn8 : s.heap.size + 0 ≤ H8.size := Nat.le_trans hn7 hz8
        clear ht8 hvm8 hB8 hz8 hk8
        refine W.widen (k := (2 + 5 * i + 4)) (n := (12 + 30 * i + 24)) (by omega) (by omega) ?_
        refine lv_asi (y := 0) (cost0 _) ?_
        refine lv_aload_n hx hb dL_areCostsSo_117 rfl (lv_at hl5 4 rfl) ?_
        refine lv_iload_n hx hb dL_areCostsSo_118 rfl (lv_at hl5 2 rfl) ?_
        refine vx_calli (vx_runV (As := [.int 0]) (rest := [.int 0]) ⟨hx, hb, hml, hown, hts⟩ (k_X10_cost l hfl D a cZ cI st0 H8.size 0) (cwV 1 hts gL_areCostsSo_X10_cost rfl rfl rfl (by decide +kernel) ⟨Nat.le_of_ble_eq_true rfl, Nat.le_of_ble_eq_true rfl⟩) ⟨blY, va_recv hK hP8 (ci := 10) (q0 := 0) rfl rfl, preY hP8 hK hD hNY hZ hS8 (aA_free hAc hA hS8)⟩ rfl rfl hl5.1 rfl (lv_room (Nat.le_of_ble_eq_true rfl)) dL_areCostsSo_119 ⟨by show (2 + 5 * i + 4) + 1 ≤ 82; omega, by show (12 + 30 * i + 24) + 6 ≤ 492; omega⟩) hS8 (aA_in hAc) (aA_free hAc hA hS8) (aA_in hAc) (fun E ce q9 u t H L ht hvm hw hB hz hk hS hce hcv hcl => absurd ((xcost0 (i := 0) (by decide)).symm.trans hw.2) (by decide)) (fun r9 u9 t9 H9 L9 ht9 hvm9 hw9 hB9 hz9 hk9 hS9 => ?_)
        obtain ⟨hx9, hu9, hr9⟩ := hw9
        subst u9; subst r9
        clear hx9
        have hP9 : va_P D vwCl (wP a cZ cI st0) H9 := (by rw [← ht9]; exact hB9.1)
        have hn9 : s.heap.size + 0 ≤ H9.size := Nat.le_trans hn8 hz9
        clear ht9 hvm9 hB9 hz9 hk9
        refine W.widen (k := (2 + 5 * i + 5)) (n := (12 + 30 * i + 30)) (by omega) (by omega) ?_
        refine lv_asi (y := 0) (cost0 _) ?_
        refine lv_icmp_lt (tgt := 129) hx hb dL_areCostsSo_122 (by decide) (fun c1 => absurd c1 (by decide)) (fun c1 => ?_)
        refine lv_iconst (v := 1) hx hb dL_areCostsSo_125 (by decide) ?_
        refine lv_goto (tgt := 130) hx hb dL_areCostsSo_126 (by decide) ?_
        refine lv_istore_n (lv' := [(3, .int 1), (4, .int (nI i)), (2, .int 0), (1, .int 0), (0, .ref (a 0))]) hx hb dL_areCostsSo_130 rfl hl5 (by decide) rfl (fun ls6 hl6 => ?_)
        refine lv_iinc (v := nI (i + 1)) (lv' := [(4, .int (nI (i + 1))), (3, .int 1), (2, .int 0), (1, .int 0), (0, .ref (a 0))]) hx hb dL_areCostsSo_131 hl6 (k := 1) rfl (nI_add i 1) (by decide) rfl (fun ls7 hl7 => ?_)
        refine lv_goto (tgt := 45) hx hb dL_areCostsSo_134 (by decide) ?_
        refine W.widen (k := 2 + 5 * (i + 1)) (n := 12 + 30 * (i + 1)) (by omega) (by omega) ?_
        exact ih (i + 1) (by omega) (by omega) _ _ hP9 hS9 hn9 _ (lv_sub (l' := [(4, .int (nI (i + 1))), (3, .int 1), (2, .int 0), (1, .int 0), (0, .ref (a 0))]) hl7 [0, 1, 2, 3, 4] rfl)
  exact LOOP 17 0 (Nat.zero_le _) (by omega) _ _ hP3 hS3 hn3 _ (lv_sub (l' := [(4, .int (nI 0)), (3, .int 1), (2, .int 0), (1, .int 0), (0, .ref (a 0))]) hl4 [0, 1, 2, 3, 4] rfl)
end
section
def rm_L_areAlike : Room := { frames := 8, cells := 68, slots := 408, locals := 125 }
set_option maxRecDepth 100000 in
set_option maxHeartbeats 4000000 in
theorem k_L_areAlike (l : Launch) (hfl : l.stackTraces = false) (D : va_G) (a : Nat → Nat) (cZ cI : ClassId) (b : Nat → Nat) (cZ2 cI2 : ClassId) (sz : Nat) : Met l yL_areAlike wsL_areAlike rm_L_areAlike (va_Pc [.ref (a 0), .ref (b 0)] (pY D [(cZ, .boolean), (cI, .int), (cZ2, .boolean), (cI2, .int)] (wP a cZ cI st0 ++ wP b cZ2 cI2 st0) sz (adP a ++ adP b))) (va_Qi (fun (r : Int32) (_ : Unit) => r = 1) (fun _ t => oW D [(cZ, .boolean), (cI, .int), (cZ2, .boolean), (cI2, .int)] (wP a cZ cI st0 ++ wP b cZ2 cI2 st0) (aA (adP a ++ adP b) sz) t ∧ sz + 66 ≤ t.heap.size) (aA (adP a ++ adP b) sz)) 68 408 (aA (adP a ++ adP b) sz) := by
  refine Met.ofW (cc := cL_areAlike) (maxL := 4) (ret := (some .boolean)) (by decide +kernel) rfl ?_
  intro p e s m args below meth c s₁ B hml hv
  obtain ⟨rfl, ⟨hsz, hP0, hK, hD9, hNY⟩, hZ⟩ := hv
  have hN := hNY.1
  have hx := B.exec
  have hb := B.bytes
  have hr := B.returns
  have hts := atoms_spec (ws := wsL_areAlike) B.pre
  have hown : s.vm.findClass RL = some m.cls := findClass_of_methodNamed B.named
  have hlocks := B.notSynchronized
  subst hsz
  have hD := aA_self (sz := s.heap.size) (as := adP a ++ adP b) hD9 rfl
  generalize hAe : aA (adP a ++ adP b) s.heap.size = A at hD hZ ⊢
  have hA : ∀ q : Nat, s.heap.size ≤ q → A q := fun q h => by rw [← hAe]; exact Or.inr h
  have hAo : ∀ q : Nat, q ∈ adP a → A q := fun q h => by rw [← hAe]; exact Or.inl (List.mem_append_left _ h)
  have hAp : ∀ q : Nat, q ∈ adP b → A q := fun q h => by rw [← hAe]; exact Or.inl (List.mem_append_right _ h)
  have hKo := hK.sub (tys' := tyZI cZ cI) [0, 1] rfl
  have hKp := hK.sub (tys' := tyZI cZ2 cI2) [2, 3] rfl
  have hS0 : va_S A s.heap s.heap [] := va_S.rf
  have hn0 : s.heap.size + 0 ≤ s.heap.size := Nat.le_refl _
  have hl0 := lv_entry ([.ref (a 0), .ref (b 0)]) (n := 4) (Nat.le_of_ble_eq_true rfl)
  rw [lg_entry_eq]
  generalize (lg_sl ([.ref (a 0), .ref (b 0)]) ++ List.replicate (4 - (lg_sl ([.ref (a 0), .ref (b 0)])).length) Slot.unset).toArray = ls0 at hl0 ⊢
  have hl0 : lv_has ls0 4 [(0, .ref (a 0)), (1, .ref (b 0))] := hl0
  generalize hQ : MQ below _ _ s _ _ _ = Q
  clear hD9 B
  refine lv_aload_n hx hb dL_areAlike_0 rfl (lv_at hl0 0 rfl) ?_
  refine va_calli (va_runV (As := []) (rest := []) ⟨hx, hb, hml, hown, hts⟩ (k_X10_ticks l D a cZ cI st0 s.heap.size) (cwV 0 hts gL_areAlike_X10_ticks rfl rfl rfl (by decide +kernel) ⟨Nat.le_of_ble_eq_true rfl, Nat.le_of_ble_eq_true rfl⟩) ⟨blW okN_P, va_recv hKo (twoO hP0) (ci := 10) (q0 := 0) rfl rfl, preW (twoO hP0) hKo (twoOD hD) okN_P hN⟩ rfl rfl hl0.1 rfl (lv_room (Nat.le_of_ble_eq_true rfl)) dL_areAlike_1 ⟨Nat.le_of_ble_eq_true rfl, Nat.le_of_ble_eq_true rfl⟩) hS0 (aA_in hAo) (aA_free hAo hA hS0) (fun r1 u1 t1 H1 L1 ht1 hvm1 hw1 hB1 hz1 hk1 hS1 => ?_)
  obtain ⟨hu1, hr1⟩ := hw1
  subst u1; subst r1
  have hP1 : va_P D vwCl (wP a cZ cI st0 ++ wP b cZ2 cI2 st0) H1 := backO hP0 hD rfl hk1 (by rw [← ht1]; exact hB1.1)
  have hn1 : s.heap.size + 0 ≤ H1.size := Nat.le_trans hn0 hz1
  clear ht1 hvm1 hB1 hz1 hk1
  refine lv_asi (y := 0) ev_ticks ?_
  refine lv_aload_n hx hb dL_areAlike_4 rfl (lv_at hl0 1 rfl) ?_
  refine va_calli (va_runV (As := []) (rest := [.int 0]) ⟨hx, hb, hml, hown, hts⟩ (k_X10_ticks l D b cZ2 cI2 st0 H1.size) (cwV 0 hts gL_areAlike_X10_ticks rfl rfl rfl (by decide +kernel) ⟨Nat.le_of_ble_eq_true rfl, Nat.le_of_ble_eq_true rfl⟩) ⟨blW okN_P, va_recv hKp (twoP hP1) (ci := 10) (q0 := 0) rfl rfl, preW (twoP hP1) hKp (twoPD hD) okN_P hN⟩ rfl rfl hl0.1 rfl (lv_room (Nat.le_of_ble_eq_true rfl)) dL_areAlike_5 ⟨Nat.le_of_ble_eq_true rfl, Nat.le_of_ble_eq_true rfl⟩) hS1 (aA_in hAp) (aA_free hAp hA hS1) (fun r2 u2 t2 H2 L2 ht2 hvm2 hw2 hB2 hz2 hk2 hS2 => ?_)
  obtain ⟨hu2, hr2⟩ := hw2
  subst u2; subst r2
  have hP2 : va_P D vwCl (wP a cZ cI st0 ++ wP b cZ2 cI2 st0) H2 := backP hP1 hD rfl hk2 (by rw [← ht2]; exact hB2.1)
  have hn2 : s.heap.size + 0 ≤ H2.size := Nat.le_trans hn1 hz2
  clear ht2 hvm2 hB2 hz2 hk2
  refine lv_asi (y := 0) ev_ticks ?_
  refine lv_icmp_ne (tgt := 158) hx hb dL_areAlike_8 (by decide) (fun c1 => absurd c1 (by decide)) (fun c1 => ?_)
  refine lv_aload_n hx hb dL_areAlike_11 rfl (lv_at hl0 0 rfl) ?_
  refine va_calli (va_runV (As := []) (rest := []) ⟨hx, hb, hml, hown, hts⟩ (k_X10_sent l D a cZ cI st0 H2.size) (cwV 0 hts gL_areAlike_X10_sent rfl rfl rfl (by decide +kernel) ⟨Nat.le_of_ble_eq_true rfl, Nat.le_of_ble_eq_true rfl⟩) ⟨blW okN_P, va_recv hKo (twoO hP2) (ci := 10) (q0 := 0) rfl rfl, preW (twoO hP2) hKo (twoOD hD) okN_P hN⟩ rfl rfl hl0.1 rfl (lv_room (Nat.le_of_ble_eq_true rfl)) dL_areAlike_12 ⟨Nat.le_of_ble_eq_true rfl, Nat.le_of_ble_eq_true rfl⟩) hS2 (aA_in hAo) (aA_free hAo hA hS2) (fun r3 u3 t3 H3 L3 ht3 hvm3 hw3 hB3 hz3 hk3 hS3 => ?_)
  obtain ⟨hu3, hr3⟩ := hw3
  subst u3; subst r3
  have hP3 : va_P D vwCl (wP a cZ cI st0 ++ wP b cZ2 cI2 st0) H3 := backO hP2 hD rfl hk3 (by rw [← ht3]; exact hB3.1)
  have hn3 : s.heap.size + 0 ≤ H3.size := Nat.le_trans hn2 hz3
  clear ht3 hvm3 hB3 hz3 hk3
  refine lv_asi (y := 0) ev_sent ?_
  refine lv_aload_n hx hb dL_areAlike_15 rfl (lv_at hl0 1 rfl) ?_
  refine va_calli (va_runV (As := []) (rest := [.int 0]) ⟨hx, hb, hml, hown, hts⟩ (k_X10_sent l D b cZ2 cI2 st0 H3.size) (cwV 0 hts gL_areAlike_X10_sent rfl rfl rfl (by decide +kernel) ⟨Nat.le_of_ble_eq_true rfl, Nat.le_of_ble_eq_true rfl⟩) ⟨blW okN_P, va_recv hKp (twoP hP3) (ci := 10) (q0 := 0) rfl rfl, preW (twoP hP3) hKp (twoPD hD) okN_P hN⟩ rfl rfl hl0.1 rfl (lv_room (Nat.le_of_ble_eq_true rfl)) dL_areAlike_16 ⟨Nat.le_of_ble_eq_true rfl, Nat.le_of_ble_eq_true rfl⟩) hS3 (aA_in hAp) (aA_free hAp hA hS3) (fun r4 u4 t4 H4 L4 ht4 hvm4 hw4 hB4 hz4 hk4 hS4 => ?_)
  obtain ⟨hu4, hr4⟩ := hw4
  subst u4; subst r4
  have hP4 : va_P D vwCl (wP a cZ cI st0 ++ wP b cZ2 cI2 st0) H4 := backP hP3 hD rfl hk4 (by rw [← ht4]; exact hB4.1)
  have hn4 : s.heap.size + 0 ≤ H4.size := Nat.le_trans hn3 hz4
  clear ht4 hvm4 hB4 hz4 hk4
  refine lv_asi (y := 0) ev_sent ?_
  refine lv_icmp_ne (tgt := 158) hx hb dL_areAlike_19 (by decide) (fun c1 => absurd c1 (by decide)) (fun c1 => ?_)
  refine lv_aload_n hx hb dL_areAlike_22 rfl (lv_at hl0 0 rfl) ?_
  refine va_calli (va_runV (As := []) (rest := []) ⟨hx, hb, hml, hown, hts⟩ (k_X10_sender l D a cZ cI st0 H4.size) (cwV 0 hts gL_areAlike_X10_sender rfl rfl rfl (by decide +kernel) ⟨Nat.le_of_ble_eq_true rfl, Nat.le_of_ble_eq_true rfl⟩) ⟨blW okN_P, va_recv hKo (twoO hP4) (ci := 10) (q0 := 0) rfl rfl, preW (twoO hP4) hKo (twoOD hD) okN_P hN⟩ rfl rfl hl0.1 rfl (lv_room (Nat.le_of_ble_eq_true rfl)) dL_areAlike_23 ⟨Nat.le_of_ble_eq_true rfl, Nat.le_of_ble_eq_true rfl⟩) hS4 (aA_in hAo) (aA_free hAo hA hS4) (fun r5 u5 t5 H5 L5 ht5 hvm5 hw5 hB5 hz5 hk5 hS5 => ?_)
  obtain ⟨hu5, hr5⟩ := hw5
  subst u5; subst r5
  have hP5 : va_P D vwCl (wP a cZ cI st0 ++ wP b cZ2 cI2 st0) H5 := backO hP4 hD rfl hk5 (by rw [← ht5]; exact hB5.1)
  have hn5 : s.heap.size + 0 ≤ H5.size := Nat.le_trans hn4 hz5
  clear ht5 hvm5 hB5 hz5 hk5
  refine lv_asi (y := 0) ev_sender ?_
  refine lv_aload_n hx hb dL_areAlike_26 rfl (lv_at hl0 1 rfl) ?_
  refine va_calli (va_runV (As := []) (rest := [.int 0]) ⟨hx, hb, hml, hown, hts⟩ (k_X10_sender l D b cZ2 cI2 st0 H5.size) (cwV 0 hts gL_areAlike_X10_sender rfl rfl rfl (by decide +kernel) ⟨Nat.le_of_ble_eq_true rfl, Nat.le_of_ble_eq_true rfl⟩) ⟨blW okN_P, va_recv hKp (twoP hP5) (ci := 10) (q0 := 0) rfl rfl, preW (twoP hP5) hKp (twoPD hD) okN_P hN⟩ rfl rfl hl0.1 rfl (lv_room (Nat.le_of_ble_eq_true rfl)) dL_areAlike_27 ⟨Nat.le_of_ble_eq_true rfl, Nat.le_of_ble_eq_true rfl⟩) hS5 (aA_in hAp) (aA_free hAp hA hS5) (fun r6 u6 t6 H6 L6 ht6 hvm6 hw6 hB6 hz6 hk6 hS6 => ?_)
  obtain ⟨hu6, hr6⟩ := hw6
  subst u6; subst r6
  have hP6 : va_P D vwCl (wP a cZ cI st0 ++ wP b cZ2 cI2 st0) H6 := backP hP5 hD rfl hk6 (by rw [← ht6]; exact hB6.1)
  have hn6 : s.heap.size + 0 ≤ H6.size := Nat.le_trans hn5 hz6
  clear ht6 hvm6 hB6 hz6 hk6
  refine lv_asi (y := 0) ev_sender ?_
  refine lv_icmp_ne (tgt := 158) hx hb dL_areAlike_30 (by decide) (fun c1 => absurd c1 (by decide)) (fun c1 => ?_)
  refine lv_aload_n hx hb dL_areAlike_33 rfl (lv_at hl0 0 rfl) ?_
  refine va_calli (va_runV (As := []) (rest := []) ⟨hx, hb, hml, hown, hts⟩ (k_X10_receiver l D a cZ cI st0 H6.size) (cwV 0 hts gL_areAlike_X10_receiver rfl rfl rfl (by decide +kernel) ⟨Nat.le_of_ble_eq_true rfl, Nat.le_of_ble_eq_true rfl⟩) ⟨blW okN_P, va_recv hKo (twoO hP6) (ci := 10) (q0 := 0) rfl rfl, preW (twoO hP6) hKo (twoOD hD) okN_P hN⟩ rfl rfl hl0.1 rfl (lv_room (Nat.le_of_ble_eq_true rfl)) dL_areAlike_34 ⟨Nat.le_of_ble_eq_true rfl, Nat.le_of_ble_eq_true rfl⟩) hS6 (aA_in hAo) (aA_free hAo hA hS6) (fun r7 u7 t7 H7 L7 ht7 hvm7 hw7 hB7 hz7 hk7 hS7 => ?_)
  obtain ⟨hu7, hr7⟩ := hw7
  subst u7; subst r7
  have hP7 : va_P D vwCl (wP a cZ cI st0 ++ wP b cZ2 cI2 st0) H7 := backO hP6 hD rfl hk7 (by rw [← ht7]; exact hB7.1)
  have hn7 : s.heap.size + 0 ≤ H7.size := Nat.le_trans hn6 hz7
  clear ht7 hvm7 hB7 hz7 hk7
  refine lv_asi (y := 0) ev_receiver ?_
  refine lv_aload_n hx hb dL_areAlike_37 rfl (lv_at hl0 1 rfl) ?_
  refine va_calli (va_runV (As := []) (rest := [.int 0]) ⟨hx, hb, hml, hown, hts⟩ (k_X10_receiver l D b cZ2 cI2 st0 H7.size) (cwV 0 hts gL_areAlike_X10_receiver rfl rfl rfl (by decide +kernel) ⟨Nat.le_of_ble_eq_true rfl, Nat.le_of_ble_eq_true rfl⟩) ⟨blW okN_P, va_recv hKp (twoP hP7) (ci := 10) (q0 := 0) rfl rfl, preW (twoP hP7) hKp (twoPD hD) okN_P hN⟩ rfl rfl hl0.1 rfl (lv_room (Nat.le_of_ble_eq_true rfl)) dL_areAlike_38 ⟨Nat.le_of_ble_eq_true rfl, Nat.le_of_ble_eq_true rfl⟩) hS7 (aA_in hAp) (aA_free hAp hA hS7) (fun r8 u8 t8 H8 L8 ht8 hvm8 hw8 hB8 hz8 hk8 hS8 => ?_)
  obtain ⟨hu8, hr8⟩ := hw8
  subst u8; subst r8
  have hP8 : va_P D vwCl (wP a cZ cI st0 ++ wP b cZ2 cI2 st0) H8 := backP hP7 hD rfl hk8 (by rw [← ht8]; exact hB8.1)
  have hn8 : s.heap.size + 0 ≤ H8.size := Nat.le_trans hn7 hz8
  clear ht8 hvm8 hB8 hz8 hk8
  refine lv_asi (y := 0) ev_receiver ?_
  refine lv_icmp_ne (tgt := 158) hx hb dL_areAlike_41 (by decide) (fun c1 => absurd c1 (by decide)) (fun c1 => ?_)
  refine lv_aload_n hx hb dL_areAlike_44 rfl (lv_at hl0 0 rfl) ?_
  refine va_calli (va_runV (As := []) (rest := []) ⟨hx, hb, hml, hown, hts⟩ (k_X10_error l D a cZ cI st0 H8.size) (cwV 0 hts gL_areAlike_X10_error rfl rfl rfl (by decide +kernel) ⟨Nat.le_of_ble_eq_true rfl, Nat.le_of_ble_eq_true rfl⟩) ⟨blW okN_P, va_recv hKo (twoO hP8) (ci := 10) (q0 := 0) rfl rfl, preW (twoO hP8) hKo (twoOD hD) okN_P hN⟩ rfl rfl hl0.1 rfl (lv_room (Nat.le_of_ble_eq_true rfl)) dL_areAlike_45 ⟨Nat.le_of_ble_eq_true rfl, Nat.le_of_ble_eq_true rfl⟩) hS8 (aA_in hAo) (aA_free hAo hA hS8) (fun r9 u9 t9 H9 L9 ht9 hvm9 hw9 hB9 hz9 hk9 hS9 => ?_)
  obtain ⟨hu9, hr9⟩ := hw9
  subst u9; subst r9
  have hP9 : va_P D vwCl (wP a cZ cI st0 ++ wP b cZ2 cI2 st0) H9 := backO hP8 hD rfl hk9 (by rw [← ht9]; exact hB9.1)
  have hn9 : s.heap.size + 0 ≤ H9.size := Nat.le_trans hn8 hz9
  clear ht9 hvm9 hB9 hz9 hk9
  refine lv_asi (y := 0) ev_error ?_
  refine lv_aload_n hx hb dL_areAlike_48 rfl (lv_at hl0 1 rfl) ?_
  refine va_calli (va_runV (As := []) (rest := [.int 0]) ⟨hx, hb, hml, hown, hts⟩ (k_X10_error l D b cZ2 cI2 st0 H9.size) (cwV 0 hts gL_areAlike_X10_error rfl rfl rfl (by decide +kernel) ⟨Nat.le_of_ble_eq_true rfl, Nat.le_of_ble_eq_true rfl⟩) ⟨blW okN_P, va_recv hKp (twoP hP9) (ci := 10) (q0 := 0) rfl rfl, preW (twoP hP9) hKp (twoPD hD) okN_P hN⟩ rfl rfl hl0.1 rfl (lv_room (Nat.le_of_ble_eq_true rfl)) dL_areAlike_49 ⟨Nat.le_of_ble_eq_true rfl, Nat.le_of_ble_eq_true rfl⟩) hS9 (aA_in hAp) (aA_free hAp hA hS9) (fun r10 u10 t10 H10 L10 ht10 hvm10 hw10 hB10 hz10 hk10 hS10 => ?_)
  obtain ⟨hu10, hr10⟩ := hw10
  subst u10; subst r10
  have hP10 : va_P D vwCl (wP a cZ cI st0 ++ wP b cZ2 cI2 st0) H10 := backP hP9 hD rfl hk10 (by rw [← ht10]; exact hB10.1)
  have hn10 : s.heap.size + 0 ≤ H10.size := Nat.le_trans hn9 hz10
  clear ht10 hvm10 hB10 hz10 hk10
  refine lv_asi (y := 0) ev_error ?_
  refine lv_icmp_ne (tgt := 158) hx hb dL_areAlike_52 (by decide) (fun c1 => absurd c1 (by decide)) (fun c1 => ?_)
  refine lv_aload_n hx hb dL_areAlike_55 rfl (lv_at hl0 0 rfl) ?_
  refine va_calli (va_runV (As := []) (rest := []) ⟨hx, hb, hml, hown, hts⟩ (k_X10_integral l D a cZ cI st0 H10.size) (cwV 0 hts gL_areAlike_X10_integral rfl rfl rfl (by decide +kernel) ⟨Nat.le_of_ble_eq_true rfl, Nat.le_of_ble_eq_true rfl⟩) ⟨blW okN_P, va_recv hKo (twoO hP10) (ci := 10) (q0 := 0) rfl rfl, preW (twoO hP10) hKo (twoOD hD) okN_P hN⟩ rfl rfl hl0.1 rfl (lv_room (Nat.le_of_ble_eq_true rfl)) dL_areAlike_56 ⟨Nat.le_of_ble_eq_true rfl, Nat.le_of_ble_eq_true rfl⟩) hS10 (aA_in hAo) (aA_free hAo hA hS10) (fun r11 u11 t11 H11 L11 ht11 hvm11 hw11 hB11 hz11 hk11 hS11 => ?_)
  obtain ⟨hu11, hr11⟩ := hw11
  subst u11; subst r11
  have hP11 : va_P D vwCl (wP a cZ cI st0 ++ wP b cZ2 cI2 st0) H11 := backO hP10 hD rfl hk11 (by rw [← ht11]; exact hB11.1)
  have hn11 : s.heap.size + 0 ≤ H11.size := Nat.le_trans hn10 hz11
  clear ht11 hvm11 hB11 hz11 hk11
  refine lv_asi (y := 0) ev_integral ?_
  refine lv_aload_n hx hb dL_areAlike_59 rfl (lv_at hl0 1 rfl) ?_
  refine va_calli (va_runV (As := []) (rest := [.int 0]) ⟨hx, hb, hml, hown, hts⟩ (k_X10_integral l D b cZ2 cI2 st0 H11.size) (cwV 0 hts gL_areAlike_X10_integral rfl rfl rfl (by decide +kernel) ⟨Nat.le_of_ble_eq_true rfl, Nat.le_of_ble_eq_true rfl⟩) ⟨blW okN_P, va_recv hKp (twoP hP11) (ci := 10) (q0 := 0) rfl rfl, preW (twoP hP11) hKp (twoPD hD) okN_P hN⟩ rfl rfl hl0.1 rfl (lv_room (Nat.le_of_ble_eq_true rfl)) dL_areAlike_60 ⟨Nat.le_of_ble_eq_true rfl, Nat.le_of_ble_eq_true rfl⟩) hS11 (aA_in hAp) (aA_free hAp hA hS11) (fun r12 u12 t12 H12 L12 ht12 hvm12 hw12 hB12 hz12 hk12 hS12 => ?_)
  obtain ⟨hu12, hr12⟩ := hw12
  subst u12; subst r12
  have hP12 : va_P D vwCl (wP a cZ cI st0 ++ wP b cZ2 cI2 st0) H12 := backP hP11 hD rfl hk12 (by rw [← ht12]; exact hB12.1)
  have hn12 : s.heap.size + 0 ≤ H12.size := Nat.le_trans hn11 hz12
  clear ht12 hvm12 hB12 hz12 hk12
  refine lv_asi (y := 0) ev_integral ?_
  refine lv_icmp_ne (tgt := 158) hx hb dL_areAlike_63 (by decide) (fun c1 => absurd c1 (by decide)) (fun c1 => ?_)
  refine lv_aload_n hx hb dL_areAlike_66 rfl (lv_at hl0 0 rfl) ?_
  refine va_calli (va_runV (As := []) (rest := []) ⟨hx, hb, hml, hown, hts⟩ (k_X10_control l D a cZ cI st0 H12.size) (cwV 0 hts gL_areAlike_X10_control rfl rfl rfl (by decide +kernel) ⟨Nat.le_of_ble_eq_true rfl, Nat.le_of_ble_eq_true rfl⟩) ⟨blW okN_P, va_recv hKo (twoO hP12) (ci := 10) (q0 := 0) rfl rfl, preW (twoO hP12) hKo (twoOD hD) okN_P hN⟩ rfl rfl hl0.1 rfl (lv_room (Nat.le_of_ble_eq_true rfl)) dL_areAlike_67 ⟨Nat.le_of_ble_eq_true rfl, Nat.le_of_ble_eq_true rfl⟩) hS12 (aA_in hAo) (aA_free hAo hA hS12) (fun r13 u13 t13 H13 L13 ht13 hvm13 hw13 hB13 hz13 hk13 hS13 => ?_)
  obtain ⟨hu13, hr13⟩ := hw13
  subst u13; subst r13
  have hP13 : va_P D vwCl (wP a cZ cI st0 ++ wP b cZ2 cI2 st0) H13 := backO hP12 hD rfl hk13 (by rw [← ht13]; exact hB13.1)
  have hn13 : s.heap.size + 0 ≤ H13.size := Nat.le_trans hn12 hz13
  clear ht13 hvm13 hB13 hz13 hk13
  refine lv_asi (y := 0) ev_control ?_
  refine lv_aload_n hx hb dL_areAlike_70 rfl (lv_at hl0 1 rfl) ?_
  refine va_calli (va_runV (As := []) (rest := [.int 0]) ⟨hx, hb, hml, hown, hts⟩ (k_X10_control l D b cZ2 cI2 st0 H13.size) (cwV 0 hts gL_areAlike_X10_control rfl rfl rfl (by decide +kernel) ⟨Nat.le_of_ble_eq_true rfl, Nat.le_of_ble_eq_true rfl⟩) ⟨blW okN_P, va_recv hKp (twoP hP13) (ci := 10) (q0 := 0) rfl rfl, preW (twoP hP13) hKp (twoPD hD) okN_P hN⟩ rfl rfl hl0.1 rfl (lv_room (Nat.le_of_ble_eq_true rfl)) dL_areAlike_71 ⟨Nat.le_of_ble_eq_true rfl, Nat.le_of_ble_eq_true rfl⟩) hS13 (aA_in hAp) (aA_free hAp hA hS13) (fun r14 u14 t14 H14 L14 ht14 hvm14 hw14 hB14 hz14 hk14 hS14 => ?_)
  obtain ⟨hu14, hr14⟩ := hw14
  subst u14; subst r14
  have hP14 : va_P D vwCl (wP a cZ cI st0 ++ wP b cZ2 cI2 st0) H14 := backP hP13 hD rfl hk14 (by rw [← ht14]; exact hB14.1)
  have hn14 : s.heap.size + 0 ≤ H14.size := Nat.le_trans hn13 hz14
  clear ht14 hvm14 hB14 hz14 hk14
  refine lv_asi (y := 0) ev_control ?_
  refine lv_icmp_ne (tgt := 158) hx hb dL_areAlike_74 (by decide) (fun c1 => absurd c1 (by decide)) (fun c1 => ?_)
  refine lv_aload_n hx hb dL_areAlike_77 rfl (lv_at hl0 0 rfl) ?_
  refine va_calli (va_runV (As := []) (rest := []) ⟨hx, hb, hml, hown, hts⟩ (k_X10_received l D a cZ cI st0 H14.size) (cwV 0 hts gL_areAlike_X10_received rfl rfl rfl (by decide +kernel) ⟨Nat.le_of_ble_eq_true rfl, Nat.le_of_ble_eq_true rfl⟩) ⟨blW okN_P, va_recv hKo (twoO hP14) (ci := 10) (q0 := 0) rfl rfl, preW (twoO hP14) hKo (twoOD hD) okN_P hN⟩ rfl rfl hl0.1 rfl (lv_room (Nat.le_of_ble_eq_true rfl)) dL_areAlike_78 ⟨Nat.le_of_ble_eq_true rfl, Nat.le_of_ble_eq_true rfl⟩) hS14 (aA_in hAo) (aA_free hAo hA hS14) (fun r15 u15 t15 H15 L15 ht15 hvm15 hw15 hB15 hz15 hk15 hS15 => ?_)
  obtain ⟨hu15, hr15⟩ := hw15
  subst u15; subst r15
  have hP15 : va_P D vwCl (wP a cZ cI st0 ++ wP b cZ2 cI2 st0) H15 := backO hP14 hD rfl hk15 (by rw [← ht15]; exact hB15.1)
  have hn15 : s.heap.size + 0 ≤ H15.size := Nat.le_trans hn14 hz15
  clear ht15 hvm15 hB15 hz15 hk15
  refine lv_asi (y := 0) ev_received ?_
  refine lv_aload_n hx hb dL_areAlike_81 rfl (lv_at hl0 1 rfl) ?_
  refine va_calli (va_runV (As := []) (rest := [.int 0]) ⟨hx, hb, hml, hown, hts⟩ (k_X10_received l D b cZ2 cI2 st0 H15.size) (cwV 0 hts gL_areAlike_X10_received rfl rfl rfl (by decide +kernel) ⟨Nat.le_of_ble_eq_true rfl, Nat.le_of_ble_eq_true rfl⟩) ⟨blW okN_P, va_recv hKp (twoP hP15) (ci := 10) (q0 := 0) rfl rfl, preW (twoP hP15) hKp (twoPD hD) okN_P hN⟩ rfl rfl hl0.1 rfl (lv_room (Nat.le_of_ble_eq_true rfl)) dL_areAlike_82 ⟨Nat.le_of_ble_eq_true rfl, Nat.le_of_ble_eq_true rfl⟩) hS15 (aA_in hAp) (aA_free hAp hA hS15) (fun r16 u16 t16 H16 L16 ht16 hvm16 hw16 hB16 hz16 hk16 hS16 => ?_)
  obtain ⟨hu16, hr16⟩ := hw16
  subst u16; subst r16
  have hP16 : va_P D vwCl (wP a cZ cI st0 ++ wP b cZ2 cI2 st0) H16 := backP hP15 hD rfl hk16 (by rw [← ht16]; exact hB16.1)
  have hn16 : s.heap.size + 0 ≤ H16.size := Nat.le_trans hn15 hz16
  clear ht16 hvm16 hB16 hz16 hk16
  refine lv_asi (y := 0) ev_received ?_
  refine lv_icmp_ne (tgt := 158) hx hb dL_areAlike_85 (by decide) (fun c1 => absurd c1 (by decide)) (fun c1 => ?_)
  refine lv_aload_n hx hb dL_areAlike_88 rfl (lv_at hl0 0 rfl) ?_
  refine va_calli (va_runV (As := []) (rest := []) ⟨hx, hb, hml, hown, hts⟩ (k_X10_repeated l D a cZ cI st0 H16.size) (cwV 0 hts gL_areAlike_X10_repeated rfl rfl rfl (by decide +kernel) ⟨Nat.le_of_ble_eq_true rfl, Nat.le_of_ble_eq_true rfl⟩) ⟨blW okN_P, va_recv hKo (twoO hP16) (ci := 10) (q0 := 0) rfl rfl, preW (twoO hP16) hKo (twoOD hD) okN_P hN⟩ rfl rfl hl0.1 rfl (lv_room (Nat.le_of_ble_eq_true rfl)) dL_areAlike_89 ⟨Nat.le_of_ble_eq_true rfl, Nat.le_of_ble_eq_true rfl⟩) hS16 (aA_in hAo) (aA_free hAo hA hS16) (fun r17 u17 t17 H17 L17 ht17 hvm17 hw17 hB17 hz17 hk17 hS17 => ?_)
  obtain ⟨hu17, hr17⟩ := hw17
  subst u17; subst r17
  have hP17 : va_P D vwCl (wP a cZ cI st0 ++ wP b cZ2 cI2 st0) H17 := backO hP16 hD rfl hk17 (by rw [← ht17]; exact hB17.1)
  have hn17 : s.heap.size + 0 ≤ H17.size := Nat.le_trans hn16 hz17
  clear ht17 hvm17 hB17 hz17 hk17
  refine lv_asi (y := 0) ev_repeated ?_
  refine lv_aload_n hx hb dL_areAlike_92 rfl (lv_at hl0 1 rfl) ?_
  refine va_calli (va_runV (As := []) (rest := [.int 0]) ⟨hx, hb, hml, hown, hts⟩ (k_X10_repeated l D b cZ2 cI2 st0 H17.size) (cwV 0 hts gL_areAlike_X10_repeated rfl rfl rfl (by decide +kernel) ⟨Nat.le_of_ble_eq_true rfl, Nat.le_of_ble_eq_true rfl⟩) ⟨blW okN_P, va_recv hKp (twoP hP17) (ci := 10) (q0 := 0) rfl rfl, preW (twoP hP17) hKp (twoPD hD) okN_P hN⟩ rfl rfl hl0.1 rfl (lv_room (Nat.le_of_ble_eq_true rfl)) dL_areAlike_93 ⟨Nat.le_of_ble_eq_true rfl, Nat.le_of_ble_eq_true rfl⟩) hS17 (aA_in hAp) (aA_free hAp hA hS17) (fun r18 u18 t18 H18 L18 ht18 hvm18 hw18 hB18 hz18 hk18 hS18 => ?_)
  obtain ⟨hu18, hr18⟩ := hw18
  subst u18; subst r18
  have hP18 : va_P D vwCl (wP a cZ cI st0 ++ wP b cZ2 cI2 st0) H18 := backP hP17 hD rfl hk18 (by rw [← ht18]; exact hB18.1)
  have hn18 : s.heap.size + 0 ≤ H18.size := Nat.le_trans hn17 hz18
  clear ht18 hvm18 hB18 hz18 hk18
  refine lv_asi (y := 0) ev_repeated ?_
  refine lv_icmp_ne (tgt := 158) hx hb dL_areAlike_96 (by decide) (fun c1 => absurd c1 (by decide)) (fun c1 => ?_)
  refine lv_aload_n hx hb dL_areAlike_99 rfl (lv_at hl0 0 rfl) ?_
  refine va_calli (va_runV (As := []) (rest := []) ⟨hx, hb, hml, hown, hts⟩ (k_X10_skipped l D a cZ cI st0 H18.size) (cwV 0 hts gL_areAlike_X10_skipped rfl rfl rfl (by decide +kernel) ⟨Nat.le_of_ble_eq_true rfl, Nat.le_of_ble_eq_true rfl⟩) ⟨blW okN_P, va_recv hKo (twoO hP18) (ci := 10) (q0 := 0) rfl rfl, preW (twoO hP18) hKo (twoOD hD) okN_P hN⟩ rfl rfl hl0.1 rfl (lv_room (Nat.le_of_ble_eq_true rfl)) dL_areAlike_100 ⟨Nat.le_of_ble_eq_true rfl, Nat.le_of_ble_eq_true rfl⟩) hS18 (aA_in hAo) (aA_free hAo hA hS18) (fun r19 u19 t19 H19 L19 ht19 hvm19 hw19 hB19 hz19 hk19 hS19 => ?_)
  obtain ⟨hu19, hr19⟩ := hw19
  subst u19; subst r19
  have hP19 : va_P D vwCl (wP a cZ cI st0 ++ wP b cZ2 cI2 st0) H19 := backO hP18 hD rfl hk19 (by rw [← ht19]; exact hB19.1)
  have hn19 : s.heap.size + 0 ≤ H19.size := Nat.le_trans hn18 hz19
  clear ht19 hvm19 hB19 hz19 hk19
  refine lv_asi (y := 0) ev_skipped ?_
  refine lv_aload_n hx hb dL_areAlike_103 rfl (lv_at hl0 1 rfl) ?_
  refine va_calli (va_runV (As := []) (rest := [.int 0]) ⟨hx, hb, hml, hown, hts⟩ (k_X10_skipped l D b cZ2 cI2 st0 H19.size) (cwV 0 hts gL_areAlike_X10_skipped rfl rfl rfl (by decide +kernel) ⟨Nat.le_of_ble_eq_true rfl, Nat.le_of_ble_eq_true rfl⟩) ⟨blW okN_P, va_recv hKp (twoP hP19) (ci := 10) (q0 := 0) rfl rfl, preW (twoP hP19) hKp (twoPD hD) okN_P hN⟩ rfl rfl hl0.1 rfl (lv_room (Nat.le_of_ble_eq_true rfl)) dL_areAlike_104 ⟨Nat.le_of_ble_eq_true rfl, Nat.le_of_ble_eq_true rfl⟩) hS19 (aA_in hAp) (aA_free hAp hA hS19) (fun r20 u20 t20 H20 L20 ht20 hvm20 hw20 hB20 hz20 hk20 hS20 => ?_)
  obtain ⟨hu20, hr20⟩ := hw20
  subst u20; subst r20
  have hP20 : va_P D vwCl (wP a cZ cI st0 ++ wP b cZ2 cI2 st0) H20 := backP hP19 hD rfl hk20 (by rw [← ht20]; exact hB20.1)
  have hn20 : s.heap.size + 0 ≤ H20.size := Nat.le_trans hn19 hz20
  clear ht20 hvm20 hB20 hz20 hk20
  refine lv_asi (y := 0) ev_skipped ?_
  refine lv_icmp_ne (tgt := 158) hx hb dL_areAlike_107 (by decide) (fun c1 => absurd c1 (by decide)) (fun c1 => ?_)
  refine lv_aload_n hx hb dL_areAlike_110 rfl (lv_at hl0 0 rfl) ?_
  refine va_calli (va_runV (As := []) (rest := []) ⟨hx, hb, hml, hown, hts⟩ (k_X10_wander l D a cZ cI st0 H20.size) (cwV 0 hts gL_areAlike_X10_wander rfl rfl rfl (by decide +kernel) ⟨Nat.le_of_ble_eq_true rfl, Nat.le_of_ble_eq_true rfl⟩) ⟨blW okN_P, va_recv hKo (twoO hP20) (ci := 10) (q0 := 0) rfl rfl, preW (twoO hP20) hKo (twoOD hD) okN_P hN⟩ rfl rfl hl0.1 rfl (lv_room (Nat.le_of_ble_eq_true rfl)) dL_areAlike_111 ⟨Nat.le_of_ble_eq_true rfl, Nat.le_of_ble_eq_true rfl⟩) hS20 (aA_in hAo) (aA_free hAo hA hS20) (fun r21 u21 t21 H21 L21 ht21 hvm21 hw21 hB21 hz21 hk21 hS21 => ?_)
  obtain ⟨hu21, hr21⟩ := hw21
  subst u21; subst r21
  have hP21 : va_P D vwCl (wP a cZ cI st0 ++ wP b cZ2 cI2 st0) H21 := backO hP20 hD rfl hk21 (by rw [← ht21]; exact hB21.1)
  have hn21 : s.heap.size + 0 ≤ H21.size := Nat.le_trans hn20 hz21
  clear ht21 hvm21 hB21 hz21 hk21
  refine lv_asi (y := 0) ev_wander ?_
  refine lv_aload_n hx hb dL_areAlike_114 rfl (lv_at hl0 1 rfl) ?_
  refine va_calli (va_runV (As := []) (rest := [.int 0]) ⟨hx, hb, hml, hown, hts⟩ (k_X10_wander l D b cZ2 cI2 st0 H21.size) (cwV 0 hts gL_areAlike_X10_wander rfl rfl rfl (by decide +kernel) ⟨Nat.le_of_ble_eq_true rfl, Nat.le_of_ble_eq_true rfl⟩) ⟨blW okN_P, va_recv hKp (twoP hP21) (ci := 10) (q0 := 0) rfl rfl, preW (twoP hP21) hKp (twoPD hD) okN_P hN⟩ rfl rfl hl0.1 rfl (lv_room (Nat.le_of_ble_eq_true rfl)) dL_areAlike_115 ⟨Nat.le_of_ble_eq_true rfl, Nat.le_of_ble_eq_true rfl⟩) hS21 (aA_in hAp) (aA_free hAp hA hS21) (fun r22 u22 t22 H22 L22 ht22 hvm22 hw22 hB22 hz22 hk22 hS22 => ?_)
  obtain ⟨hu22, hr22⟩ := hw22
  subst u22; subst r22
  have hP22 : va_P D vwCl (wP a cZ cI st0 ++ wP b cZ2 cI2 st0) H22 := backP hP21 hD rfl hk22 (by rw [← ht22]; exact hB22.1)
  have hn22 : s.heap.size + 0 ≤ H22.size := Nat.le_trans hn21 hz22
  clear ht22 hvm22 hB22 hz22 hk22
  refine lv_asi (y := 0) ev_wander ?_
  refine lv_icmp_ne (tgt := 158) hx hb dL_areAlike_118 (by decide) (fun c1 => absurd c1 (by decide)) (fun c1 => ?_)
  refine lv_aload_n hx hb dL_areAlike_121 rfl (lv_at hl0 0 rfl) ?_
  refine va_calli (va_runV (As := []) (rest := []) ⟨hx, hb, hml, hown, hts⟩ (k_X10_alignment l D a cZ cI st0 H22.size) (cwV 0 hts gL_areAlike_X10_alignment rfl rfl rfl (by decide +kernel) ⟨Nat.le_of_ble_eq_true rfl, Nat.le_of_ble_eq_true rfl⟩) ⟨blW okN_P, va_recv hKo (twoO hP22) (ci := 10) (q0 := 0) rfl rfl, preW (twoO hP22) hKo (twoOD hD) okN_P hN⟩ rfl rfl hl0.1 rfl (lv_room (Nat.le_of_ble_eq_true rfl)) dL_areAlike_122 ⟨Nat.le_of_ble_eq_true rfl, Nat.le_of_ble_eq_true rfl⟩) hS22 (aA_in hAo) (aA_free hAo hA hS22) (fun r23 u23 t23 H23 L23 ht23 hvm23 hw23 hB23 hz23 hk23 hS23 => ?_)
  obtain ⟨hu23, hr23⟩ := hw23
  subst u23; subst r23
  have hP23 : va_P D vwCl (wP a cZ cI st0 ++ wP b cZ2 cI2 st0) H23 := backO hP22 hD rfl hk23 (by rw [← ht23]; exact hB23.1)
  have hn23 : s.heap.size + 0 ≤ H23.size := Nat.le_trans hn22 hz23
  clear ht23 hvm23 hB23 hz23 hk23
  refine lv_asi (y := 0) ev_alignment ?_
  refine lv_aload_n hx hb dL_areAlike_125 rfl (lv_at hl0 1 rfl) ?_
  refine va_calli (va_runV (As := []) (rest := [.int 0]) ⟨hx, hb, hml, hown, hts⟩ (k_X10_alignment l D b cZ2 cI2 st0 H23.size) (cwV 0 hts gL_areAlike_X10_alignment rfl rfl rfl (by decide +kernel) ⟨Nat.le_of_ble_eq_true rfl, Nat.le_of_ble_eq_true rfl⟩) ⟨blW okN_P, va_recv hKp (twoP hP23) (ci := 10) (q0 := 0) rfl rfl, preW (twoP hP23) hKp (twoPD hD) okN_P hN⟩ rfl rfl hl0.1 rfl (lv_room (Nat.le_of_ble_eq_true rfl)) dL_areAlike_126 ⟨Nat.le_of_ble_eq_true rfl, Nat.le_of_ble_eq_true rfl⟩) hS23 (aA_in hAp) (aA_free hAp hA hS23) (fun r24 u24 t24 H24 L24 ht24 hvm24 hw24 hB24 hz24 hk24 hS24 => ?_)
  obtain ⟨hu24, hr24⟩ := hw24
  subst u24; subst r24
  have hP24 : va_P D vwCl (wP a cZ cI st0 ++ wP b cZ2 cI2 st0) H24 := backP hP23 hD rfl hk24 (by rw [← ht24]; exact hB24.1)
  have hn24 : s.heap.size + 0 ≤ H24.size := Nat.le_trans hn23 hz24
  clear ht24 hvm24 hB24 hz24 hk24
  refine lv_asi (y := 0) ev_alignment ?_
  refine lv_icmp_ne (tgt := 158) hx hb dL_areAlike_129 (by decide) (fun c1 => absurd c1 (by decide)) (fun c1 => ?_)
  refine lv_aload_n hx hb dL_areAlike_132 rfl (lv_at hl0 0 rfl) ?_
  refine va_calli (va_runV (As := []) (rest := []) ⟨hx, hb, hml, hown, hts⟩ (k_X10_frames l D a cZ cI st0 H24.size) (cwV 0 hts gL_areAlike_X10_frames rfl rfl rfl (by decide +kernel) ⟨Nat.le_of_ble_eq_true rfl, Nat.le_of_ble_eq_true rfl⟩) ⟨blW okN_P, va_recv hKo (twoO hP24) (ci := 10) (q0 := 0) rfl rfl, preW (twoO hP24) hKo (twoOD hD) okN_P hN⟩ rfl rfl hl0.1 rfl (lv_room (Nat.le_of_ble_eq_true rfl)) dL_areAlike_133 ⟨Nat.le_of_ble_eq_true rfl, Nat.le_of_ble_eq_true rfl⟩) hS24 (aA_in hAo) (aA_free hAo hA hS24) (fun r25 u25 t25 H25 L25 ht25 hvm25 hw25 hB25 hz25 hk25 hS25 => ?_)
  obtain ⟨hu25, hr25⟩ := hw25
  subst u25; subst r25
  have hP25 : va_P D vwCl (wP a cZ cI st0 ++ wP b cZ2 cI2 st0) H25 := backO hP24 hD rfl hk25 (by rw [← ht25]; exact hB25.1)
  have hn25 : s.heap.size + 0 ≤ H25.size := Nat.le_trans hn24 hz25
  clear ht25 hvm25 hB25 hz25 hk25
  refine lv_asi (y := 0) ev_frames ?_
  refine lv_aload_n hx hb dL_areAlike_136 rfl (lv_at hl0 1 rfl) ?_
  refine va_calli (va_runV (As := []) (rest := [.int 0]) ⟨hx, hb, hml, hown, hts⟩ (k_X10_frames l D b cZ2 cI2 st0 H25.size) (cwV 0 hts gL_areAlike_X10_frames rfl rfl rfl (by decide +kernel) ⟨Nat.le_of_ble_eq_true rfl, Nat.le_of_ble_eq_true rfl⟩) ⟨blW okN_P, va_recv hKp (twoP hP25) (ci := 10) (q0 := 0) rfl rfl, preW (twoP hP25) hKp (twoPD hD) okN_P hN⟩ rfl rfl hl0.1 rfl (lv_room (Nat.le_of_ble_eq_true rfl)) dL_areAlike_137 ⟨Nat.le_of_ble_eq_true rfl, Nat.le_of_ble_eq_true rfl⟩) hS25 (aA_in hAp) (aA_free hAp hA hS25) (fun r26 u26 t26 H26 L26 ht26 hvm26 hw26 hB26 hz26 hk26 hS26 => ?_)
  obtain ⟨hu26, hr26⟩ := hw26
  subst u26; subst r26
  have hP26 : va_P D vwCl (wP a cZ cI st0 ++ wP b cZ2 cI2 st0) H26 := backP hP25 hD rfl hk26 (by rw [← ht26]; exact hB26.1)
  have hn26 : s.heap.size + 0 ≤ H26.size := Nat.le_trans hn25 hz26
  clear ht26 hvm26 hB26 hz26 hk26
  refine lv_asi (y := 0) ev_frames ?_
  refine lv_icmp_ne (tgt := 158) hx hb dL_areAlike_140 (by decide) (fun c1 => absurd c1 (by decide)) (fun c1 => ?_)
  refine lv_aload_n hx hb dL_areAlike_143 rfl (lv_at hl0 0 rfl) ?_
  refine va_calli (va_runV (As := []) (rest := []) ⟨hx, hb, hml, hown, hts⟩ (k_X10_losses l D a cZ cI st0 H26.size) (cwV 0 hts gL_areAlike_X10_losses rfl rfl rfl (by decide +kernel) ⟨Nat.le_of_ble_eq_true rfl, Nat.le_of_ble_eq_true rfl⟩) ⟨blW okN_P, va_recv hKo (twoO hP26) (ci := 10) (q0 := 0) rfl rfl, preW (twoO hP26) hKo (twoOD hD) okN_P hN⟩ rfl rfl hl0.1 rfl (lv_room (Nat.le_of_ble_eq_true rfl)) dL_areAlike_144 ⟨Nat.le_of_ble_eq_true rfl, Nat.le_of_ble_eq_true rfl⟩) hS26 (aA_in hAo) (aA_free hAo hA hS26) (fun r27 u27 t27 H27 L27 ht27 hvm27 hw27 hB27 hz27 hk27 hS27 => ?_)
  obtain ⟨hu27, hr27⟩ := hw27
  subst u27; subst r27
  have hP27 : va_P D vwCl (wP a cZ cI st0 ++ wP b cZ2 cI2 st0) H27 := backO hP26 hD rfl hk27 (by rw [← ht27]; exact hB27.1)
  have hn27 : s.heap.size + 0 ≤ H27.size := Nat.le_trans hn26 hz27
  clear ht27 hvm27 hB27 hz27 hk27
  refine lv_asi (y := 0) ev_losses ?_
  refine lv_aload_n hx hb dL_areAlike_147 rfl (lv_at hl0 1 rfl) ?_
  refine va_calli (va_runV (As := []) (rest := [.int 0]) ⟨hx, hb, hml, hown, hts⟩ (k_X10_losses l D b cZ2 cI2 st0 H27.size) (cwV 0 hts gL_areAlike_X10_losses rfl rfl rfl (by decide +kernel) ⟨Nat.le_of_ble_eq_true rfl, Nat.le_of_ble_eq_true rfl⟩) ⟨blW okN_P, va_recv hKp (twoP hP27) (ci := 10) (q0 := 0) rfl rfl, preW (twoP hP27) hKp (twoPD hD) okN_P hN⟩ rfl rfl hl0.1 rfl (lv_room (Nat.le_of_ble_eq_true rfl)) dL_areAlike_148 ⟨Nat.le_of_ble_eq_true rfl, Nat.le_of_ble_eq_true rfl⟩) hS27 (aA_in hAp) (aA_free hAp hA hS27) (fun r28 u28 t28 H28 L28 ht28 hvm28 hw28 hB28 hz28 hk28 hS28 => ?_)
  obtain ⟨hu28, hr28⟩ := hw28
  subst u28; subst r28
  have hP28 : va_P D vwCl (wP a cZ cI st0 ++ wP b cZ2 cI2 st0) H28 := backP hP27 hD rfl hk28 (by rw [← ht28]; exact hB28.1)
  have hn28 : s.heap.size + 0 ≤ H28.size := Nat.le_trans hn27 hz28
  clear ht28 hvm28 hB28 hz28 hk28
  refine lv_asi (y := 0) ev_losses ?_
  refine lv_icmp_ne (tgt := 158) hx hb dL_areAlike_151 (by decide) (fun c1 => absurd c1 (by decide)) (fun c1 => ?_)
  refine lv_iconst (v := 1) hx hb dL_areAlike_154 (by decide) ?_
  refine lv_goto (tgt := 159) hx hb dL_areAlike_155 (by decide) ?_
  refine lv_istore_n (lv' := [(2, .int 1), (0, .ref (a 0)), (1, .ref (b 0))]) hx hb dL_areAlike_159 rfl hl0 (by decide) rfl (fun ls1 hl1 => ?_)
  refine lv_iconst (v := 1) hx hb dL_areAlike_160 (by decide) ?_
  refine lv_istore_n (lv' := [(3, .int 1), (2, .int 1), (0, .ref (a 0)), (1, .ref (b 0))]) hx hb dL_areAlike_161 rfl hl1 (by decide) rfl (fun ls2 hl2 => ?_)
  have LOOP : ∀ (fu i : Nat), i ≤ 32 → 32 < i + fu → ∀ (H29 : Heap) (L29 : List Loc), va_P D vwCl (wP a cZ cI st0 ++ wP b cZ2 cI2 st0) H29 → va_S A s.heap H29 L29 → s.heap.size + (2 * i) ≤ H29.size → ∀ ls3 : Array Slot, lv_has ls3 4 [(3, .int (nI (i + 1))), (2, .int 1), (0, .ref (a 0)), (1, .ref (b 0))] → W p l e (headSpec wsL_areAlike rm_L_areAlike).room s m ([.ref (a 0), .ref (b 0)] : List Value).toArray below meth c H29 L29 (2 * i) (12 * i) Q (F0 m 162 ls3 []) := by
    clear hP28 hS28 hn28 hl2
    intro fu
    induction fu with
    | zero => exact fun i h1 h2 => absurd h2 (by omega)
    | succ fu ih =>
      intro i hi hin H29 L29 hP29 hS29 hn29 ls3 hl3
      refine lv_iload_n hx hb dL_areAlike_162 rfl (lv_at hl3 0 rfl) ?_
      refine lv_bipush (v := 33) hx hb dL_areAlike_163 (by decide) ?_
      refine lv_icmp_ge (tgt := 197) hx hb dL_areAlike_165 (by decide) (fun c1 => ?_) (fun c1 => ?_)
      · have hie : i = 32 := by
          have := (nI_leI (a := 33) (b := i + 1) (by omega) (by omega)).mp c1
          omega
        subst hie
        have hn29 : s.heap.size + 64 ≤ H29.size := hn29
        refine W.widen (k := 64) (n := 384) (by decide) (by decide) ?_
        refine lv_iload_n hx hb dL_areAlike_197 rfl (lv_at hl3 1 rfl) ?_
        refine lv_if_eq (tgt := 229) hx hb dL_areAlike_198 (by decide) (fun c1 => absurd c1 (by decide)) (fun c1 => ?_)
        refine lv_aload_n hx hb dL_areAlike_201 rfl (lv_at hl3 2 rfl) ?_
        refine lv_iconst (v := 3) hx hb dL_areAlike_202 (by decide) ?_
        refine vx_calli (vx_runV (As := [.int 3]) (rest := []) ⟨hx, hb, hml, hown, hts⟩ (k_X10_cost l hfl D a cZ cI st0 H29.size 3) (cwV 1 hts gL_areAlike_X10_cost rfl rfl rfl (by decide +kernel) ⟨Nat.le_of_ble_eq_true rfl, Nat.le_of_ble_eq_true rfl⟩) ⟨blY, va_recv hKo (twoO hP29) (ci := 10) (q0 := 0) rfl rfl, preY (twoO hP29) hKo (twoOD hD) hNY hZ hS29 (aA_free hAo hA hS29)⟩ rfl rfl hl3.1 rfl (lv_room (Nat.le_of_ble_eq_true rfl)) dL_areAlike_203 ⟨Nat.le_of_ble_eq_true rfl, Nat.le_of_ble_eq_true rfl⟩) hS29 (aA_in hAo) (aA_free hAo hA hS29) (aA_in hAo) (fun E ce q9 u t H L ht hvm hw hB hz hk hS hce hcv hcl => absurd ((xcost0 (i := 3) (by decide)).symm.trans hw.2) (by decide)) (fun r30 u30 t30 H30 L30 ht30 hvm30 hw30 hB30 hz30 hk30 hS30 => ?_)
        obtain ⟨hx30, hu30, hr30⟩ := hw30
        subst u30; subst r30
        clear hx30
        have hP30 : va_P D vwCl (wP a cZ cI st0 ++ wP b cZ2 cI2 st0) H30 := backO hP29 hD rfl hk30 (by rw [← ht30]; exact hB30.1)
        have hn30 : s.heap.size + 64 ≤ H30.size := Nat.le_trans hn29 hz30
        clear ht30 hvm30 hB30 hz30 hk30
        refine W.widen (k := 65) (n := 390) (by decide) (by decide) ?_
        refine lv_asi (y := 0) (cost0 _) ?_
        refine lv_aload_n hx hb dL_areAlike_206 rfl (lv_at hl3 3 rfl) ?_
        refine lv_iconst (v := 3) hx hb dL_areAlike_207 (by decide) ?_
        refine vx_calli (vx_runV (As := [.int 3]) (rest := [.int 0]) ⟨hx, hb, hml, hown, hts⟩ (k_X10_cost l hfl D b cZ2 cI2 st0 H30.size 3) (cwV 1 hts gL_areAlike_X10_cost rfl rfl rfl (by decide +kernel) ⟨Nat.le_of_ble_eq_true rfl, Nat.le_of_ble_eq_true rfl⟩) ⟨blY, va_recv hKp (twoP hP30) (ci := 10) (q0 := 0) rfl rfl, preY (twoP hP30) hKp (twoPD hD) hNY hZ hS30 (aA_free hAp hA hS30)⟩ rfl rfl hl3.1 rfl (lv_room (Nat.le_of_ble_eq_true rfl)) dL_areAlike_208 ⟨Nat.le_of_ble_eq_true rfl, Nat.le_of_ble_eq_true rfl⟩) hS30 (aA_in hAp) (aA_free hAp hA hS30) (aA_in hAp) (fun E ce q9 u t H L ht hvm hw hB hz hk hS hce hcv hcl => absurd ((xcost0 (i := 3) (by decide)).symm.trans hw.2) (by decide)) (fun r31 u31 t31 H31 L31 ht31 hvm31 hw31 hB31 hz31 hk31 hS31 => ?_)
        obtain ⟨hx31, hu31, hr31⟩ := hw31
        subst u31; subst r31
        clear hx31
        have hP31 : va_P D vwCl (wP a cZ cI st0 ++ wP b cZ2 cI2 st0) H31 := backP hP30 hD rfl hk31 (by rw [← ht31]; exact hB31.1)
        have hn31 : s.heap.size + 64 ≤ H31.size := Nat.le_trans hn30 hz31
        clear ht31 hvm31 hB31 hz31 hk31
        refine W.widen (k := 66) (n := 396) (by decide) (by decide) ?_
        refine lv_asi (y := 0) (cost0 _) ?_
        refine lv_icmp_ne (tgt := 229) hx hb dL_areAlike_211 (by decide) (fun c1 => absurd c1 (by decide)) (fun c1 => ?_)
        refine lv_aload_n hx hb dL_areAlike_214 rfl (lv_at hl3 2 rfl) ?_
        refine va_calli (vx_runSW (As := [.ref (a 0)]) (rest := []) ⟨hx, hb, hml, hown, hts⟩ (k_L_phase l hfl D a cZ cI H31.size) (vx_cwSW 1 hts gL_areAlike_L_phase rfl rfl rfl (by decide +kernel) ⟨Nat.le_of_ble_eq_true rfl, Nat.le_of_ble_eq_true rfl⟩) ⟨blY, preY (twoO hP31) hKo (twoOD hD) hNY hZ hS31 (aA_free hAo hA hS31)⟩ rfl rfl hl3.1 rfl (lv_room (Nat.le_of_ble_eq_true rfl)) dL_areAlike_215 ⟨Nat.le_of_ble_eq_true rfl, Nat.le_of_ble_eq_true rfl⟩) hS31 (aA_in hAo) (aA_free hAo hA hS31) (fun r32 u32 t32 H32 L32 ht32 hvm32 hw32 hB32 hz32 hk32 hS32 => ?_)
        replace hw32 : r32 = (-99999) := hw32
        subst r32
        have hg32 := hB32.2
        rw [ht32] at hg32
        have hP32 : va_P D vwCl (wP a cZ cI st0 ++ wP b cZ2 cI2 st0) H32 := backO hP31 hD rfl hk32 (by rw [← ht32]; exact hB32.1.1)
        have hn32 : s.heap.size + 65 ≤ H32.size := (by have := hg32; have := hn31; omega)
        clear ht32 hvm32 hB32 hz32 hk32
        refine W.widen (k := 67) (n := 402) (by decide) (by decide) ?_
        refine lv_aload_n hx hb dL_areAlike_218 rfl (lv_at hl3 3 rfl) ?_
        refine va_calli (vx_runSW (As := [.ref (b 0)]) (rest := [.int (-99999)]) ⟨hx, hb, hml, hown, hts⟩ (k_L_phase l hfl D b cZ2 cI2 H32.size) (vx_cwSW 1 hts gL_areAlike_L_phase rfl rfl rfl (by decide +kernel) ⟨Nat.le_of_ble_eq_true rfl, Nat.le_of_ble_eq_true rfl⟩) ⟨blY, preY (twoP hP32) hKp (twoPD hD) hNY hZ hS32 (aA_free hAp hA hS32)⟩ rfl rfl hl3.1 rfl (lv_room (Nat.le_of_ble_eq_true rfl)) dL_areAlike_219 ⟨Nat.le_of_ble_eq_true rfl, Nat.le_of_ble_eq_true rfl⟩) hS32 (aA_in hAp) (aA_free hAp hA hS32) (fun r33 u33 t33 H33 L33 ht33 hvm33 hw33 hB33 hz33 hk33 hS33 => ?_)
        replace hw33 : r33 = (-99999) := hw33
        subst r33
        have hg33 := hB33.2
        rw [ht33] at hg33
        have hP33 : va_P D vwCl (wP a cZ cI st0 ++ wP b cZ2 cI2 st0) H33 := backP hP32 hD rfl hk33 (by rw [← ht33]; exact hB33.1.1)
        have hn33 : s.heap.size + 66 ≤ H33.size := (by have := hg33; have := hn32; omega)
        clear ht33 hvm33 hB33 hz33 hk33
        refine W.widen (k := 68) (n := 408) (by decide) (by decide) ?_
        refine lv_icmp_ne (tgt := 229) hx hb dL_areAlike_222 (by decide) (fun c1 => absurd c1 (by decide)) (fun c1 => ?_)
        refine lv_iconst (v := 1) hx hb dL_areAlike_225 (by decide) ?_
        refine lv_goto (tgt := 230) hx hb dL_areAlike_226 (by decide) ?_
        subst hQ; exact W.zret (v := 1) hx hb hr (by decide) (fun t ht hW => ⟨⟨1, (), rfl, rfl, ⟨endW hP33 hK hD ht hW, by rw [ht]; exact hn33⟩⟩, hS33.F ht⟩) hS33.2.2 dL_areAlike_230
      · have hlt : i < 32 := by
          apply Nat.lt_of_not_le
          intro q
          exact c1 ((nI_leI (a := 33) (b := i + 1) (by omega) (by omega)).mpr (by omega))
        refine lv_iload_n hx hb dL_areAlike_168 rfl (lv_at hl3 1 rfl) ?_
        refine lv_if_eq (tgt := 197) hx hb dL_areAlike_169 (by decide) (fun c1 => absurd c1 (by decide)) (fun c1 => ?_)
        refine lv_aload_n hx hb dL_areAlike_172 rfl (lv_at hl3 2 rfl) ?_
        refine lv_iload_n hx hb dL_areAlike_173 rfl (lv_at hl3 0 rfl) ?_
        refine va_calli (vx_runSW (As := [.ref (a 0), .int (nI (i + 1))]) (rest := []) ⟨hx, hb, hml, hown, hts⟩ (k_L_bit l hfl D a cZ cI H29.size (nI (i + 1))) (vx_cwSW 2 hts gL_areAlike_L_bit rfl rfl rfl (by decide +kernel) ⟨Nat.le_of_ble_eq_true rfl, Nat.le_of_ble_eq_true rfl⟩) ⟨blY, preY (twoO hP29) hKo (twoOD hD) hNY hZ hS29 (aA_free hAo hA hS29)⟩ rfl rfl hl3.1 rfl (lv_room (Nat.le_of_ble_eq_true rfl)) dL_areAlike_174 ⟨by show (2 * i) + 1 ≤ 68; omega, by show (12 * i) + 6 ≤ 408; omega⟩) hS29 (aA_in hAo) (aA_free hAo hA hS29) (fun r34 u34 t34 H34 L34 ht34 hvm34 hw34 hB34 hz34 hk34 hS34 => ?_)
        replace hw34 : r34 = (-99999) := hw34
        subst r34
        have hg34 := hB34.2
        rw [ht34] at hg34
        have hP34 : va_P D vwCl (wP a cZ cI st0 ++ wP b cZ2 cI2 st0) H34 := backO hP29 hD rfl hk34 (by rw [← ht34]; exact hB34.1.1)
        have hn34 : s.heap.size + (2 * i + 1) ≤ H34.size := (by have := hg34; have := hn29; omega)
        clear ht34 hvm34 hB34 hz34 hk34
        refine W.widen (k := (2 * i + 1)) (n := (12 * i + 6)) (by omega) (by omega) ?_
        refine lv_aload_n hx hb dL_areAlike_177 rfl (lv_at hl3 3 rfl) ?_
        refine lv_iload_n hx hb dL_areAlike_178 rfl (lv_at hl3 0 rfl) ?_
        refine va_calli (vx_runSW (As := [.ref (b 0), .int (nI (i + 1))]) (rest := [.int (-99999)]) ⟨hx, hb, hml, hown, hts⟩ (k_L_bit l hfl D b cZ2 cI2 H34.size (nI (i + 1))) (vx_cwSW 2 hts gL_areAlike_L_bit rfl rfl rfl (by decide +kernel) ⟨Nat.le_of_ble_eq_true rfl, Nat.le_of_ble_eq_true rfl⟩) ⟨blY, preY (twoP hP34) hKp (twoPD hD) hNY hZ hS34 (aA_free hAp hA hS34)⟩ rfl rfl hl3.1 rfl (lv_room (Nat.le_of_ble_eq_true rfl)) dL_areAlike_179 ⟨by show (2 * i + 1) + 1 ≤ 68; omega, by show (12 * i + 6) + 6 ≤ 408; omega⟩) hS34 (aA_in hAp) (aA_free hAp hA hS34) (fun r35 u35 t35 H35 L35 ht35 hvm35 hw35 hB35 hz35 hk35 hS35 => ?_)
        replace hw35 : r35 = (-99999) := hw35
        subst r35
        have hg35 := hB35.2
        rw [ht35] at hg35
        have hP35 : va_P D vwCl (wP a cZ cI st0 ++ wP b cZ2 cI2 st0) H35 := backP hP34 hD rfl hk35 (by rw [← ht35]; exact hB35.1.1)
        have hn35 : s.heap.size + (2 * i + 2) ≤ H35.size := (by have := hg35; have := hn34; omega)
        clear ht35 hvm35 hB35 hz35 hk35
        refine W.widen (k := (2 * i + 2)) (n := (12 * i + 12)) (by omega) (by omega) ?_
        refine lv_icmp_ne (tgt := 189) hx hb dL_areAlike_182 (by decide) (fun c1 => absurd c1 (by decide)) (fun c1 => ?_)
        refine lv_iconst (v := 1) hx hb dL_areAlike_185 (by decide) ?_
        refine lv_goto (tgt := 190) hx hb dL_areAlike_186 (by decide) ?_
        refine lv_istore_n (lv' := [(2, .int 1), (3, .int (nI (i + 1))), (0, .ref (a 0)), (1, .ref (b 0))]) hx hb dL_areAlike_190 rfl hl3 (by decide) rfl (fun ls4 hl4 => ?_)
        refine lv_iinc (v := nI (i + 1 + 1)) (lv' := [(3, .int (nI (i + 1 + 1))), (2, .int 1), (0, .ref (a 0)), (1, .ref (b 0))]) hx hb dL_areAlike_191 hl4 (k := 1) rfl (nI_add (i + 1) 1) (by decide) rfl (fun ls5 hl5 => ?_)
        refine lv_goto (tgt := 162) hx hb dL_areAlike_194 (by decide) ?_
        refine W.widen (k := 2 * (i + 1)) (n := 12 * (i + 1)) (by omega) (by omega) ?_
        exact ih (i + 1) (by omega) (by omega) _ _ hP35 hS35 (by have := hn35; omega) _ (lv_sub (l' := [(3, .int (nI (i + 1 + 1))), (2, .int 1), (0, .ref (a 0)), (1, .ref (b 0))]) hl5 [0, 1, 2, 3] rfl)
  exact LOOP 33 0 (Nat.zero_le _) (by omega) _ _ hP28 hS28 hn28 _ (lv_sub (l' := [(3, .int (nI (0 + 1))), (2, .int 1), (0, .ref (a 0)), (1, .ref (b 0))]) hl2 [0, 1, 2, 3] rfl)
end
section
/-- a room for the whole run -/
def room_9 : Room := { frames := 11, cells := 11000, slots := 70000, locals := 400 }
def lw_P (b : Addr) (xs : List Int32) (args : Array Value) (s : State) : Prop := args = #[.ref b] ∧ s.IntsAt b xs ∧ xs.length ≤ 260 ∧ (Jvm.Cond.and given_1 narrow_1).before args s = true
def lw_Q (_ : Array Value) (s : State) (o : Outcome) (t : State) : Prop := o = .returned (some (.int 1)) ∧ s.heap.size + 210 ≤ t.heap.size
def lw_Z (below : List Frame) (a : Array Value) (s : State) : State → Prop := fun t => ∃ o, t.status = .running ∧ Ended t below o ∧ lw_Q a s o t
/-- the law's own end, with 1 on the stack, behind at least 210 new objects and arrays -/
theorem lw_ret {p : Program} {l : Launch} {e : Env} {s : State} {m : MethodId} {below : List Frame} {meth : Method} {c : Code} {b : Nat} (hx : p.tables.exec = Jvm.exec) (hb : c.code = code) (hr : meth.sig.returnType = ret) (hlocks : meth.locks = false) {pc : Nat} {H : Heap} {ls : Array Slot} (hn : s.heap.size + 210 ≤ H.size) (hdg : decode code pc = .ok (.ireturn, 1)) : W p l e room_9 s m #[Value.ref b] below meth c H [] 11000 70000 (lw_Z below #[Value.ref b] s) (F0 m pc ls [.int 1]) := by
  intro T hT X
  obtain ⟨fs, hret, hrun, hended, hW, hframe⟩ := X.leave (v := some (.int 1)) (hlocks := hlocks) (fun h => by rw [hr] at h; cases h)
  have hmeth' : T.vm.method? m = some meth := X.method'
  refine ⟨T.setFrames fs, ?_, .returned (some (.int 1)), hrun, hended, rfl, by rw [← hT] at hn; exact hn⟩
  jvm_step X.here [X.here.top, hx, hb, hdg, hmeth', hr, ret, narrow_b1]
  (try refine ⟨rfl, ?_⟩); (try refine ⟨rfl, ?_⟩)
  first | (intro acts; rw [hret _ acts rfl rfl rfl]) | rw [hret _ _ rfl rfl rfl]
  exact Steps.refl _
/-- what holds at the law's entry: the machine, the code, the tables' words (any of lw_tbl by 'hts w (by decide +kernel)'), the script of L ints xs at the cell b, what the Statement gives of the start (any of its parts by flat_of_before) -/
def lw_At (p : Program) (s : State) (m : MethodId) (meth : Method) (c : Code) (b L : Nat) (xs : Nat → Int32) : Prop :=
  p.tables.exec = Jvm.exec ∧ c.code = code ∧ meth.sig.returnType = ret ∧ c.maxLocals = 6 ∧ s.vm.findClass RL = some m.cls ∧ (∀ w ∈ lw_tbl, w.before #[Value.ref b] s = true) ∧ va_X b L xs s s.heap ∧ b < s.heap.size ∧ meth.locks = false ∧ (Jvm.Cond.and given_1 narrow_1).before #[Value.ref b] s = true
def lwA (s : State) : Nat → Prop := fun q => s.heap.size ≤ q
theorem adA {A : Nat → Prop} {ws : va_W} {as : List Nat} (h : va_D A ws) (e : ws.map (fun q => q.1) = as) : ∀ q : Nat, q ∈ as → A q := fun q hq => by
  rw [← e] at hq
  obtain ⟨x, hx, rfl⟩ := List.mem_map.mp hq
  obtain ⟨i, hi⟩ := List.getElem?_of_mem hx
  exact h.2 i x hi
end
section
theorem st_vk {own tx : String} {k : Nat} {A : Array Value} {s : State} (h1 : (Cond.stringRef own k tx).before A s = true) (h2 : (Cond.exactly (.string own k) "java/lang/String").before A s = true) : ∃ sa, vk_R own k tx sa s := by
  obtain ⟨a, c, cA, kA, q1, -⟩ := Cond.exactly_spec (args := A) (first := s) (o := none) (s := s) (idx := []) (t := .string own k) (cls := "java/lang/String") h2
  exact ⟨a, vk_R.of h1 q1⟩
set_option maxRecDepth 100000 in
set_option maxHeartbeats 4000000 in
theorem st_nP {A : Array Value} {s : State} (hts : ∀ w ∈ lw_tbl, w.before A s = true) : nP s := ⟨va_Nw.of rfl (hts (.methodLinkNest RX6 41 yX10_isWithin RX10) (by decide +kernel)), va_Nw.of rfl (hts (.methodLinkNest RX7 25 yX10_isWithin RX10) (by decide +kernel)), va_Nw.of rfl (hts (.methodLinkNest RX1 24 yX10_isWithin RX10) (by decide +kernel))⟩
set_option maxRecDepth 100000 in
set_option maxHeartbeats 4000000 in
theorem st_nC {A : Array Value} {s : State} (hts : ∀ w ∈ lw_tbl, w.before A s = true) : nC s := ⟨va_Nw.of rfl (hts (.methodLinkNest RX10 9 yX9_init RX10) (by decide +kernel)), va_Nw.of rfl (hts (.methodLinkNest RX10 18 yX3_init RX10) (by decide +kernel)), va_Nw.of rfl (hts (.methodLinkNest RX10 25 yX2_init RX10) (by decide +kernel)), va_Nw.of rfl (hts (.methodLinkNest RX10 32 yX5_init RX10) (by decide +kernel)), va_Nw.of rfl (hts (.methodLinkNest RX10 39 yX6_init RX10) (by decide +kernel)), va_Nw.of rfl (hts (.methodLinkNest RX10 46 yX4_init RX10) (by decide +kernel)), va_Nw.of rfl (hts (.methodLinkNest RX10 53 yX1_init RX10) (by decide +kernel)), va_Nw.of rfl (hts (.methodLinkNest RX10 60 yX8_init RX10) (by decide +kernel)), va_Nw.of rfl (hts (.methodLinkNest RX10 67 yX7_init RX10) (by decide +kernel)), va_Nw.of rfl (hts (.methodLinkNest RX10 74 yX0_init RX10) (by decide +kernel))⟩
set_option maxRecDepth 100000 in
set_option maxHeartbeats 4000000 in
theorem st_nY {A : Array Value} {s : State} (hts : ∀ w ∈ lw_tbl, w.before A s = true) (hgv : (Jvm.Cond.and given_1 narrow_1).before A s = true) : nY s := by
  have hs := flat_of_before _ hgv
  exact ⟨st_nP hts, va_Nw.of rfl (hts (.castable "java/lang/IllegalArgumentException" "java/lang/IllegalArgumentException") (by decide +kernel)), va_Nw.of rfl (hts (.castable "java/lang/IndexOutOfBoundsException" "java/lang/IndexOutOfBoundsException") (by decide +kernel)), va_Nw.of rfl (hts (.castable "java/lang/IllegalStateException" "java/lang/IllegalStateException") (by decide +kernel)), va_Nw.of rfl (hts (.declares ⟨"java/lang/RuntimeException", "<init>", "(Ljava/lang/String;)V"⟩) (by decide +kernel)), va_Nw.of rfl (hts (.declares ⟨"java/lang/Exception", "<init>", "(Ljava/lang/String;)V"⟩) (by decide +kernel)), va_Nw.of rfl (hts (.declares ⟨"java/lang/Throwable", "<init>", "(Ljava/lang/String;)V"⟩) (by decide +kernel)), st_vk (hts (.stringRef RX10 85 "offset is out of range") (by decide +kernel)) (hs (.exactly (.string "Phaselock" 85) "java/lang/String") (by decide +kernel)), st_vk (hts (.stringRef RX10 94 "jitter is out of range") (by decide +kernel)) (hs (.exactly (.string "Phaselock" 94) "java/lang/String") (by decide +kernel)), st_vk (hts (.stringRef RX10 96 "seed is out of range") (by decide +kernel)) (hs (.exactly (.string "Phaselock" 96) "java/lang/String") (by decide +kernel)), st_vk (hts (.stringRef RX10 105 "detector is out of range") (by decide +kernel)) (hs (.exactly (.string "Phaselock" 105) "java/lang/String") (by decide +kernel)), st_vk (hts (.stringRef RX10 110 "p is out of range") (by decide +kernel)) (hs (.exactly (.string "Phaselock" 110) "java/lang/String") (by decide +kernel)), st_vk (hts (.stringRef RX10 112 "i is out of range") (by decide +kernel)) (hs (.exactly (.string "Phaselock" 112) "java/lang/String") (by decide +kernel)), st_vk (hts (.stringRef RX10 121 "phase is out of range") (by decide +kernel)) (hs (.exactly (.string "Phaselock" 121) "java/lang/String") (by decide +kernel)), st_vk (hts (.stringRef RX10 132 "ticks is out of range") (by decide +kernel)) (hs (.exactly (.string "Phaselock" 132) "java/lang/String") (by decide +kernel)), st_vk (hts (.stringRef RX10 163 "there is no such bit") (by decide +kernel)) (hs (.exactly (.string "Phaselock" 163) "java/lang/String") (by decide +kernel)), st_vk (hts (.stringRef RX10 173 "there was no data strobe") (by decide +kernel)) (hs (.exactly (.string "Phaselock" 173) "java/lang/String") (by decide +kernel)), st_vk (hts (.stringRef RX10 204 "remainder is out of range") (by decide +kernel)) (hs (.exactly (.string "Phaselock" 204) "java/lang/String") (by decide +kernel))⟩
set_option maxRecDepth 100000 in
set_option maxHeartbeats 4000000 in
theorem st_xZ {A : Array Value} {s : State} (hts : ∀ w ∈ lw_tbl, w.before A s = true) (hgv : (Jvm.Cond.and given_1 narrow_1).before A s = true) : xZ (lwA s) s s.heap := by
  have hs := flat_of_before _ hgv
  have hA : ∀ a : Nat, a < s.heap.size → ¬ lwA s a := fun a h => Nat.not_le.mpr h
  exact ⟨vx_Zqof (hts (.laysStatic Bundle.tN "UNASSIGNED_STACK" Bundle.steD) (by decide +kernel)) (hts (.initialized Bundle.tN) (by decide +kernel)) (hs (.isRef (.static Bundle.tN "UNASSIGNED_STACK" Bundle.steD)) (by decide +kernel)) hA, vx_Zqof (hts (.laysStatic Bundle.tN "SUPPRESSED_SENTINEL" Bundle.listD) (by decide +kernel)) (hts (.initialized Bundle.tN) (by decide +kernel)) (hs (.isRef (.static Bundle.tN "SUPPRESSED_SENTINEL" Bundle.listD)) (by decide +kernel)) hA⟩
theorem st_fl {l : Launch} (h : l.flags = flags0) : l.stackTraces = false := by
  unfold Launch.stackTraces
  rw [h]
  decide +kernel
set_option maxRecDepth 100000 in
set_option maxHeartbeats 4000000 in
theorem st_K {A : Array Value} {s : State} (hts : ∀ w ∈ lw_tbl, w.before A s = true) : ∃ D : va_G, va_K D vwCl [] s := by
  obtain ⟨c0, i0, h0⟩ := u_known (C := RX0) (T := TX0) (N := 6) (n := 6) hts inX0 (hts (.instantiable RX0 6) (by decide +kernel))
  obtain ⟨c1, i1, h1⟩ := u_known (C := RX1) (T := TX1) (N := 2) (n := 2) hts inX1 (hts (.instantiable RX1 2) (by decide +kernel))
  obtain ⟨c2, i2, h2⟩ := u_known (C := RX2) (T := TX2) (N := 2) (n := 2) hts inX2 (hts (.instantiable RX2 2) (by decide +kernel))
  obtain ⟨c3, i3, h3⟩ := u_known (C := RX3) (T := TX3) (N := 1) (n := 1) hts inX3 (hts (.instantiable RX3 1) (by decide +kernel))
  obtain ⟨c4, i4, h4⟩ := u_known (C := RX4) (T := TX4) (N := 5) (n := 5) hts inX4 (hts (.instantiable RX4 5) (by decide +kernel))
  obtain ⟨c5, i5, h5⟩ := u_known (C := RX5) (T := TX5) (N := 1) (n := 1) hts inX5 (hts (.instantiable RX5 1) (by decide +kernel))
  obtain ⟨c6, i6, h6⟩ := u_known (C := RX6) (T := TX6) (N := 7) (n := 7) hts inX6 (hts (.instantiable RX6 7) (by decide +kernel))
  obtain ⟨c7, i7, h7⟩ := u_known (C := RX7) (T := TX7) (N := 4) (n := 4) hts inX7 (hts (.instantiable RX7 4) (by decide +kernel))
  obtain ⟨c8, i8, h8⟩ := u_known (C := RX8) (T := TX8) (N := 4) (n := 4) hts inX8 (hts (.instantiable RX8 4) (by decide +kernel))
  obtain ⟨c9, i9, h9⟩ := u_known (C := RX9) (T := TX9) (N := 7) (n := 7) hts inX9 (hts (.instantiable RX9 7) (by decide +kernel))
  obtain ⟨c10, i10, h10⟩ := u_known (C := RX10) (T := TX10) (N := 10) (n := 10) hts inX10 (hts (.instantiable RX10 10) (by decide +kernel))
  refine ⟨(fun k => match k with | 0 => c0 | 1 => c1 | 2 => c2 | 3 => c3 | 4 => c4 | 5 => c5 | 6 => c6 | 7 => c7 | 8 => c8 | 9 => c9 | _ => c10, fun k => match k with | 0 => i0 | 1 => i1 | 2 => i2 | 3 => i3 | 4 => i4 | 5 => i5 | 6 => i6 | 7 => i7 | 8 => i8 | 9 => i9 | _ => i10), fun k q hq => ?_, fun k q h => by simp at h⟩
  match k, hq with
  | 0, hq => cases hq; exact h0
  | 1, hq => cases hq; exact h1
  | 2, hq => cases hq; exact h2
  | 3, hq => cases hq; exact h3
  | 4, hq => cases hq; exact h4
  | 5, hq => cases hq; exact h5
  | 6, hq => cases hq; exact h6
  | 7, hq => cases hq; exact h7
  | 8, hq => cases hq; exact h8
  | 9, hq => cases hq; exact h9
  | 10, hq => cases hq; exact h10
  | k + 11, hq => simp [vwCl] at hq
end
section
def lw9F (p : Program) (l : Launch) (s : State) (m : MethodId) (meth : Method) (c : Code) (D : va_G) (b : Nat) (xs : Nat → Int32) (a b2 : Nat → Nat) (cZ cI cZ2 cI2 : ClassId) : Prop := lw_At p s m meth c b 56 xs ∧ (∀ k, k < 56 → xs k = 5) ∧ l.stackTraces = false ∧ nY s ∧ xZ (lwA s) s s.heap ∧ va_K D vwCl [(cZ, .boolean), (cI, .int), (cZ2, .boolean), (cI2, .int)] s ∧ va_D (lwA s) (wP a cZ cI st0 ++ wP b2 cZ2 cI2 st0)
set_option maxHeartbeats 4000000 in
set_option maxRecDepth 100000 in
theorem law9_loop {p : Program} {l : Launch} {e : Env} {s : State} {m : MethodId} {below : List Frame} {meth : Method} {c : Code} {D : va_G} {b : Nat} {xs : Nat → Int32} {a b2 : Nat → Nat} {cZ cI cZ2 cI2 : ClassId} (F : lw9F p l s m meth c D b xs a b2 cZ cI cZ2 cI2) : ∀ (fu k : Nat), k + fu = 56 → ∀ (H : Heap) (L : List Loc) (ls : Array Slot), va_P D vwCl (wP a cZ cI st0 ++ wP b2 cZ2 cI2 st0) H → va_S (lwA s) s.heap H L → s.heap.size + 35 * k ≤ H.size → lv_has ls 6 [(3, .int (nI k)), (2, .ref (b2 0)), (1, .ref (a 0)), (0, .ref b)] → W p l e room_9 s m #[Value.ref b] below meth c H L (26 + 190 * k) (674 + 1200 * k) (lw_Z below #[Value.ref b] s) (F0 m 18 ls []) := by
  obtain ⟨⟨hx, hb, hr, hml, hown, hts0, hX, hbl, hlocks, hgv⟩, h5, hfl, hNY, hZ, hK, hD⟩ := id F
  have hts : ∀ w ∈ wsL_law, w.before #[Value.ref b] s = true := fun w h => hts0 w (wsL_law_in w h)
  have hA : ∀ q : Nat, s.heap.size ≤ q → lwA s q := fun _ h => h
  have hAo := adA (twoOD hD) (as := adP a) rfl
  have hAp := adA (twoPD hD) (as := adP b2) rfl
  have hAb := adA hD (as := adP a ++ adP b2) rfl
  have hKo := hK.sub (tys' := tyZI cZ cI) [0, 1] rfl
  have hKp := hK.sub (tys' := tyZI cZ2 cI2) [2, 3] rfl
  have hbA : ¬ lwA s b := Nat.not_le.mpr hbl
  intro fu
  induction fu with
  | zero =>
    intro k hk H L ls hP hS hn hl
    have hk : k = 56 := by omega
    refine lv_iload_n hx hb dL_law_18 rfl (lv_at hl 0 rfl) ?_
    refine lv_bipush (v := 56) hx hb dL_law_19 (by decide) ?_
    have hge : nI 56 ≤ nI k := (nI_leI (by decide) (by omega)).mpr (by omega)
    refine lv_icmp_ge (tgt := 108) hx hb dL_law_21 (by decide) (fun _ => ?_) (fun c1 => absurd hge c1)
    refine lv_aload_n hx hb dL_law_108 rfl (lv_at hl 2 rfl) ?_
    refine lv_aload_n hx hb dL_law_109 rfl (lv_at hl 1 rfl) ?_
    refine va_calli (va_runS (As := [.ref (a 0), .ref (b2 0)]) (rest := []) ⟨hx, hb, hml, hown, hts⟩ (k_L_areAlike l hfl D a cZ cI b2 cZ2 cI2 H.size) (va_cwS 2 hts gL_law_L_areAlike rfl rfl rfl (by decide +kernel) ⟨Nat.le_of_ble_eq_true rfl, Nat.le_of_ble_eq_true rfl⟩) ⟨blY, preY hP hK hD hNY hZ hS (aA_free hAb hA hS)⟩ rfl rfl hl.1 rfl (lv_room (Nat.le_of_ble_eq_true rfl)) dL_law_110 ⟨by show (26 + 190 * k) + 68 ≤ 11000; omega, by show (674 + 1200 * k) + 408 ≤ 70000; omega⟩) hS (aA_in hAb) (aA_free hAb hA hS) (fun r1 u1 t1 H1 L1 ht1 hvm1 hw1 hB1 hz1 hk1 hS1 => ?_)
    replace hw1 : r1 = 1 := hw1
    subst r1
    have hP1 : va_P D vwCl (wP a cZ cI st0 ++ wP b2 cZ2 cI2 st0) H1 := by rw [← ht1]; exact hB1.1.1
    have hn1 : s.heap.size + 35 * k ≤ H1.size := Nat.le_trans hn hz1
    clear ht1 hvm1 hB1 hz1 hk1
    refine W.widen (k := 26 + 190 * k + 68) (n := 674 + 1200 * k + 408) (by omega) (by omega) ?_
    refine lv_if_eq (tgt := 127) hx hb dL_law_113 (by decide) (fun c1 => absurd c1 (by decide)) (fun _ => ?_)
    refine lv_aload_n hx hb dL_law_116 rfl (lv_at hl 2 rfl) ?_
    refine va_calli (va_runS (As := [.ref (a 0)]) (rest := []) ⟨hx, hb, hml, hown, hts⟩ (k_L_areCostsSo l hfl D a cZ cI H1.size) (va_cwS 1 hts gL_law_L_areCostsSo rfl rfl rfl (by decide +kernel) ⟨Nat.le_of_ble_eq_true rfl, Nat.le_of_ble_eq_true rfl⟩) ⟨blY, preY (twoO hP1) hKo (twoOD hD) hNY hZ hS1 (aA_free hAo hA hS1)⟩ rfl rfl hl.1 rfl (lv_room (Nat.le_of_ble_eq_true rfl)) dL_law_117 ⟨by show (26 + 190 * k + 68) + 82 ≤ 11000; omega, by show (674 + 1200 * k + 408) + 492 ≤ 70000; omega⟩) hS1 (aA_in hAo) (aA_free hAo hA hS1) (fun r2 u2 t2 H2 L2 ht2 hvm2 hw2 hB2 hz2 hk2 hS2 => ?_)
    replace hw2 : r2 = 1 := hw2
    subst r2
    have hP2 : va_P D vwCl (wP a cZ cI st0 ++ wP b2 cZ2 cI2 st0) H2 := backO hP1 hD rfl hk2 (by rw [← ht2]; exact hB2.1)
    have hn2 : s.heap.size + 35 * k ≤ H2.size := Nat.le_trans hn1 hz2
    clear ht2 hvm2 hB2 hz2 hk2
    refine W.widen (k := 26 + 190 * k + 150) (n := 674 + 1200 * k + 900) (by omega) (by omega) ?_
    refine lv_if_eq (tgt := 127) hx hb dL_law_120 (by decide) (fun c1 => absurd c1 (by decide)) (fun _ => ?_)
    refine lv_iconst (v := 1) hx hb dL_law_123 (by decide) ?_
    refine lv_goto (tgt := 128) hx hb dL_law_124 (by decide) ?_
    refine va_forget (fun q hq => hS2.2.2 q hq) ?_
    refine W.widen (k := 11000) (n := 70000) (by omega) (by omega) ?_
    exact lw_ret hx hb hr hlocks (by have := hn2; omega) dL_law_128
  | succ fu ih =>
    intro k hk H L ls hP hS hn hl
    have hk6 : k < 56 := by omega
    refine lv_iload_n hx hb dL_law_18 rfl (lv_at hl 0 rfl) ?_
    refine lv_bipush (v := 56) hx hb dL_law_19 (by decide) ?_
    have hge : ¬ nI 56 ≤ nI k := fun q => by
      have := (nI_leI (a := 56) (b := k) (by decide) (by omega)).mp q
      omega
    refine lv_icmp_ge (tgt := 108) hx hb dL_law_21 (by decide) (fun c1 => absurd c1 hge) (fun _ => ?_)
    refine lv_aload_n hx hb dL_law_24 rfl (lv_at hl 3 rfl) ?_
    refine lv_iload_n hx hb dL_law_25 rfl (lv_at hl 0 rfl) ?_
    refine va_calli (va_runS (As := [.ref b, .int (nI k)]) (rest := []) ⟨hx, hb, hml, hown, hts⟩ (k_L_cell l b 56 xs H.size k hk6 (by decide)) (va_cwS 2 hts gL_law_L_cell rfl rfl rfl (by decide +kernel) ⟨Nat.le_of_ble_eq_true rfl, Nat.le_of_ble_eq_true rfl⟩) ⟨blX9, fun U hU hW => ⟨rfl, by rw [hU], by rw [hU]; exact va_X.moved hW.alike (va_X.kept hX (hS.2.1 b hbl hbA)), by rw [hU]; exact Nat.lt_of_lt_of_le hbl hS.1⟩⟩ rfl rfl hl.1 rfl (lv_room (Nat.le_of_ble_eq_true rfl)) dL_law_26 ⟨by show (26 + 190 * k) + 0 ≤ 11000; omega, by show (674 + 1200 * k) + 0 ≤ 70000; omega⟩) hS (fun q h1 h2 => absurd h1 (Nat.not_lt.mpr h2)) (fun q h => Nat.le_trans hS.1 h) (fun r1 u1 t1 H1 L1 ht1 hvm1 hw1 hB1 hz1 hk1 hS1 => ?_)
    replace hw1 : r1 = xs k := hw1
    rw [h5 k hk6] at hw1
    subst r1
    have hP1 : va_P D vwCl (wP a cZ cI st0 ++ wP b2 cZ2 cI2 st0) H1 := hP.kept (fun k q h => hk1 q.1 (hP k q h).lt (Nat.not_le.mpr (hP k q h).lt))
    have hn1 : s.heap.size + 35 * k ≤ H1.size := Nat.le_trans hn hz1
    clear ht1 hvm1 hB1 hz1 hk1
    refine lv_istore (lv' := [(4, .int 5), (3, .int (nI k)), (2, .ref (b2 0)), (1, .ref (a 0)), (0, .ref b)]) hx hb dL_law_29 hl (by decide) rfl (fun ls1 hl1 => ?_)
    refine lv_aload_n hx hb dL_law_31 rfl (lv_at hl1 3 rfl) ?_
    refine lv_iload hx hb dL_law_32 (lv_at hl1 0 rfl) ?_
    refine va_calli (va_runS (As := [.ref (a 0), .int 5]) (rest := []) ⟨hx, hb, hml, hown, hts⟩ (k_L_act l hfl D a cZ cI H1.size) (va_cwS 2 hts gL_law_L_act rfl rfl rfl (by decide +kernel) ⟨Nat.le_of_ble_eq_true rfl, Nat.le_of_ble_eq_true rfl⟩) ⟨blY, preY (twoO hP1) hKo (twoOD hD) hNY hZ hS1 (aA_free hAo hA hS1)⟩ rfl rfl hl1.1 rfl (lv_room (Nat.le_of_ble_eq_true rfl)) dL_law_34 ⟨by show (26 + 190 * k) + 0 ≤ 11000; omega, by show (674 + 1200 * k) + 0 ≤ 70000; omega⟩) hS1 (aA_in hAo) (aA_free hAo hA hS1) (fun r2 u2 t2 H2 L2 ht2 hvm2 hw2 hB2 hz2 hk2 hS2 => ?_)
    replace hw2 : r2 = 0 := hw2
    subst r2
    have hP2 : va_P D vwCl (wP a cZ cI st0 ++ wP b2 cZ2 cI2 st0) H2 := backO hP1 hD rfl hk2 (by rw [← ht2]; exact hB2.1)
    have hn2 : s.heap.size + 35 * k ≤ H2.size := Nat.le_trans hn1 hz2
    clear ht2 hvm2 hB2 hz2 hk2
    refine W.widen (k := 26 + 190 * k + 0) (n := 674 + 1200 * k + 0) (by omega) (by omega) ?_
    refine lv_istore (lv' := [(5, .int 0), (4, .int 5), (3, .int (nI k)), (2, .ref (b2 0)), (1, .ref (a 0)), (0, .ref b)]) hx hb dL_law_37 hl1 (by decide) rfl (fun ls2 hl2 => ?_)
    refine lv_iload hx hb dL_law_39 (lv_at hl2 0 rfl) ?_
    refine lv_ldc (v := (-99999)) hx hb hown (hts0 (.constant RL 25 (-99999)) (by decide +kernel)) dL_law_41 ?_
    refine lv_icmp_eq (tgt := 57) hx hb dL_law_43 (by decide) (fun c1 => absurd c1 (by decide)) (fun _ => ?_)
    refine lv_aload_n hx hb dL_law_46 rfl (lv_at hl2 3 rfl) ?_
    refine lv_iload hx hb dL_law_47 (lv_at hl2 1 rfl) ?_
    refine va_calli (va_runS (As := [.ref (b2 0), .int 5]) (rest := []) ⟨hx, hb, hml, hown, hts⟩ (k_L_act l hfl D b2 cZ2 cI2 H2.size) (va_cwS 2 hts gL_law_L_act rfl rfl rfl (by decide +kernel) ⟨Nat.le_of_ble_eq_true rfl, Nat.le_of_ble_eq_true rfl⟩) ⟨blY, preY (twoP hP2) hKp (twoPD hD) hNY hZ hS2 (aA_free hAp hA hS2)⟩ rfl rfl hl2.1 rfl (lv_room (Nat.le_of_ble_eq_true rfl)) dL_law_49 ⟨by show (26 + 190 * k + 0) + 0 ≤ 11000; omega, by show (674 + 1200 * k + 0) + 0 ≤ 70000; omega⟩) hS2 (aA_in hAp) (aA_free hAp hA hS2) (fun r3 u3 t3 H3 L3 ht3 hvm3 hw3 hB3 hz3 hk3 hS3 => ?_)
    replace hw3 : r3 = 0 := hw3
    subst r3
    have hP3 : va_P D vwCl (wP a cZ cI st0 ++ wP b2 cZ2 cI2 st0) H3 := backP hP2 hD rfl hk3 (by rw [← ht3]; exact hB3.1)
    have hn3 : s.heap.size + 35 * k ≤ H3.size := Nat.le_trans hn2 hz3
    clear ht3 hvm3 hB3 hz3 hk3
    refine W.widen (k := 26 + 190 * k + 0) (n := 674 + 1200 * k + 0) (by omega) (by omega) ?_
    refine lv_iload hx hb dL_law_52 (lv_at hl2 0 rfl) ?_
    refine lv_icmp_ne (tgt := 100) hx hb dL_law_54 (by decide) (fun c1 => absurd c1 (by decide)) (fun _ => ?_)
    have J102 : ∀ (H9 : Heap) (L9 : List Loc), va_P D vwCl (wP a cZ cI st0 ++ wP b2 cZ2 cI2 st0) H9 → va_S (lwA s) s.heap H9 L9 → s.heap.size + 35 * (k + 1) ≤ H9.size → W p l e room_9 s m #[Value.ref b] below meth c H9 L9 (26 + 190 * k + 185) (674 + 1200 * k + 1110) (lw_Z below #[Value.ref b] s) (F0 m 102 ls2 []) := by
      intro H9 L9 hP9 hS9 hn9
      refine lv_iinc (v := nI (k + 1)) (lv' := [(3, .int (nI (k + 1))), (5, .int 0), (4, .int 5), (2, .ref (b2 0)), (1, .ref (a 0)), (0, .ref b)]) hx hb dL_law_102 hl2 (k := 2) rfl (nI_add k 1) (by decide) rfl (fun ls3 hl3 => ?_)
      refine lv_goto (tgt := 18) hx hb dL_law_105 (by decide) ?_
      refine W.widen (k := 26 + 190 * (k + 1)) (n := 674 + 1200 * (k + 1)) (by omega) (by omega) ?_
      exact ih (k + 1) (by omega) H9 L9 ls3 hP9 hS9 hn9 (lv_sub (l' := [(3, .int (nI (k + 1))), (2, .ref (b2 0)), (1, .ref (a 0)), (0, .ref b)]) hl3 [0, 3, 4, 5] rfl)
    have J72 : ∀ (H8 : Heap) (L8 : List Loc), va_P D vwCl (wP a cZ cI st0 ++ wP b2 cZ2 cI2 st0) H8 → va_S (lwA s) s.heap H8 L8 → s.heap.size + 35 * k ≤ H8.size → W p l e room_9 s m #[Value.ref b] below meth c H8 L8 (26 + 190 * k + 68) (674 + 1200 * k + 408) (lw_Z below #[Value.ref b] s) (F0 m 72 ls2 []) := by
      intro H8 L8 hP8 hS8 hn8
      refine lv_aload_n hx hb dL_law_72 rfl (lv_at hl2 4 rfl) ?_
      refine va_calli (va_runS (As := [.ref (a 0)]) (rest := []) ⟨hx, hb, hml, hown, hts⟩ (k_L_isLineSo l hfl D a cZ cI H8.size) (va_cwS 1 hts gL_law_L_isLineSo rfl rfl rfl (by decide +kernel) ⟨Nat.le_of_ble_eq_true rfl, Nat.le_of_ble_eq_true rfl⟩) ⟨blY, preY (twoO hP8) hKo (twoOD hD) hNY hZ hS8 (aA_free hAo hA hS8)⟩ rfl rfl hl2.1 rfl (lv_room (Nat.le_of_ble_eq_true rfl)) dL_law_73 ⟨by show (26 + 190 * k + 68) + 0 ≤ 11000; omega, by show (674 + 1200 * k + 408) + 0 ≤ 70000; omega⟩) hS8 (aA_in hAo) (aA_free hAo hA hS8) (fun r21 u21 t21 H21 L21 ht21 hvm21 hw21 hB21 hz21 hk21 hS21 => ?_)
      replace hw21 : r21 = 1 := hw21
      subst r21
      have hP21 : va_P D vwCl (wP a cZ cI st0 ++ wP b2 cZ2 cI2 st0) H21 := backO hP8 hD rfl hk21 (by rw [← ht21]; exact hB21.1)
      have hn21 : s.heap.size + 35 * k ≤ H21.size := Nat.le_trans hn8 hz21
      clear ht21 hvm21 hB21 hz21 hk21
      refine W.widen (k := 26 + 190 * k + 68) (n := 674 + 1200 * k + 408) (by omega) (by omega) ?_
      refine lv_if_eq (tgt := 100) hx hb dL_law_76 (by decide) (fun c1 => absurd c1 (by decide)) (fun _ => ?_)
      refine lv_aload_n hx hb dL_law_79 rfl (lv_at hl2 4 rfl) ?_
      refine va_calli (va_runS (As := [.ref (a 0)]) (rest := []) ⟨hx, hb, hml, hown, hts⟩ (k_L_areBitsSo l hfl D a cZ cI H21.size) (va_cwS 1 hts gL_law_L_areBitsSo rfl rfl rfl (by decide +kernel) ⟨Nat.le_of_ble_eq_true rfl, Nat.le_of_ble_eq_true rfl⟩) ⟨blY, preY (twoO hP21) hKo (twoOD hD) hNY hZ hS21 (aA_free hAo hA hS21)⟩ rfl rfl hl2.1 rfl (lv_room (Nat.le_of_ble_eq_true rfl)) dL_law_80 ⟨by show (26 + 190 * k + 68) + 35 ≤ 11000; omega, by show (674 + 1200 * k + 408) + 210 ≤ 70000; omega⟩) hS21 (aA_in hAo) (aA_free hAo hA hS21) (fun r22 u22 t22 H22 L22 ht22 hvm22 hw22 hB22 hz22 hk22 hS22 => ?_)
      replace hw22 : r22 = 1 := hw22
      subst r22
      have hP22 : va_P D vwCl (wP a cZ cI st0 ++ wP b2 cZ2 cI2 st0) H22 := backO hP21 hD rfl hk22 (by rw [← ht22]; exact hB22.1.1)
      have hg22 := hB22.2
      rw [ht22] at hg22
      have hn22 : s.heap.size + 35 * (k + 1) ≤ H22.size := by have := hn21; omega
      clear ht22 hvm22 hB22 hz22 hk22
      refine W.widen (k := 26 + 190 * k + 103) (n := 674 + 1200 * k + 618) (by omega) (by omega) ?_
      refine lv_if_eq (tgt := 100) hx hb dL_law_83 (by decide) (fun c1 => absurd c1 (by decide)) (fun _ => ?_)
      refine lv_iload_n hx hb dL_law_86 rfl (lv_at hl2 2 rfl) ?_
      refine lv_iconst (v := 4) hx hb dL_law_87 (by decide) ?_
      refine lv_irem hx hb dL_law_88 (by decide) ?_
      refine lv_iconst (v := 1) hx hb dL_law_89 (by decide) ?_
      refine lv_icmp_ne (tgt := 102) hx hb dL_law_90 (by decide) (fun _ => W.widen (by omega) (by omega) (J102 _ _ hP22 hS22 hn22)) (fun _ => ?_)
      refine lv_aload_n hx hb dL_law_93 rfl (lv_at hl2 4 rfl) ?_
      refine va_calli (va_runS (As := [.ref (a 0)]) (rest := []) ⟨hx, hb, hml, hown, hts⟩ (k_L_areCostsSo l hfl D a cZ cI H22.size) (va_cwS 1 hts gL_law_L_areCostsSo rfl rfl rfl (by decide +kernel) ⟨Nat.le_of_ble_eq_true rfl, Nat.le_of_ble_eq_true rfl⟩) ⟨blY, preY (twoO hP22) hKo (twoOD hD) hNY hZ hS22 (aA_free hAo hA hS22)⟩ rfl rfl hl2.1 rfl (lv_room (Nat.le_of_ble_eq_true rfl)) dL_law_94 ⟨by show (26 + 190 * k + 103) + 82 ≤ 11000; omega, by show (674 + 1200 * k + 618) + 492 ≤ 70000; omega⟩) hS22 (aA_in hAo) (aA_free hAo hA hS22) (fun r23 u23 t23 H23 L23 ht23 hvm23 hw23 hB23 hz23 hk23 hS23 => ?_)
      replace hw23 : r23 = 1 := hw23
      subst r23
      have hP23 : va_P D vwCl (wP a cZ cI st0 ++ wP b2 cZ2 cI2 st0) H23 := backO hP22 hD rfl hk23 (by rw [← ht23]; exact hB23.1)
      have hn23 : s.heap.size + 35 * (k + 1) ≤ H23.size := Nat.le_trans hn22 hz23
      clear ht23 hvm23 hB23 hz23 hk23
      refine W.widen (k := 26 + 190 * k + 185) (n := 674 + 1200 * k + 1110) (by omega) (by omega) ?_
      exact lv_if_ne (tgt := 102) hx hb dL_law_97 (by decide) (fun _ => J102 _ _ hP23 hS23 hn23) (fun c1 => absurd c1 (by decide))
    refine lv_iload_n hx hb dL_law_57 rfl (lv_at hl2 2 rfl) ?_
    refine lv_iconst (v := 3) hx hb dL_law_58 (by decide) ?_
    refine lv_irem hx hb dL_law_59 (by decide) ?_
    refine lv_iconst (v := 2) hx hb dL_law_60 (by decide) ?_
    refine lv_icmp_ne (tgt := 72) hx hb dL_law_61 (by decide) (fun _ => W.widen (by omega) (by omega) (J72 _ _ hP3 hS3 hn3)) (fun _ => ?_)
    refine lv_aload_n hx hb dL_law_64 rfl (lv_at hl2 4 rfl) ?_
    refine lv_aload_n hx hb dL_law_65 rfl (lv_at hl2 3 rfl) ?_
    refine va_calli (va_runS (As := [.ref (a 0), .ref (b2 0)]) (rest := []) ⟨hx, hb, hml, hown, hts⟩ (k_L_areAlike l hfl D a cZ cI b2 cZ2 cI2 H3.size) (va_cwS 2 hts gL_law_L_areAlike rfl rfl rfl (by decide +kernel) ⟨Nat.le_of_ble_eq_true rfl, Nat.le_of_ble_eq_true rfl⟩) ⟨blY, preY hP3 hK hD hNY hZ hS3 (aA_free hAb hA hS3)⟩ rfl rfl hl2.1 rfl (lv_room (Nat.le_of_ble_eq_true rfl)) dL_law_66 ⟨by show (26 + 190 * k + 0) + 68 ≤ 11000; omega, by show (674 + 1200 * k + 0) + 408 ≤ 70000; omega⟩) hS3 (aA_in hAb) (aA_free hAb hA hS3) (fun r4 u4 t4 H4 L4 ht4 hvm4 hw4 hB4 hz4 hk4 hS4 => ?_)
    replace hw4 : r4 = 1 := hw4
    subst r4
    have hP4 : va_P D vwCl (wP a cZ cI st0 ++ wP b2 cZ2 cI2 st0) H4 := by rw [← ht4]; exact hB4.1.1
    have hn4 : s.heap.size + 35 * k ≤ H4.size := Nat.le_trans hn3 hz4
    clear ht4 hvm4 hB4 hz4 hk4
    refine W.widen (k := 26 + 190 * k + 68) (n := 674 + 1200 * k + 408) (by omega) (by omega) ?_
    exact lv_if_eq (tgt := 100) hx hb dL_law_69 (by decide) (fun c1 => absurd c1 (by decide)) (fun _ => J72 _ _ hP4 hS4 hn4)
end
section
set_option maxHeartbeats 4000000 in
set_option maxRecDepth 100000 in
/-- from the law's entry, over 56 fives, to its end, in a room of 11000 cells: at least 210 of them are made -/
theorem start9 {p : Program} {e : Env} {s : State} {m : MethodId} {below : List Frame} {meth : Method} {c : Code} (l : Launch) (hflags : l.flags = flags0) {b : Nat} {xs : Nat → Int32} (h5 : ∀ k, k < 56 → xs k = 5) (C0 : lw_At p s m meth c b 56 xs) : W p l e room_9 s m #[Value.ref b] below meth c s.heap [] 0 0 (lw_Z below #[Value.ref b] s) (entryFrame m ([Value.ref b] : List Value).toArray 6) := by
  obtain ⟨hx, hb, hr, hml, hown, hts, hX, hbl, hlocks, hgv⟩ := id C0
  have htsL : ∀ w ∈ wsL_law, w.before #[Value.ref b] s = true := fun w h => hts w (wsL_law_in w h)
  have hfl := st_fl hflags
  have hNY := st_nY hts hgv
  have hNC := st_nC hts
  have hZ := st_xZ hts hgv
  obtain ⟨D, hK⟩ := st_K hts
  have hA : ∀ q : Nat, s.heap.size ≤ q → lwA s q := fun _ h => h
  have hS : va_S (lwA s) s.heap s.heap [] := va_S.rf
  have hP : va_P D vwCl [] s.heap := fun k q h => by simp at h
  have hD : va_D (lwA s) [] := ⟨fun i j p q h => by simp at h, fun k q h => by simp at h⟩
  have hl := lv_entry ([.ref b]) (n := 6) (Nat.le_of_ble_eq_true rfl)
  rw [lg_entry_eq]
  generalize (lg_sl ([.ref b]) ++ List.replicate (6 - (lg_sl ([.ref b])).length) Slot.unset).toArray = ls at hl ⊢
  have hl : lv_has ls 6 [(0, .ref b)] := hl
  refine va_new (ci := 10) (fs := [.null, .null, .null, .null, .null, .null, .null, .null, .null, .null]) (C := RX10) (T := TX10) (N := 10) hx hb hts inX10 tyX10 tyX10_ok hown (hts (.classLink RL 9 RX10) (by decide +kernel)) (hts (.instantiable RX10 10) (by decide +kernel)) (hts (.initialized RX10) (by decide +kernel)) hK hP hD hS hA rfl (fun j hj => match j, hj with | 0, _ => rfl | 1, _ => rfl | 2, _ => rfl | 3, _ => rfl | 4, _ => rfl | 5, _ => rfl | 6, _ => rfl | 7, _ => rfl | 8, _ => rfl | 9, _ => rfl | n + 10, h => absurd h (by omega)) (Nat.le_of_ble_eq_true rfl) (Nat.le_of_ble_eq_true rfl) dL_law_0 (fun h0 H hP hD hS => ?_)
  replace hP : va_P D vwCl [(h0, .inr (10, [.null, .null, .null, .null, .null, .null, .null, .null, .null, .null]))] H := hP
  replace hD : va_D (lwA s) [(h0, .inr (10, [.null, .null, .null, .null, .null, .null, .null, .null, .null, .null]))] := hD
  refine lv_dup hx hb dL_law_3 rfl ?_
  have hFc := va_free (wc := [(h0, .inr (10, [.null, .null, .null, .null, .null, .null, .null, .null, .null, .null]))]) hD hS hA [0] rfl
  refine va_callv (va_runI (As := []) (rest := [.ref h0]) ⟨hx, hb, hml, hown, htsL⟩ (k_X10_init l D h0 H.size) (cwI 0 htsL gL_law_X10_init rfl rfl rfl (hts (.initialized RX10) (by decide +kernel)) (hts (.methodLink RL 133 yX10_init) (by decide +kernel)) (hts (.instanceMethod yX10_init) (by decide +kernel)) rfl (by decide +kernel) ⟨Nat.le_of_ble_eq_true rfl, Nat.le_of_ble_eq_true rfl⟩) ⟨blW okN_C, preW hP hK hD okN_C hNC⟩ rfl rfl hl.1 rfl (lv_room (Nat.le_of_ble_eq_true rfl)) dL_law_4 ⟨Nat.le_of_ble_eq_true rfl, Nat.le_of_ble_eq_true rfl⟩) hS (fun q _ h => hFc q h) hFc (fun u t H1 L1 ht hvm hw hB hz1 hk1 hS1 => ?_)
  obtain ⟨hP1, hK1, hD1⟩ := hB
  rw [ht] at hP1
  replace hK1 := va_K.moved hvm.symm hK1
  obtain ⟨a, cZ, cI⟩ := u
  replace hw : a 0 = h0 := hw
  obtain ⟨hP2, hD2⟩ := va_join (wr := []) (w1 := wP a cZ cI st0) hP hD [0] [] rfl rfl (by decide) (by decide) hk1 hFc hP1 hD1
  replace hP2 : va_P D vwCl (wP a cZ cI st0) H1 := hP2
  replace hD2 : va_D (lwA s) (wP a cZ cI st0) := hD2
  have hK2 : va_K D vwCl [(cZ, .boolean), (cI, .int)] s := hK.app hK1
  subst hw
  clear hP hD hS hFc hP1 hD1 hK1 hk1 hz1 ht hvm hK
  refine lv_astore_n (lv' := [(1, .ref (a 0)), (0, .ref b)]) hx hb dL_law_7 rfl hl (by decide) rfl (fun ls1 hl1 => ?_)
  refine va_new (ci := 10) (fs := [.null, .null, .null, .null, .null, .null, .null, .null, .null, .null]) (C := RX10) (T := TX10) (N := 10) hx hb hts inX10 tyX10 tyX10_ok hown (hts (.classLink RL 9 RX10) (by decide +kernel)) (hts (.instantiable RX10 10) (by decide +kernel)) (hts (.initialized RX10) (by decide +kernel)) hK2 hP2 hD2 hS1 hA rfl (fun j hj => match j, hj with | 0, _ => rfl | 1, _ => rfl | 2, _ => rfl | 3, _ => rfl | 4, _ => rfl | 5, _ => rfl | 6, _ => rfl | 7, _ => rfl | 8, _ => rfl | 9, _ => rfl | n + 10, h => absurd h (by omega)) (Nat.le_of_ble_eq_true rfl) (Nat.le_of_ble_eq_true rfl) dL_law_8 (fun q1 H2 hP3 hD3 hS2 => ?_)
  refine lv_dup hx hb dL_law_11 rfl ?_
  have hPc := hP3.sub (ws' := [(q1, .inr (10, [.null, .null, .null, .null, .null, .null, .null, .null, .null, .null]))]) [13] rfl
  have hDc := hD3.sub (ws' := [(q1, .inr (10, [.null, .null, .null, .null, .null, .null, .null, .null, .null, .null]))]) [13] (by decide) rfl
  have hKc := hK2.sub (tys' := []) [] rfl
  have hFc := va_free (wc := [(q1, .inr (10, [.null, .null, .null, .null, .null, .null, .null, .null, .null, .null]))]) hD3 hS2 hA [13] rfl
  refine va_callv (va_runI (As := []) (rest := [.ref q1]) ⟨hx, hb, hml, hown, htsL⟩ (k_X10_init l D q1 H2.size) (cwI 0 htsL gL_law_X10_init rfl rfl rfl (hts (.initialized RX10) (by decide +kernel)) (hts (.methodLink RL 133 yX10_init) (by decide +kernel)) (hts (.instanceMethod yX10_init) (by decide +kernel)) rfl (by decide +kernel) ⟨Nat.le_of_ble_eq_true rfl, Nat.le_of_ble_eq_true rfl⟩) ⟨blW okN_C, preW hPc hKc hDc okN_C hNC⟩ rfl rfl hl1.1 rfl (lv_room (Nat.le_of_ble_eq_true rfl)) dL_law_12 ⟨Nat.le_of_ble_eq_true rfl, Nat.le_of_ble_eq_true rfl⟩) hS2 (fun q _ h => hFc q h) hFc (fun u t H3 L3 ht hvm hw hB hz1 hk1 hS3 => ?_)
  obtain ⟨hP1, hK1, hD1⟩ := hB
  rw [ht] at hP1
  replace hK1 := va_K.moved hvm.symm hK1
  obtain ⟨b2, cZ2, cI2⟩ := u
  replace hw : b2 0 = q1 := hw
  obtain ⟨hP4, hD4⟩ := va_join (wr := wP a cZ cI st0) (w1 := wP b2 cZ2 cI2 st0) hP3 hD3 [13] [0, 1, 2, 3, 4, 5, 6, 7, 8, 9, 10, 11, 12] rfl rfl (by decide) (by decide) hk1 hFc hP1 hD1
  have hK3 : va_K D vwCl [(cZ, .boolean), (cI, .int), (cZ2, .boolean), (cI2, .int)] s := hK2.app hK1
  subst hw
  clear hP3 hD3 hS2 hFc hP1 hD1 hK1 hk1 hz1 ht hvm hPc hDc hKc hP2 hD2 hS1
  refine lv_astore_n (lv' := [(2, .ref (b2 0)), (1, .ref (a 0)), (0, .ref b)]) hx hb dL_law_15 rfl hl1 (by decide) rfl (fun ls2 hl2 => ?_)
  refine lv_iconst (v := 0) hx hb dL_law_16 (by decide) ?_
  refine lv_istore_n (lv' := [(3, .int 0), (2, .ref (b2 0)), (1, .ref (a 0)), (0, .ref b)]) hx hb dL_law_17 rfl hl2 (by decide) rfl (fun ls3 hl3 => ?_)
  refine W.widen (k := 26 + 190 * 0) (n := 674 + 1200 * 0) (by decide) (by decide) ?_
  exact law9_loop ⟨C0, h5, hfl, hNY, hZ, hK3, hD4⟩ 56 0 rfl H3 _ ls3 hP4 hS3 hS3.1 hl3
end
section
set_option maxHeartbeats 4000000 in
theorem lw_walk (l : Launch) (hflags : l.flags = flags0) (b : Addr) (xs : List Int32) (hL : xs.length = 56) (h5 : ∀ k, k < 56 → xs.getD k 0 = 5) : MetFree l x (headSpec (Jvm.Cond.code x code maxLocals ret :: tables_1) room_9) (lw_P b xs) (fun _ _ _ _ _ => True) lw_Q := by
  refine MetFree.of_bodyS (code := code) (maxLocals := maxLocals) (ret := ret) (by decide) ?_ ?_
  · intro args s m h hn
    obtain ⟨meth, c, h1, h2, h3, h4, h5, h6, -, -⟩ := Cond.code_spec hn (atoms_spec (ws := Jvm.Cond.code x code maxLocals ret :: tables_1) h _ List.mem_cons_self)
    exact ⟨meth, c, h1, h2, h3, h4, h5, h6⟩
  · intro p e s m args below meth c s₁ B hml0 hP _
    obtain ⟨rfl, hx, hbd, hgv⟩ := hP
    obtain ⟨scr, harrAt, hlist, hof, hsmall⟩ := hx
    obtain ⟨hcb, hkn, -, -⟩ := State.arrayAt?_spec harrAt
    have hown : s.vm.findClass RL = some m.cls := findClass_of_methodNamed B.named
    have hts0 : ∀ c ∈ (Jvm.Cond.code x code maxLocals ret :: tables_1), c.before #[Value.ref b] s = true := atoms_spec (ws := Jvm.Cond.code x code maxLocals ret :: tables_1) B.pre
    have hts : ∀ w ∈ lw_tbl, w.before #[Value.ref b] s = true := k2_hts_sels lw_privs (fun w hw => hts0 w (List.mem_cons_of_mem _ hw)) lw_privs_ok
    have hml : c.maxLocals = 6 := B.maxLocals_eq (hts0 _ List.mem_cons_self)
    have X₀ : Stand p l e room_9 s m #[Value.ref b] below meth c s₁ [] 0 0 := Stand.of_body B
    have hh0 : s₁.heap = s.heap := by rw [B.state]; rfl
    have hsz : scr.slots.size = xs.length := by rw [← Array.length_toList, hlist, List.length_map]
    have hval : ∀ j : Nat, j < xs.length → scr.slots[j]? = some (.int (xs.getD j 0)) := fun j hj => by
      rw [← Array.getElem?_toList, hlist]
      simp [hj]
    have hbl : b < s.heap.size := (Array.getElem?_eq_some_iff.mp hcb).1
    have hX : va_X b xs.length (fun j => xs.getD j 0) s s.heap := ⟨scr, hcb, hof, hkn, hsz, hval⟩
    have K : W p l e room_9 s m #[Value.ref b] below meth c s₁.heap [] 0 0 (lw_Z below #[Value.ref b] s) (entryFrame m ([Value.ref b] : List Value).toArray 6) := by
      rw [hh0]
      exact start9 l hflags h5 ⟨B.exec, B.bytes, B.returns, hml, hown, hts, hL ▸ hX, hbl, B.notSynchronized, hgv⟩
    obtain ⟨t, a1, o, b1, b2, b3⟩ := K s₁ rfl X₀
    exact ⟨t, o, a1, b1, b2, b3⟩
end
section
theorem lw_pre_spec {args : Array Value} {s : State} (h : (Jvm.Cond.and given_1 narrow_1).before args s = true) (hr : rest_1_c.before args s = true) : ∃ (b : Addr) (xs : List Int32), lw_P b xs args s := by
  have hs := flat_of_before _ h
  have hq := flat_of_before _ hr
  have hc : (Cond.count 1).before args s = true := hs _ (by decide +kernel)
  have harr : (Cond.arrayOf (.arg 0) .int).before args s = true := hs _ (by decide +kernel)
  have hle : (Cond.le (.length (.arg 0)) (.int 260)).before args s = true := hs _ (by decide +kernel)
  have hlen : (Cond.isInt (.length (.arg 0))).before args s = true := hq _ (by decide +kernel)
  have hall : (Cond.all (.arg 0) (.isInt (.elem (.arg 0) (.index 0)))).before args s = true := hq _ (by decide +kernel)
  obtain ⟨b, xs, hb, hx⟩ := State.ints_of_pre rfl harr hlen hall
  have hsm : xs.length < 2 ^ 31 := hx.choose_spec.2.2.2
  have hev : (Term.length (.arg 0)).eval args s none [] s = some (.int xs.length.toInt32) := hx.length_eval hb
  have hv := Cond.le_ints hev (show (Term.int 260).eval args s none [] s = some (.int 260) from rfl)
  have hd : xs.length.toInt32 ≤ 260 := by
    simpa [Cond.before, Cond.holds, hv] using hle
  have hN : xs.length ≤ 260 := (Int32.ofNat_le_ofNat hsm (by decide)).mp (show Int32.ofNat xs.length ≤ Int32.ofNat 260 from hd)
  exact ⟨b, xs, Cond.one_arg hc (show args[0]? = some (.ref b) from hb), hx, hN, h⟩
/-! THE START: the printed witness's state, with a script of 56 fives (release, 56 times) in the stead of its own -/
def script9 : Array Value := (List.replicate 56 (Value.int 5)).toArray
def about9 : State := start1.aboutOf script9
theorem warm9 : start1.about.WarmedH about9.vm := State.WarmedH.refl start1.about
set_option maxRecDepth 100000 in
set_option maxHeartbeats 4000000 in
theorem rest9_1 : tables_1_1.all (fun c => goodWord c || c.before start1.args0 about9) = true := by decide +kernel
set_option maxRecDepth 100000 in
set_option maxHeartbeats 4000000 in
theorem rest9_2 : tables_1_2.all (fun c => goodWord c || c.before start1.args0 about9) = true := by decide +kernel
set_option maxRecDepth 100000 in
set_option maxHeartbeats 4000000 in
theorem rest9_3 : tables_1_3.all (fun c => goodWord c || c.before start1.args0 about9) = true := by decide +kernel
theorem word9 {c : Cond} (hb : c.before start1.args0 start1.about = true) (h : (goodWord c || c.before start1.args0 about9) = true) : c.before start1.args0 about9 = true := by
  cases hg : goodWord c with
  | true => exact word_at warm9 (good_of_word hg) hb
  | false => rw [hg] at h; exact h
theorem words9 : ∀ c ∈ (Cond.code x code maxLocals ret :: tables_1), c.before start1.args0 about9 = true := by
  intro c hc
  have hb := start1.words c hc
  rcases List.mem_cons.mp hc with h | h
  · subst h
    exact word_at warm9 (good_of_word (by rfl)) hb
  · refine word9 hb ?_
    have h1 : c ∈ tables_1_1 ++ (tables_1_2 ++ tables_1_3) := h
    rcases List.mem_append.mp h1 with h2 | h1
    · exact List.all_eq_true.mp rest9_1 c h2
    rcases List.mem_append.mp h1 with h2 | h1
    · exact List.all_eq_true.mp rest9_2 c h2
    · exact List.all_eq_true.mp rest9_3 c h1
set_option maxRecDepth 100000 in
set_option maxHeartbeats 4000000 in
theorem rest9 : rest_1_c.before start1.args0 about9 = true := by decide +kernel
set_option maxRecDepth 100000 in
set_option maxHeartbeats 4000000 in
theorem given9 : (Cond.and given_1 narrow_1).before start1.args0 about9 = true := by decide +kernel
set_option maxRecDepth 100000 in
set_option maxHeartbeats 4000000 in
theorem fits9 : heapFits about9 = true := by decide +kernel
set_option maxRecDepth 100000 in
set_option maxHeartbeats 4000000 in
theorem args9 : argsFit about9.vm ⟨0, 0⟩ start1.args0 = true := by decide +kernel
set_option maxRecDepth 100000 in
set_option maxHeartbeats 4000000 in
theorem applies9_1 : (headSpec (Cond.code x code maxLocals ret :: tables_1) room_1).applies x start1.e0.platform about9 = true :=
  (Spec.applies_iff rfl).mpr ⟨rfl, rfl, rfl, by decide +kernel, by decide +kernel, by decide +kernel, launch0.hasRoom_least _ room_1 (by decide +kernel) (by decide +kernel) (by decide +kernel) (by decide +kernel) (by decide +kernel) (by decide +kernel), atoms_intro words9⟩
set_option maxRecDepth 100000 in
set_option maxHeartbeats 4000000 in
theorem applies9_9 : (headSpec (Cond.code x code maxLocals ret :: tables_1) room_9).applies x start1.e0.platform about9 = true :=
  (Spec.applies_iff rfl).mpr ⟨rfl, rfl, rfl, by decide +kernel, by decide +kernel, by decide +kernel, launch0.hasRoom_least _ room_9 (by decide +kernel) (by decide +kernel) (by decide +kernel) (by decide +kernel) (by decide +kernel) (by decide +kernel), atoms_intro words9⟩
theorem atStart9 : AtStart classFile x code maxLocals ret World_1 tables_1 room_1 Calls_1 rest_1 Pre_1 launch0 start1.p0 start1.e0 about9 ⟨0, 0⟩ start1.args0 Lib.HandBits.below0 :=
  ⟨lists_1, trivial, launch0.admits_env _ _ _, launch0.least_env, fairChoices_fair.cas, fairChoices_fair.clock, rfl, args9, fits9, applies9_1, trivial, rest9, given9⟩
/-- the script is one of 56 fives -/
def unInt9 : Value → Int32
  | .int v => v
  | _ => 0
theorem fives9 {b : Addr} {xs : List Int32} (h : lw_P b xs start1.args0 about9) : xs.length = 56 ∧ ∀ k, k < 56 → xs.getD k 0 = 5 := by
  obtain ⟨h1, ⟨cell, h2, h3, -⟩, -, -⟩ := h
  have hb : b = 0 := by
    have q : (#[Value.ref 0] : Array Value) = #[Value.ref b] := h1
    have q2 := congrArg (fun z : Array Value => z[0]?) q
    simp at q2
    exact q2.symm
  subst hb
  obtain ⟨h4, -⟩ := State.arrayAt?_spec h2
  have h5 : about9.heap[0]? = some { cls := 23, slots := script9, vm := .none } := rfl
  have h6 : cell.slots = script9 := by
    have q := h4.symm.trans h5
    cases q
    rfl
  rw [h6] at h3
  have h7 : xs = List.replicate 56 5 := by
    have q := congrArg (List.map unInt9) h3
    rw [List.map_map] at q
    have e : (unInt9 ∘ Value.int) = id := rfl
    rw [e, List.map_id] at q
    exact q.symm
  subst h7
  refine ⟨rfl, fun k hk => ?_⟩
  rw [List.getD_eq_getElem?_getD, List.getElem?_replicate, if_pos hk]
  rfl
/-- what the run comes to: true, behind at least 210 new objects and arrays -/
theorem run9 : ∃ (n : Nat) (o : Outcome), (∀ k, k < n → Within (stepsAlone start1.p0.tables start1.e0 k about9) Lib.HandBits.below0) ∧ (stepsAlone start1.p0.tables start1.e0 n about9).status = .running ∧ Ended (stepsAlone start1.p0.tables start1.e0 n about9) Lib.HandBits.below0 o ∧ o = .returned (some (.int 1)) ∧ about9.heap.size + 210 ≤ (stepsAlone start1.p0.tables start1.e0 n about9).heap.size := by
  obtain ⟨b, xs, hP⟩ := lw_pre_spec given9 rest9
  obtain ⟨hL, h5⟩ := fives9 hP
  obtain ⟨n, o, h1, h2, h3, h4, h6⟩ := lw_walk launch0 rfl b xs hL h5 start1.p0 start1.e0 (launch0.admits_env _ _ _) fairChoices_fair.cas fairChoices_fair.clock about9 ⟨0, 0⟩ start1.args0 Lib.HandBits.below0 rfl ((Spec.applies_iff_loose rfl).mp applies9_9).1 hP trivial
  exact ⟨n, o, h1, h2, h3, h4, h6⟩
/-- so many cells no frame of 209 holds -/
theorem noFrame9 {o : Outcome} {t : State} {L : List Loc} (h : about9.heap.size + 210 ≤ t.heap.size) : ¬ Framed about9 o t L 209 2116 := by
  rintro ⟨-, -, -, -, q, -⟩
  have q2 : t.heap.size ≤ about9.heap.size + 209 := q
  omega
theorem refuted_1_1 : RefutedClaimed_1_1 := by
  obtain ⟨n, o, h1, h2, h3, h4, h5⟩ := run9
  exact ⟨launch0, start1.p0, start1.e0, about9, ⟨0, 0⟩, start1.args0, Lib.HandBits.below0, rfl, atStart9, n, o, h1, h2, h3, fun q => noFrame9 h5 q.2⟩
theorem refuted_1_2 : RefutedClaimed_1_2 := by
  obtain ⟨n, o, h1, h2, h3, h4, h5⟩ := run9
  exact ⟨launch0, start1.p0, start1.e0, about9, ⟨0, 0⟩, start1.args0, Lib.HandBits.below0, rfl, atStart9, n, o, h1, h2, h3, fun q => noFrame9 h5 q.2⟩
/-- no contract of the law holds that promises a frame of 209 cells: its run is the one above -/
theorem noArm9 {P : Tables → Env → Array Value → State → Outcome → State → Prop} (hP : ∀ tb e a o t, P tb e a about9 o t → ∃ L, Framed about9 o t L 209 2116) : ¬ ArmFor flags0 classFile x code maxLocals ret World_1 tables_1 room_1 Calls_1 rest_1 Pre_1 P := by
  intro h
  obtain ⟨n, o, h1, h2, h3, h4, h5⟩ := run9
  obtain ⟨n2, o2, g1, g2, g3, g4⟩ := h launch0 rfl lists_1 trivial start1.p0 start1.e0 (launch0.admits_env _ _ _) fairChoices_fair.cas fairChoices_fair.clock about9 ⟨0, 0⟩ start1.args0 Lib.HandBits.below0 rfl args9 fits9 applies9_1 ⟨trivial, rest9, given9⟩
  have e : n = n2 := by
    rcases Nat.lt_trichotomy n n2 with q | q | q
    · exact absurd (g1 n q) h3.not_within
    · exact q
    · exact absurd (h1 n2 q) g3.not_within
  subst e
  obtain ⟨L, hF⟩ := hP _ _ _ _ _ g4
  exact noFrame9 h5 hF
/-- p31's first owed half is false, the law returning behind more cells than the claim has room for -/
theorem false_1_1 : ¬ Claimed_1_1 := noArm9 fun _ _ _ _ _ q => ⟨_, q.2⟩
theorem false_1_2 : ¬ Claimed_1_2 := noArm9 fun _ _ _ _ _ q => ⟨_, q.2⟩
theorem p31_false : ¬ (Claimed_1_1 ∧ Claimed_1_2) := fun h => false_1_1 h.1
end
