section
-- ===== PART A: goes FIRST, ahead of the names: the tables' words, and 'selects' of the private methods out of them =====
/-- a private method of a class that the tables say can be made, by its rows of tables_1 -/
def lw_okq (q : MethodName × Nat) : Prop := (q.1.cls ≠ "java/lang/invoke/MethodHandle" ∧ q.1.cls ≠ "java/lang/invoke/VarHandle") ∧ Cond.instantiable q.1.cls q.2 ∈ tables_1 ∧ Cond.privateMethod q.1 ∈ tables_1 ∧ Cond.instanceMethod q.1 ∈ tables_1
theorem lw_p0 : lw_okq (⟨"java/lang/Throwable", "fillInStackTrace", "(I)Ljava/lang/Throwable;"⟩, 6) := ⟨⟨by decide +kernel, by decide +kernel⟩, List.mem_of_getElem? (i := 430) (by decide +kernel), List.mem_of_getElem? (i := 428) (by decide +kernel), List.mem_of_getElem? (i := 429) (by decide +kernel)⟩
theorem lw_p1 : lw_okq (⟨"Phaselock", "passTick", "()V"⟩, 10) := ⟨⟨by decide +kernel, by decide +kernel⟩, List.mem_of_getElem? (i := 22) (by decide +kernel), List.mem_of_getElem? (i := 503) (by decide +kernel), List.mem_of_getElem? (i := 504) (by decide +kernel)⟩
theorem lw_p2 : lw_okq (⟨"Phaselock$Transmitter", "drawDeviation", "()I"⟩, 7) := ⟨⟨by decide +kernel, by decide +kernel⟩, List.mem_of_getElem? (i := 30) (by decide +kernel), List.mem_of_getElem? (i := 511) (by decide +kernel), List.mem_of_getElem? (i := 512) (by decide +kernel)⟩
theorem lw_p3 : lw_okq (⟨"Phaselock$Transmitter", "sendNextBit", "()V"⟩, 7) := ⟨⟨by decide +kernel, by decide +kernel⟩, List.mem_of_getElem? (i := 30) (by decide +kernel), List.mem_of_getElem? (i := 520) (by decide +kernel), List.mem_of_getElem? (i := 521) (by decide +kernel)⟩
theorem lw_p4 : lw_okq (⟨"Phaselock$Transmitter", "shiftRegister", "()I"⟩, 7) := ⟨⟨by decide +kernel, by decide +kernel⟩, List.mem_of_getElem? (i := 30) (by decide +kernel), List.mem_of_getElem? (i := 524) (by decide +kernel), List.mem_of_getElem? (i := 525) (by decide +kernel)⟩
theorem lw_p5 : lw_okq (⟨"Phaselock$Oscillator", "hasPassed", "(II)Z"⟩, 1) := ⟨⟨by decide +kernel, by decide +kernel⟩, List.mem_of_getElem? (i := 90) (by decide +kernel), List.mem_of_getElem? (i := 554) (by decide +kernel), List.mem_of_getElem? (i := 555) (by decide +kernel)⟩
theorem lw_p6 : lw_okq (⟨"Phaselock", "actOnStrobe", "(I)V"⟩, 10) := ⟨⟨by decide +kernel, by decide +kernel⟩, List.mem_of_getElem? (i := 22) (by decide +kernel), List.mem_of_getElem? (i := 559) (by decide +kernel), List.mem_of_getElem? (i := 560) (by decide +kernel)⟩
theorem lw_p7 : lw_okq (⟨"Phaselock", "actOnDataStrobe", "()V"⟩, 10) := ⟨⟨by decide +kernel, by decide +kernel⟩, List.mem_of_getElem? (i := 22) (by decide +kernel), List.mem_of_getElem? (i := 591) (by decide +kernel), List.mem_of_getElem? (i := 592) (by decide +kernel)⟩
theorem lw_p8 : lw_okq (⟨"Phaselock$PhaseDetector", "measureBangBang", "(ILPhaselock$BitLog;)I"⟩, 7) := ⟨⟨by decide +kernel, by decide +kernel⟩, List.mem_of_getElem? (i := 101) (by decide +kernel), List.mem_of_getElem? (i := 599) (by decide +kernel), List.mem_of_getElem? (i := 600) (by decide +kernel)⟩
theorem lw_p9 : lw_okq (⟨"Phaselock$Aligner", "verify", "(Z)V"⟩, 6) := ⟨⟨by decide +kernel, by decide +kernel⟩, List.mem_of_getElem? (i := 215) (by decide +kernel), List.mem_of_getElem? (i := 633) (by decide +kernel), List.mem_of_getElem? (i := 634) (by decide +kernel)⟩
theorem lw_p10 : lw_okq (⟨"Phaselock$Aligner", "watchSync", "(Z)V"⟩, 6) := ⟨⟨by decide +kernel, by decide +kernel⟩, List.mem_of_getElem? (i := 215) (by decide +kernel), List.mem_of_getElem? (i := 637) (by decide +kernel), List.mem_of_getElem? (i := 638) (by decide +kernel)⟩
theorem lw_p11 : lw_okq (⟨"PhaselockModel", "holds", "(I)Z"⟩, 37) := ⟨⟨by decide +kernel, by decide +kernel⟩, List.mem_of_getElem? (i := 704) (by decide +kernel), List.mem_of_getElem? (i := 834) (by decide +kernel), List.mem_of_getElem? (i := 835) (by decide +kernel)⟩
theorem lw_p12 : lw_okq (⟨"PhaselockModel", "passes", "()V"⟩, 37) := ⟨⟨by decide +kernel, by decide +kernel⟩, List.mem_of_getElem? (i := 704) (by decide +kernel), List.mem_of_getElem? (i := 862) (by decide +kernel), List.mem_of_getElem? (i := 863) (by decide +kernel)⟩
theorem lw_p13 : lw_okq (⟨"PhaselockModel", "transmits", "()V"⟩, 37) := ⟨⟨by decide +kernel, by decide +kernel⟩, List.mem_of_getElem? (i := 704) (by decide +kernel), List.mem_of_getElem? (i := 866) (by decide +kernel), List.mem_of_getElem? (i := 867) (by decide +kernel)⟩
theorem lw_p14 : lw_okq (⟨"PhaselockModel", "sends", "()V"⟩, 37) := ⟨⟨by decide +kernel, by decide +kernel⟩, List.mem_of_getElem? (i := 704) (by decide +kernel), List.mem_of_getElem? (i := 875) (by decide +kernel), List.mem_of_getElem? (i := 876) (by decide +kernel)⟩
theorem lw_p15 : lw_okq (⟨"PhaselockModel", "strobes", "(I)V"⟩, 37) := ⟨⟨by decide +kernel, by decide +kernel⟩, List.mem_of_getElem? (i := 704) (by decide +kernel), List.mem_of_getElem? (i := 881) (by decide +kernel), List.mem_of_getElem? (i := 882) (by decide +kernel)⟩
def lw_privs_1 : List (MethodName × Nat) := [(⟨"java/lang/Throwable", "fillInStackTrace", "(I)Ljava/lang/Throwable;"⟩, 6), (⟨"Phaselock", "passTick", "()V"⟩, 10), (⟨"Phaselock$Transmitter", "drawDeviation", "()I"⟩, 7), (⟨"Phaselock$Transmitter", "sendNextBit", "()V"⟩, 7), (⟨"Phaselock$Transmitter", "shiftRegister", "()I"⟩, 7), (⟨"Phaselock$Oscillator", "hasPassed", "(II)Z"⟩, 1), (⟨"Phaselock", "actOnStrobe", "(I)V"⟩, 10), (⟨"Phaselock", "actOnDataStrobe", "()V"⟩, 10), (⟨"Phaselock$PhaseDetector", "measureBangBang", "(ILPhaselock$BitLog;)I"⟩, 7), (⟨"Phaselock$Aligner", "verify", "(Z)V"⟩, 6), (⟨"Phaselock$Aligner", "watchSync", "(Z)V"⟩, 6), (⟨"PhaselockModel", "holds", "(I)Z"⟩, 37), (⟨"PhaselockModel", "passes", "()V"⟩, 37), (⟨"PhaselockModel", "transmits", "()V"⟩, 37), (⟨"PhaselockModel", "sends", "()V"⟩, 37), (⟨"PhaselockModel", "strobes", "(I)V"⟩, 37)]
theorem lw_r1 : ∀ q ∈ lw_privs_1, lw_okq q := List.forall_mem_cons.mpr ⟨lw_p0, List.forall_mem_cons.mpr ⟨lw_p1, List.forall_mem_cons.mpr ⟨lw_p2, List.forall_mem_cons.mpr ⟨lw_p3, List.forall_mem_cons.mpr ⟨lw_p4, List.forall_mem_cons.mpr ⟨lw_p5, List.forall_mem_cons.mpr ⟨lw_p6, List.forall_mem_cons.mpr ⟨lw_p7, List.forall_mem_cons.mpr ⟨lw_p8, List.forall_mem_cons.mpr ⟨lw_p9, List.forall_mem_cons.mpr ⟨lw_p10, List.forall_mem_cons.mpr ⟨lw_p11, List.forall_mem_cons.mpr ⟨lw_p12, List.forall_mem_cons.mpr ⟨lw_p13, List.forall_mem_cons.mpr ⟨lw_p14, List.forall_mem_cons.mpr ⟨lw_p15, fun _ h => absurd h List.not_mem_nil⟩⟩⟩⟩⟩⟩⟩⟩⟩⟩⟩⟩⟩⟩⟩⟩
theorem lw_p16 : lw_okq (⟨"PhaselockModel", "levelNow", "()I"⟩, 37) := ⟨⟨by decide +kernel, by decide +kernel⟩, List.mem_of_getElem? (i := 704) (by decide +kernel), List.mem_of_getElem? (i := 885) (by decide +kernel), List.mem_of_getElem? (i := 886) (by decide +kernel)⟩
theorem lw_p17 : lw_okq (⟨"PhaselockModel", "measures", "(I)V"⟩, 37) := ⟨⟨by decide +kernel, by decide +kernel⟩, List.mem_of_getElem? (i := 704) (by decide +kernel), List.mem_of_getElem? (i := 892) (by decide +kernel), List.mem_of_getElem? (i := 893) (by decide +kernel)⟩
theorem lw_p18 : lw_okq (⟨"PhaselockModel", "receives", "()V"⟩, 37) := ⟨⟨by decide +kernel, by decide +kernel⟩, List.mem_of_getElem? (i := 704) (by decide +kernel), List.mem_of_getElem? (i := 901) (by decide +kernel), List.mem_of_getElem? (i := 902) (by decide +kernel)⟩
theorem lw_p19 : lw_okq (⟨"PhaselockModel", "measured", "()I"⟩, 37) := ⟨⟨by decide +kernel, by decide +kernel⟩, List.mem_of_getElem? (i := 704) (by decide +kernel), List.mem_of_getElem? (i := 905) (by decide +kernel), List.mem_of_getElem? (i := 906) (by decide +kernel)⟩
theorem lw_p20 : lw_okq (⟨"PhaselockModel", "aligns", "()V"⟩, 37) := ⟨⟨by decide +kernel, by decide +kernel⟩, List.mem_of_getElem? (i := 704) (by decide +kernel), List.mem_of_getElem? (i := 909) (by decide +kernel), List.mem_of_getElem? (i := 910) (by decide +kernel)⟩
theorem lw_p21 : lw_okq (⟨"PhaselockModel", "recent", "()I"⟩, 37) := ⟨⟨by decide +kernel, by decide +kernel⟩, List.mem_of_getElem? (i := 704) (by decide +kernel), List.mem_of_getElem? (i := 957) (by decide +kernel), List.mem_of_getElem? (i := 958) (by decide +kernel)⟩
theorem lw_p22 : lw_okq (⟨"PhaselockModel", "costOf", "(I)I"⟩, 37) := ⟨⟨by decide +kernel, by decide +kernel⟩, List.mem_of_getElem? (i := 704) (by decide +kernel), List.mem_of_getElem? (i := 997) (by decide +kernel), List.mem_of_getElem? (i := 998) (by decide +kernel)⟩
def lw_privs_2 : List (MethodName × Nat) := [(⟨"PhaselockModel", "levelNow", "()I"⟩, 37), (⟨"PhaselockModel", "measures", "(I)V"⟩, 37), (⟨"PhaselockModel", "receives", "()V"⟩, 37), (⟨"PhaselockModel", "measured", "()I"⟩, 37), (⟨"PhaselockModel", "aligns", "()V"⟩, 37), (⟨"PhaselockModel", "recent", "()I"⟩, 37), (⟨"PhaselockModel", "costOf", "(I)I"⟩, 37)]
theorem lw_r2 : ∀ q ∈ lw_privs_2, lw_okq q := List.forall_mem_cons.mpr ⟨lw_p16, List.forall_mem_cons.mpr ⟨lw_p17, List.forall_mem_cons.mpr ⟨lw_p18, List.forall_mem_cons.mpr ⟨lw_p19, List.forall_mem_cons.mpr ⟨lw_p20, List.forall_mem_cons.mpr ⟨lw_p21, List.forall_mem_cons.mpr ⟨lw_p22, fun _ h => absurd h List.not_mem_nil⟩⟩⟩⟩⟩⟩⟩
def lw_privs : List (MethodName × Nat) := lw_privs_1 ++ (lw_privs_2)
def lw_tbl : List Cond := k2_sels lw_privs ++ tables_1
theorem lw_privs_ok : ∀ q ∈ lw_privs, lw_okq q := by
  show ∀ q ∈ lw_privs_1 ++ (lw_privs_2), lw_okq q
  exact List.forall_mem_append.mpr ⟨lw_r1, lw_r2⟩
-- ===== end of PART A; then your names; then what follows =====
end
section
/-! ===== BEGIN words of one list among another's, by their places ===== -/
theorem goodIn_r {big : List Cond} (ws : List Cond) (ps : List Nat) (hp : ws = ps.filterMap (fun i => big[i]?)) (h : ws.all goodWord = true) : GoodIn big ws := by
  intro w hw
  have h1 := List.all_eq_true.mp h w hw
  rw [hp] at hw
  obtain ⟨i, -, hi⟩ := List.mem_filterMap.mp hw
  have hm : w ∈ big := by first | exact List.mem_of_getElem? hi | exact List.getElem?_mem hi
  exact ⟨hm, good_of_word h1⟩
theorem goodIn_app {big a b : List Cond} (ha : GoodIn big a) (hb : GoodIn big b) : GoodIn big (a ++ b) := fun w h => (List.mem_append.mp h).elim (ha w) (hb w)
theorem goodIn_ca {big a b : List Cond} {c : Cond} (ha : GoodIn big (c :: a)) (hb : GoodIn big b) : GoodIn big (c :: (a ++ b)) := fun w h => (List.mem_cons.mp h).elim (fun e => ha w (List.mem_cons.mpr (Or.inl e))) (fun h => (List.mem_append.mp h).elim (fun h => ha w (List.mem_cons.mpr (Or.inr h))) (hb w))
theorem goodIn_sub {big ws : List Cond} (hm : ∀ w ∈ ws, w ∈ big) (h : ws.all goodWord = true) : GoodIn big ws := fun w hw => ⟨hm w hw, good_of_word (List.all_eq_true.mp h w hw)⟩
/-! ===== END ===== -/

/-! ===== BEGIN exceptions that leave a method, and their catching by the caller (launches without stack traces) ===== -/
section VXA
/-! The laws vx_back, vx_callV, vx_callS, vx_callSW, vx_throw0, vx_throwS follow proofs of the library, with one case more: JvmDerived/Free/Laws.lean (Back.of_free), Shelf42/LK1.lean (callV, callS), Shelf/KitTraced.lean (throwNew0V, throwNewS). -/
/-- where a method has thrown q: the class by its name, the cell, what was written, the world -/
def vx_T (XC : String → State → State → Prop) (st : State) (q : Addr) (t : State) (mc ms : Nat) (free : Addr → Prop) : Prop :=
  ∃ (E : String) (ce : Cell) (L : List Loc), XC E st t ∧ t.heap[q]? = some ce ∧ ce.vm = .none ∧ st.vm.findClass E = some ce.cls ∧ st.WarmedH t.vm ∧ st.sameButNew ({ t with vm := st.vm } : State) L mc ms ∧ ∀ z ∈ L, free z.base
def vx_Q (Qc : Array Value → State → Outcome → State → Prop) (XC : String → State → State → Prop) (mc ms : Nat) (free : Addr → Prop) : Array Value → State → Outcome → State → Prop := fun a st o t =>
  (Qc a st o t ∧ ∃ L, FrameEnd st o t L mc ms ∧ ∀ q ∈ L, free q.base) ∨ ∃ q, o = .threw q ∧ vx_T XC st q t mc ms free
/-- a callee that returns or throws -/
def vx_Met (l : Launch) (y : MethodName) (ws : List Cond) (rm : Room) (Pc : Array Value → State → Prop) (Qc : Array Value → State → Outcome → State → Prop) (XC : String → State → State → Prop) (mc ms : Nat) (free : Addr → Prop) : Prop :=
  MetFree l y (headSpec ws rm) Pc (fun _ _ _ _ _ => True) (vx_Q Qc XC mc ms free)
def vx_Post (XC : String → State → State → Prop) (mc ms : Nat) (free : Addr → Prop) : Pt → Array Value → Addr → Pt → Prop := fun A a q B =>
  ∃ (g : JFrame) (mk : MethodId) (t : State) (L : List Loc) (E : String) (ce : Cell), B.U.heap = t.heap ∧ B.U.vm = t.vm ∧ XC E (A.U.calling g mk a) t ∧ t.heap[q]? = some ce ∧ ce.vm = .none ∧ A.U.vm.findClass E = some ce.cls ∧ B.locs = A.locs ++ L ∧ (∀ z ∈ L, free z.base) ∧ B.cells = A.cells + mc ∧ B.slots = A.slots + ms
def vx_Back (l : Launch) (R : Room) (p : Program) (e : Env) (below : List Frame) (s : State) (sargs : Array Value) (y : MethodName) (len W9 : Nat)
    (Pre : Pt → Array Value → Prop) (Post : Pt → Array Value → Option Value → Pt → Prop) (PostX : Pt → Array Value → Addr → Pt → Prop) : Prop :=
  ∀ (m : MethodId) (meth : Method) (c : Code) (A : Pt) (g : JFrame) (ig : Instr) (mk : MethodId) (a : Array Value),
    Stand p l e R s m sargs below meth c A.U A.locs A.cells A.slots → g.method = m → g.locals.size = c.maxLocals → decode c.code g.pc = .ok (ig, len) →
    2 * g.monitorRoom + (g.stack.map fun v => v.category).sum ≤ W9 → A.U.methodNamed? y = some mk → Pre A a →
    (∃ (v : Option Value) (B : Pt), Stand p l e R s m sargs below meth c B.U B.locs B.cells B.slots ∧ Post A a v B ∧
      Steps p.tables e below (doInvoke e (A.U.setTop g) [] mk a).1 (B.U.setTop { g with pc := g.pc + len, stack := v.toList ++ g.stack })) ∨
    (∃ (q : Addr) (B : Pt), Stand p l e R s m sargs below meth c B.U B.locs B.cells B.slots ∧ PostX A a q B ∧
      Steps p.tables e below (doInvoke e (A.U.setTop g) [] mk a).1 ((B.U.setTop g).pushFrame (.throwing q)))
section Payer
variable {l : Launch} {R : Room} {p : Program} {e : Env} {below : List Frame} {s : State} {sargs : Array Value} {y : MethodName} {len W9 : Nat}
theorem vx_back {ws : List Cond} {rm : Room} {Pc : Array Value → State → Prop} {Qc : Array Value → State → Outcome → State → Prop} {XC : String → State → State → Prop} {mc ms : Nat} {free : Addr → Prop} {bytes : ByteArray} {maxL : Nat} {ret : Option FieldType}
    (hM : vx_Met l y ws rm Pc Qc XC mc ms free) (hblind : FrameBlind Pc) (hrc : rm.cells = mc) (hrs : rm.slots = ms)
    (hframes : rm.frames + 1 ≤ R.frames) (hlocals : W9 + (maxL + 11) + rm.locals ≤ R.locals)
    (hws : ∀ w ∈ ws, ∀ a' U, s.WarmedH U.vm → w.before a' U = true) (hcode : Cond.code y bytes maxL ret ∈ ws) (hinit : ∀ a' U, s.WarmedH U.vm → (Cond.initialized y.cls).before a' U = true) :
    vx_Back l R p e below s sargs y len W9 (PreOf R mc ms Pc) (PostOf Qc mc ms free) (vx_Post XC mc ms free) := by
  intro m meth c A g ig mk a X hg hsize hdg hW hn hp
  have h1 : (headSpec ws rm).pre.before a A.U = true := atoms_intro fun w hw => hws w hw _ _ X.warmed
  have h2 : (Cond.code y bytes maxL ret).before a A.U = true := hws _ hcode _ _ X.warmed
  have h3 : (Cond.initialized y.cls).before a A.U = true := hinit _ _ X.warmed
  have h4 : A.cells + (headSpec ws rm).room.cells ≤ R.cells := by rw [show (headSpec ws rm).room.cells = mc from hrc]; exact hp.1
  have h5 : A.slots + (headSpec ws rm).room.slots ≤ R.slots := by rw [show (headSpec ws rm).room.slots = ms from hrs]; exact hp.2.1
  have hPc : Pc a (A.U.calling g mk a) := hblind _ _ _ _ hp.2.2
  obtain ⟨U, Ls, c0, s0⟩ := A
  dsimp only [Pt.U, Pt.locs, Pt.cells, Pt.slots] at h1 h2 h3 h4 h5 X hn hPc ⊢
  obtain ⟨methY, cY, hmY, hcY, -, hlY, -, -, -, -⟩ := Cond.code_spec hn h2
  obtain ⟨kY, hkY, -⟩ := className_of_methodNamed hn
  have hinitY : kY.init = .initialized := Cond.initialized_spec (findClass_of_methodNamed hn) hkY h3
  have h : At U g.method c below := by rw [hg]; exact X.here
  have hlocals9 : W9 + (maxL + 11) + (headSpec ws rm).room.locals ≤ R.locals := hlocals
  have happ : (headSpec ws rm).appliesLoose y e.platform (U.calling g mk a) = true :=
    Spec.appliesLoose_calling (g := g) h hdg hn hkY hinitY
      (X.room_calling (g := g) (R' := (headSpec ws rm).room) hsize hmY hcY hframes (by rw [hlY]; omega) h4 h5) h1
  obtain ⟨mid, hmid⟩ := h.above
  have hfr : (U.setTop g).frames = (.java g :: mid) ++ below := by rw [State.frames_setTop' g h.top, hmid]; rfl
  obtain ⟨o, s₂, hsteps, -, hend, hq⟩ := Steps.callFree hM p X.admits X.cas X.clock (acts := []) hfr happ hPc trivial
  have hq' : vx_Q Qc XC mc ms free a (U.calling g mk a) o s₂ := hq
  rw [State.frames_setTop' g h.top] at hend
  obtain ⟨g₀, hg0⟩ := Option.isSome_iff_exists.mp h.top
  obtain ⟨r, hr⟩ := State.topJava?_eq_some.mp hg0
  have hr' : (({ U with heap := s₂.heap, slotsUsed := s₂.slotsUsed } : State).setVm s₂.vm).frames = .java g₀ :: r := hr
  rcases hq' with ⟨hqc, L, hfe, hL⟩ | ⟨q, rfl, E, ce, L, hx, hce, hcv, hcl, hW₂, hsm, hL⟩
  · obtain ⟨⟨v, rfl⟩, hW₂, e2, q2, q3, q4, q5, q6⟩ := id hfe
    have e3 : s₂ = ({ (U.calling g mk a).setFrames s₂.frames with heap := s₂.heap, slotsUsed := s₂.slotsUsed } : State).setVm s₂.vm := by
      have : s₂ = ({ s₂ with vm := (U.calling g mk a).vm } : State).setVm s₂.vm := rfl
      rw [e2] at this
      exact this
    obtain ⟨c₂, i₂, len₂, hc₂, hd₂, hf₂⟩ := hend
    have hW' : U.WarmedH s₂.vm := hW₂
    have hcc : c₂ = c := by
      have h1 : s₂.code? g.method = U.code? g.method := by
        rw [State.code?_eq, State.code?_eq, hW'.alike.method?]
      exact Option.some.inj (hc₂.symm.trans (h1.trans h.code))
    subst hcc
    have hlen : len₂ = len := by rw [hdg] at hd₂; cases hd₂; rfl
    subst hlen
    have hs₂ : s₂ = (({ U with heap := s₂.heap, slotsUsed := s₂.slotsUsed } : State).setVm s₂.vm).setTop { g with pc := g.pc + len₂, stack := v.toList ++ g.stack } := by
      refine e3.trans ?_
      rw [hf₂, State.calling_eq h.top, State.setFrames_setFrames, State.setTop_of_frames _ hr', hr]
      rfl
    have hsame : U.sameButNew ({ U with heap := s₂.heap, slotsUsed := s₂.slotsUsed } : State) L mc ms := by
      refine ⟨?_, q2, q3, q4, q5, q6⟩
      obtain ⟨t, ht, -⟩ := State.frames_cons hr
      show ({ U with heap := s₂.heap, slotsUsed := s₂.slotsUsed } : State) = { U.setFrames U.frames with heap := s₂.heap, slotsUsed := s₂.slotsUsed }
      rw [State.setFrames_self ht]
    subst hg
    refine Or.inl ⟨v, ⟨(({ U with heap := s₂.heap, slotsUsed := s₂.slotsUsed } : State).setVm s₂.vm), Ls ++ L, c0 + mc, s0 + ms⟩,
      ⟨X.admits, X.cas, X.clock, X.frames, X.room, X.hears, X.method, X.code, (X.here.setHeapUsed s₂.heap s₂.slotsUsed).setVm hW'.alike, X.tail, State.WarmedH.trans X.warmed hW', X.limits, X.bytes, X.same.trans (hsame.setVm s.vm)⟩,
      ⟨g, mk, s₂, L, rfl, rfl, hqc, rfl, hL, rfl, rfl⟩, ?_⟩
    show Steps p.tables e below _ ((({ U with heap := s₂.heap, slotsUsed := s₂.slotsUsed } : State).setVm s₂.vm).setTop { g with pc := g.pc + len₂, stack := v.toList ++ g.stack })
    rw [← hs₂]
    exact hsteps
  · obtain ⟨e2, q2, q3, q4, q5, q6⟩ := id hsm
    have e3 : s₂ = ({ (U.calling g mk a).setFrames s₂.frames with heap := s₂.heap, slotsUsed := s₂.slotsUsed } : State).setVm s₂.vm := by
      have : s₂ = ({ s₂ with vm := (U.calling g mk a).vm } : State).setVm s₂.vm := rfl
      rw [e2] at this
      exact this
    have hf₂ : s₂.frames = .throwing q :: .java g :: U.frames.tail := hend
    have hW' : U.WarmedH s₂.vm := hW₂
    have hs₂ : s₂ = ((({ U with heap := s₂.heap, slotsUsed := s₂.slotsUsed } : State).setVm s₂.vm).setTop g).pushFrame (.throwing q) := by
      refine e3.trans ?_
      rw [hf₂, State.calling_eq h.top, State.setFrames_setFrames, State.pushFrame, State.frames_setTop _ hr', State.setTop_of_frames _ hr', State.setFrames_setFrames, hr]
      rfl
    have hsame : U.sameButNew ({ U with heap := s₂.heap, slotsUsed := s₂.slotsUsed } : State) L mc ms := by
      refine ⟨?_, q2, q3, q4, q5, q6⟩
      obtain ⟨t, ht, -⟩ := State.frames_cons hr
      show ({ U with heap := s₂.heap, slotsUsed := s₂.slotsUsed } : State) = { U.setFrames U.frames with heap := s₂.heap, slotsUsed := s₂.slotsUsed }
      rw [State.setFrames_self ht]
    subst hg
    refine Or.inr ⟨q, ⟨(({ U with heap := s₂.heap, slotsUsed := s₂.slotsUsed } : State).setVm s₂.vm), Ls ++ L, c0 + mc, s0 + ms⟩,
      ⟨X.admits, X.cas, X.clock, X.frames, X.room, X.hears, X.method, X.code, (X.here.setHeapUsed s₂.heap s₂.slotsUsed).setVm hW'.alike, X.tail, State.WarmedH.trans X.warmed hW', X.limits, X.bytes, X.same.trans (hsame.setVm s.vm)⟩,
      ⟨g, mk, s₂, L, E, ce, rfl, rfl, hx, hce, hcv, hcl, rfl, hL, rfl, rfl⟩, ?_⟩
    show Steps p.tables e below _ (((({ U with heap := s₂.heap, slotsUsed := s₂.slotsUsed } : State).setVm s₂.vm).setTop g).pushFrame (.throwing q))
    rw [← hs₂]
    exact hsteps
end Payer
section Calls
variable {p : Program} {l : Launch} {e : Env} {R : Room} {s : State} {m : MethodId} {args : Array Value} {below : List Frame} {meth : Method} {c : Code} {T : State} {locs : List Loc} {cells slots : Nat}
theorem vx_callV (X : Stand p l e R s m args below meth c T locs cells slots) (hexec : p.tables.exec = Jvm.exec) {own C : String} {index : Nat} {y : MethodName} {bytes : ByteArray} {maxL : Nat} {ret : Option FieldType}
    (hown : s.vm.findClass own = some m.cls) (hlink : (Cond.methodLink own index y).before args s = true) (hinst : (Cond.instanceMethod y).before args s = true) (hsel : (Cond.selects C y y).before args s = true)
    (hcode : (Cond.code y bytes maxL ret).before args s = true) (hy : y.cls ≠ "java/lang/invoke/MethodHandle" ∧ y.cls ≠ "java/lang/invoke/VarHandle")
    {W9 : Nat} {Pre : Pt → Array Value → Prop} {Post : Pt → Array Value → Option Value → Pt → Prop} {PostX : Pt → Array Value → Addr → Pt → Prop} (hK : vx_Back l R p e below s args y 3 W9 Pre Post PostX)
    {b : Addr} {cellB : Cell} (hcell : T.heap[b]? = some cellB) (hobj : cellB.vm.isStatics = false) (hcls : s.vm.findClass C = some cellB.cls)
    {g : JFrame} (hg : g.method = m) (hsize : g.locals.size = c.maxLocals) {argsL rest : List Value} (hlen : ∀ sig, parseMethodDescriptor y.desc = some sig → argsL.length = sig.parameters.length)
    (hstack : g.stack = argsL.reverse ++ .ref b :: rest) (hW : 2 * g.monitorRoom + (rest.map fun v => v.category).sum ≤ W9) (hdg : decode c.code g.pc = .ok (.invokevirtual index, 3))
    (hpre : ∀ vm₁, s.WarmedH vm₁ → Pre ⟨T.setVm vm₁, locs, cells, slots⟩ (Value.ref b :: argsL).toArray) :
    (∃ (v : Option Value) (vm₁ : Vm) (B : Pt), s.WarmedH vm₁ ∧ Stand p l e R s m args below meth c B.U B.locs B.cells B.slots ∧ Post ⟨T.setVm vm₁, locs, cells, slots⟩ (Value.ref b :: argsL).toArray v B ∧
      ∀ target, Steps p.tables e below (B.U.setTop { g with pc := g.pc + 3, stack := v.toList ++ rest }) target → Steps p.tables e below (T.setTop g) target) ∨
    (∃ (q : Addr) (vm₁ : Vm) (B : Pt), s.WarmedH vm₁ ∧ Stand p l e R s m args below meth c B.U B.locs B.cells B.slots ∧ PostX ⟨T.setVm vm₁, locs, cells, slots⟩ (Value.ref b :: argsL).toArray q B ∧
      Steps p.tables e below (T.setTop g) ((B.U.setTop { g with stack := rest }).pushFrame (.throwing q))) := by
  obtain ⟨mk, methM, hnamed, hmethM, hstM, habM⟩ := Cond.instanceMethod_spec hinst
  obtain ⟨methM', cM, hmethM', -, -, -, -, -, -, hsigM⟩ := Cond.code_spec hnamed hcode
  cases hmethM.symm.trans hmethM'
  obtain ⟨c2, r2, m2, q1, q2, q3, q4, kP, hkP, hkPi⟩ := Cond.selects_spec hsel
  cases hcls.symm.trans q1
  cases (State.methodFound?_of_named hnamed hy).symm.trans q2
  cases hnamed.symm.trans q3
  have hselP : selectMethod e.platform s.vm cellB.cls mk = .method mk := by rw [Launch.admits_selectMethod X.admits]; exact q4
  obtain ⟨vm₁, X₁, hstep₁⟩ := X.invokevirtual hexec hown hlink hnamed hmethM hstM hkP hkPi hy (a := b) (cell := cellB) hcell
    (fun z h => by rw [h] at hobj; cases hobj) hselP hmethM habM hkP hkPi (g := g) hg (argsL := argsL) (rest := rest) (hlen _ hsigM) hstack hdg
  rcases hK m meth c ⟨T.setVm vm₁, locs, cells, slots⟩ { g with stack := rest } (.invokevirtual index) mk (Value.ref b :: argsL).toArray X₁ hg hsize hdg hW (X₁.named hnamed) (hpre vm₁ X₁.warmed) with ⟨v, B, X', hpost, hsteps⟩ | ⟨q, B, X', hpost, hsteps⟩
  · exact Or.inl ⟨v, vm₁, B, X₁.warmed, X', hpost, fun target h => hstep₁ _ fun acts => by rw [doInvoke_state]; exact hsteps.trans h⟩
  · exact Or.inr ⟨q, vm₁, B, X₁.warmed, X', hpost, hstep₁ _ fun acts => by rw [doInvoke_state]; exact hsteps⟩
theorem vx_callS (X : Stand p l e R s m args below meth c T locs cells slots) (hexec : p.tables.exec = Jvm.exec) {own : String} {index : Nat} {y : MethodName} {bytes : ByteArray} {maxL : Nat} {ret : Option FieldType}
    (hown : s.vm.findClass own = some m.cls) (hlink : (Cond.methodLink own index y).before args s = true) (hstat : (Cond.static y).before args s = true) (hinit : (Cond.initialized y.cls).before args s = true)
    (hcode : (Cond.code y bytes maxL ret).before args s = true) (hy : y.cls ≠ "java/lang/invoke/MethodHandle" ∧ y.cls ≠ "java/lang/invoke/VarHandle")
    {W9 : Nat} {Pre : Pt → Array Value → Prop} {Post : Pt → Array Value → Option Value → Pt → Prop} {PostX : Pt → Array Value → Addr → Pt → Prop} (hK : vx_Back l R p e below s args y 3 W9 Pre Post PostX)
    {g : JFrame} (hg : g.method = m) (hsize : g.locals.size = c.maxLocals) {argsL rest : List Value} (hlen : ∀ sig, parseMethodDescriptor y.desc = some sig → argsL.length = sig.parameters.length)
    (hstack : g.stack = argsL.reverse ++ rest) (hW : 2 * g.monitorRoom + (rest.map fun v => v.category).sum ≤ W9) (hdg : decode c.code g.pc = .ok (.invokestatic index, 3))
    (hpre : ∀ vm₁, s.WarmedH vm₁ → Pre ⟨T.setVm vm₁, locs, cells, slots⟩ argsL.toArray) :
    (∃ (v : Option Value) (vm₁ : Vm) (B : Pt), s.WarmedH vm₁ ∧ Stand p l e R s m args below meth c B.U B.locs B.cells B.slots ∧ Post ⟨T.setVm vm₁, locs, cells, slots⟩ argsL.toArray v B ∧
      ∀ target, Steps p.tables e below (B.U.setTop { g with pc := g.pc + 3, stack := v.toList ++ rest }) target → Steps p.tables e below (T.setTop g) target) ∨
    (∃ (q : Addr) (vm₁ : Vm) (B : Pt), s.WarmedH vm₁ ∧ Stand p l e R s m args below meth c B.U B.locs B.cells B.slots ∧ PostX ⟨T.setVm vm₁, locs, cells, slots⟩ argsL.toArray q B ∧
      Steps p.tables e below (T.setTop g) ((B.U.setTop { g with stack := rest }).pushFrame (.throwing q))) := by
  obtain ⟨mk, hnamed⟩ := Cond.code_named hcode
  obtain ⟨methM, cM, hmethM, -, -, -, -, -, -, hsigM⟩ := Cond.code_spec hnamed hcode
  have hstatic : methM.isStatic = true := Cond.static_spec hnamed hmethM hstat
  obtain ⟨kP, hkP, -⟩ := className_of_methodNamed hnamed
  have hinitP : kP.init = .initialized := Cond.initialized_spec (findClass_of_methodNamed hnamed) hkP hinit
  obtain ⟨vm₁, X₁, hstep₁⟩ := X.invokestatic hexec hown hlink hnamed hmethM hstatic hkP hinitP hy (g := g) hg (argsL := argsL) (rest := rest) (hlen _ hsigM) hstack hdg
  rcases hK m meth c ⟨T.setVm vm₁, locs, cells, slots⟩ { g with stack := rest } (.invokestatic index) mk argsL.toArray X₁ hg hsize hdg hW (X₁.named hnamed) (hpre vm₁ X₁.warmed) with ⟨v, B, X', hpost, hsteps⟩ | ⟨q, B, X', hpost, hsteps⟩
  · exact Or.inl ⟨v, vm₁, B, X₁.warmed, X', hpost, fun target h => hstep₁ _ fun acts => by rw [doInvoke_state]; exact hsteps.trans h⟩
  · exact Or.inr ⟨q, vm₁, B, X₁.warmed, X', hpost, hstep₁ _ fun acts => by rw [doInvoke_state]; exact hsteps⟩
end Calls
theorem vx_cls {s : State} {T : State} {vm₁ : Vm} {E : String} {k : ClassId} (hW : s.WarmedH vm₁) (h : (T.setVm vm₁).vm.findClass E = some k) : s.vm.findClass E = some k := by
  have h1 : vm₁.findClass E = some k := h
  rw [hW.alike.findClass] at h1
  exact h1
/-- the method's frame g, with q thrown over it -/
def vx_W (p : Program) (l : Launch) (e : Env) (R : Room) (s : State) (m : MethodId) (args : Array Value) (below : List Frame) (meth : Method) (c : Code) (H : Heap) (locs : List Loc) (cells slots : Nat) (Q : State → Prop) (g : JFrame) (q : Addr) : Prop :=
  ∀ T : State, T.heap = H → Stand p l e R s m args below meth c T locs cells slots → ∃ t, Steps p.tables e below ((T.setTop g).pushFrame (.throwing q)) t ∧ Q t
def vx_Run (p : Program) (l : Launch) (e : Env) (R : Room) (s : State) (m : MethodId) (args : Array Value) (below : List Frame) (meth : Method) (c : Code) (H : Heap) (locs : List Loc) (cells slots mc ms : Nat) (g : JFrame) (rest : List Value) (Qa : State → Outcome → State → Prop) (XC : String → State → State → Prop) (free : Addr → Prop) : Prop :=
  ∀ T : State, T.heap = H → Stand p l e R s m args below meth c T locs cells slots →
    (∃ (v : Option Value) (st₀ t T' : State) (L : List Loc), st₀.heap = H ∧ Stand p l e R s m args below meth c T' (locs ++ L) (cells + mc) (slots + ms) ∧ (∀ q ∈ L, free q.base) ∧ T'.heap = t.heap ∧ T'.vm = t.vm ∧ Qa st₀ (.returned v) t ∧
      Goes p e below T g T' { g with pc := g.pc + 3, stack := v.toList ++ rest }) ∨
    (∃ (q : Addr) (st₀ t T' : State) (L : List Loc) (E : String) (ce : Cell), st₀.heap = H ∧ Stand p l e R s m args below meth c T' (locs ++ L) (cells + mc) (slots + ms) ∧ (∀ z ∈ L, free z.base) ∧ T'.heap = t.heap ∧ T'.vm = t.vm ∧ XC E st₀ t ∧ t.heap[q]? = some ce ∧ ce.vm = .none ∧ s.vm.findClass E = some ce.cls ∧
      Steps p.tables e below (T.setTop g) ((T'.setTop { g with stack := rest }).pushFrame (.throwing q)))
def vx_X {S : Type} (px : S → Prop) (B : String → S → State → Prop) (A : Nat → Prop) : String → State → State → Prop := fun E st t => ∃ u : S, px u ∧ B E u t ∧ va_F A st t
section Runs
variable {p : Program} {l : Launch} {e : Env} {R : Room} {s : State} {m : MethodId} {args : Array Value} {below : List Frame} {meth : Method} {c : Code} {H : Heap} {locs : List Loc} {cells slots : Nat}
variable {y : MethodName} {bytes cc : ByteArray} {maxL nL mc ms n index : Nat} {ret : Option FieldType} {ws : List Cond} {rm : Room} {Pc : Array Value → State → Prop} {Qc : Array Value → State → Outcome → State → Prop} {XC : String → State → State → Prop} {free : Addr → Prop} {Ts : List Cond} {own C : String} {b : Addr} {As rest : List Value} {g : JFrame}
theorem vx_callBack (cb : CallB R s args own index y bytes maxL ret ws rm mc ms n) (hM : vx_Met l y ws rm Pc Qc XC mc ms free) (hbl : FrameBlind Pc) : vx_Back l R p e below s args y 3 8 (PreOf R mc ms Pc) (PostOf Qc mc ms free) (vx_Post XC mc ms free) := by
  obtain ⟨hrc, hrs, hfr, hlo, hws, hcw, -, hini, -⟩ := cb
  exact vx_back (bytes := bytes) (maxL := maxL) (ret := ret) hM hbl hrc hrs hfr hlo hws hcw (fun a' U hW => word_at hW (Or.inl (by first | rfl | simp [Cond.onTables, Cond.keeps, Cond.steady])) hini)
theorem vx_runV (S : CallFix p m c cc nL s args Ts own) (hM : vx_Met l y ws rm Pc Qc XC mc ms free) (cw : CallW R s args own C index y bytes maxL ret ws rm mc ms n) (hp : PreV s H C b Pc As)
    (hg : g.method = m) (hn : As.length = n) (hsize : g.locals.size = nL) (hstack : g.stack = As.reverse ++ .ref b :: rest) (hW : 2 * g.monitorRoom + (rest.map fun v => v.category).sum ≤ 8) (hdg : decode cc g.pc = .ok (.invokevirtual index, 3)) (hf : cells + mc ≤ R.cells ∧ slots + ms ≤ R.slots) :
    vx_Run p l e R s m args below meth c H locs cells slots mc ms g rest (Qc (Value.ref b :: As).toArray) XC free := by
  have hK : vx_Back l R p e below s args y 3 8 (PreOf R mc ms Pc) (PostOf Qc mc ms free) (vx_Post XC mc ms free) := vx_callBack cw.1 hM hp.1
  obtain ⟨⟨-, -, -, -, -, -, hcode, -, hy, hlen, hl⟩, hin, hse⟩ := cw
  obtain ⟨hx, hb, hml, ho, -⟩ := S
  obtain ⟨-, ⟨cellB, hcB, hoB, hclB⟩, hPc⟩ := hp
  intro T hT X
  rcases vx_callV X hx (C := C) (bytes := bytes) (maxL := maxL) (ret := ret) ho hl hin hse hcode hy hK (by rw [hT]; exact hcB) hoB hclB hg (hsize.trans hml.symm) (argsL := As) (rest := rest) (fun sig h => hn.trans (hlen sig h)) hstack hW (by rw [hb]; exact hdg)
    (fun vm₁ hW₁ => ⟨hf.1, hf.2, hPc (T.setVm vm₁) hT hW₁⟩) with ⟨v, vm₁, ⟨U', l2, c2, s2⟩, hW₁, X', ⟨g', mk, t, L, e1, e2, hq, h1, hL, h2, h3⟩, st⟩ | ⟨q, vm₁, ⟨U', l2, c2, s2⟩, hW₁, X', ⟨g', mk, t, L, E, ce, e1, e2, hq, hce, hcv, hcl, h1, hL, h2, h3⟩, st⟩
  · dsimp only [Pt.U, Pt.locs, Pt.cells, Pt.slots] at X' e1 e2 h1 h2 h3 st
    subst h1; subst h2; subst h3
    exact Or.inl ⟨v, (T.setVm vm₁).calling g' mk (Value.ref b :: As).toArray, t, U', L, hT, X', hL, e1, e2, hq, st⟩
  · dsimp only [Pt.U, Pt.locs, Pt.cells, Pt.slots] at X' e1 e2 h1 h2 h3 st hcl
    subst h1; subst h2; subst h3
    exact Or.inr ⟨q, (T.setVm vm₁).calling g' mk (Value.ref b :: As).toArray, t, U', L, E, ce, hT, X', hL, e1, e2, hq, hce, hcv, vx_cls hW₁ hcl, st⟩
theorem vx_runS (S : CallFix p m c cc nL s args Ts own) (hM : vx_Met l y ws rm Pc Qc XC mc ms free) (cw : CallB R s args own index y bytes maxL ret ws rm mc ms n ∧ (Cond.static y).before args s = true) (hp : PreS s H Pc As)
    (hg : g.method = m) (hn : As.length = n) (hsize : g.locals.size = nL) (hstack : g.stack = As.reverse ++ rest) (hW : 2 * g.monitorRoom + (rest.map fun v => v.category).sum ≤ 8) (hdg : decode cc g.pc = .ok (.invokestatic index, 3)) (hf : cells + mc ≤ R.cells ∧ slots + ms ≤ R.slots) :
    vx_Run p l e R s m args below meth c H locs cells slots mc ms g rest (Qc As.toArray) XC free := by
  have hK : vx_Back l R p e below s args y 3 8 (PreOf R mc ms Pc) (PostOf Qc mc ms free) (vx_Post XC mc ms free) := vx_callBack cw.1 hM hp.1
  obtain ⟨⟨-, -, -, -, -, -, hcode, hini, hy, hlen, hl⟩, hstt⟩ := cw
  obtain ⟨hx, hb, hml, ho, -⟩ := S
  intro T hT X
  rcases vx_callS X hx (bytes := bytes) (maxL := maxL) (ret := ret) ho hl hstt hini hcode hy hK hg (hsize.trans hml.symm) (argsL := As) (rest := rest) (fun sig h => hn.trans (hlen sig h)) hstack hW (by rw [hb]; exact hdg)
    (fun vm₁ hW₁ => ⟨hf.1, hf.2, hp.2 (T.setVm vm₁) hT hW₁⟩) with ⟨v, vm₁, ⟨U', l2, c2, s2⟩, hW₁, X', ⟨g', mk, t, L, e1, e2, hq, h1, hL, h2, h3⟩, st⟩ | ⟨q, vm₁, ⟨U', l2, c2, s2⟩, hW₁, X', ⟨g', mk, t, L, E, ce, e1, e2, hq, hce, hcv, hcl, h1, hL, h2, h3⟩, st⟩
  · dsimp only [Pt.U, Pt.locs, Pt.cells, Pt.slots] at X' e1 e2 h1 h2 h3 st
    subst h1; subst h2; subst h3
    exact Or.inl ⟨v, (T.setVm vm₁).calling g' mk As.toArray, t, U', L, hT, X', hL, e1, e2, hq, st⟩
  · dsimp only [Pt.U, Pt.locs, Pt.cells, Pt.slots] at X' e1 e2 h1 h2 h3 st hcl
    subst h1; subst h2; subst h3
    exact Or.inr ⟨q, (T.setVm vm₁).calling g' mk As.toArray, t, U', L, E, ce, hT, X', hL, e1, e2, hq, hce, hcv, vx_cls hW₁ hcl, st⟩
end Runs
section Rows
variable {p : Program} {l : Launch} {e : Env} {R : Room} {s : State} {m : MethodId} {args : Array Value} {below : List Frame} {meth : Method} {c : Code} {H : Heap} {locs : List Loc} {cells slots : Nat} {Q : State → Prop}
variable {mc ms : Nat} {free : Addr → Prop} {A0 A1 : Nat → Prop} {H0 : Heap} {a : Array Value} {pc : Nat} {ls : Array Slot} {st0 rest : List Value}
theorem vx_keep {st₀ t T' : State} {L : List Loc} (h0 : st₀.heap = H) (e1 : T'.heap = t.heap) (hS : va_S A0 H0 H locs) (hA : ∀ q, q < H.size → A1 q → A0 q) (hf : ∀ q, free q → A0 q) (hL : ∀ q ∈ L, free q.base) (hF : va_F A1 st₀ t) :
    H.size ≤ T'.heap.size ∧ (∀ q : Nat, q < H.size → ¬ A1 q → T'.heap[q]? = H[q]?) ∧ va_S A0 H0 T'.heap (locs ++ L) := by
  obtain ⟨hz, hk⟩ := hF
  rw [h0] at hz hk
  exact ⟨by rw [e1]; exact hz, fun q h1 h2 => by rw [e1]; exact hk q h1 h2,
    ⟨Nat.le_trans hS.1 (by rw [e1]; exact hz), fun q h1 h2 => by rw [e1, hk q (Nat.lt_of_lt_of_le h1 hS.1) (fun z => h2 (hA q (Nat.lt_of_lt_of_le h1 hS.1) z))]; exact hS.2.1 q h1 h2, fun q hq => by
      rcases List.mem_append.mp hq with h | h
      · exact hS.2.2 q h
      · exact hf _ (hL q h)⟩⟩
theorem vx_calli {S SX : Type} {post : Int32 → S → Prop} {px : SX → Prop} {B : S → State → Prop} {BX : String → SX → State → Prop} {AX : Nat → Prop} (hr : vx_Run p l e R s m args below meth c H locs cells slots mc ms (F0 m pc ls st0) rest (va_Qi post B A1 a) (vx_X px BX AX) free) (hS : va_S A0 H0 H locs) (hA : ∀ q, q < H.size → A1 q → A0 q) (hf : ∀ q, free q → A0 q) (hAX : ∀ q, q < H.size → AX q → A0 q)
    (kx : ∀ (E : String) (ce : Cell) (q9 : Addr) (u : SX) (t : State) (H1 : Heap) (locs1 : List Loc), t.heap = H1 → s.vm.Alike t.vm → px u → BX E u t → H.size ≤ H1.size → (∀ q : Nat, q < H.size → ¬ AX q → H1[q]? = H[q]?) → va_S A0 H0 H1 locs1 → H1[q9]? = some ce → ce.vm = .none → s.vm.findClass E = some ce.cls → vx_W p l e R s m args below meth c H1 locs1 (cells + mc) (slots + ms) Q (F0 m pc ls rest) q9)
    (kk : ∀ (r : Int32) (u : S) (t : State) (H1 : Heap) (locs1 : List Loc), t.heap = H1 → s.vm.Alike t.vm → post r u → B u t → H.size ≤ H1.size → (∀ q : Nat, q < H.size → ¬ A1 q → H1[q]? = H[q]?) → va_S A0 H0 H1 locs1 → W p l e R s m args below meth c H1 locs1 (cells + mc) (slots + ms) Q (F0 m (pc + 3) ls (.int r :: rest))) : W p l e R s m args below meth c H locs cells slots Q (F0 m pc ls st0) := by
  intro T hT X
  rcases hr T hT X with ⟨v, st₀, t, T', L, h0, X', hL, e1, e2, ⟨⟨r, u, hv, hp, hb⟩, hF⟩, st⟩ | ⟨q, st₀, t, T', L, E, ce, h0, X', hL, e1, e2, ⟨u, hp, hb, hF⟩, hce, hcv, hcl, st⟩
  · cases hv
    obtain ⟨k1, k2, k3⟩ := vx_keep h0 e1 hS hA hf hL hF
    obtain ⟨t2, a1, b1⟩ := kk r u t T'.heap (locs ++ L) e1.symm (by rw [← e2]; exact X'.warmed.alike) hp hb k1 k2 k3 T' rfl X'
    exact ⟨t2, st t2 a1, b1⟩
  · obtain ⟨k1, k2, k3⟩ := vx_keep h0 e1 hS hAX hf hL hF
    obtain ⟨t2, a1, b1⟩ := kx E ce q u t T'.heap (locs ++ L) e1.symm (by rw [← e2]; exact X'.warmed.alike) hp hb k1 k2 k3 (by rw [e1]; exact hce) hcv hcl T' rfl X'
    exact ⟨t2, st.trans a1, b1⟩
theorem vx_calll {S SX : Type} {post : Int64 → S → Prop} {px : SX → Prop} {B : S → State → Prop} {BX : String → SX → State → Prop} {AX : Nat → Prop} (hr : vx_Run p l e R s m args below meth c H locs cells slots mc ms (F0 m pc ls st0) rest (va_Ql post B A1 a) (vx_X px BX AX) free) (hS : va_S A0 H0 H locs) (hA : ∀ q, q < H.size → A1 q → A0 q) (hf : ∀ q, free q → A0 q) (hAX : ∀ q, q < H.size → AX q → A0 q)
    (kx : ∀ (E : String) (ce : Cell) (q9 : Addr) (u : SX) (t : State) (H1 : Heap) (locs1 : List Loc), t.heap = H1 → s.vm.Alike t.vm → px u → BX E u t → H.size ≤ H1.size → (∀ q : Nat, q < H.size → ¬ AX q → H1[q]? = H[q]?) → va_S A0 H0 H1 locs1 → H1[q9]? = some ce → ce.vm = .none → s.vm.findClass E = some ce.cls → vx_W p l e R s m args below meth c H1 locs1 (cells + mc) (slots + ms) Q (F0 m pc ls rest) q9)
    (kk : ∀ (r : Int64) (u : S) (t : State) (H1 : Heap) (locs1 : List Loc), t.heap = H1 → s.vm.Alike t.vm → post r u → B u t → H.size ≤ H1.size → (∀ q : Nat, q < H.size → ¬ A1 q → H1[q]? = H[q]?) → va_S A0 H0 H1 locs1 → W p l e R s m args below meth c H1 locs1 (cells + mc) (slots + ms) Q (F0 m (pc + 3) ls (.long r :: rest))) : W p l e R s m args below meth c H locs cells slots Q (F0 m pc ls st0) := by
  intro T hT X
  rcases hr T hT X with ⟨v, st₀, t, T', L, h0, X', hL, e1, e2, ⟨⟨r, u, hv, hp, hb⟩, hF⟩, st⟩ | ⟨q, st₀, t, T', L, E, ce, h0, X', hL, e1, e2, ⟨u, hp, hb, hF⟩, hce, hcv, hcl, st⟩
  · cases hv
    obtain ⟨k1, k2, k3⟩ := vx_keep h0 e1 hS hA hf hL hF
    obtain ⟨t2, a1, b1⟩ := kk r u t T'.heap (locs ++ L) e1.symm (by rw [← e2]; exact X'.warmed.alike) hp hb k1 k2 k3 T' rfl X'
    exact ⟨t2, st t2 a1, b1⟩
  · obtain ⟨k1, k2, k3⟩ := vx_keep h0 e1 hS hAX hf hL hF
    obtain ⟨t2, a1, b1⟩ := kx E ce q u t T'.heap (locs ++ L) e1.symm (by rw [← e2]; exact X'.warmed.alike) hp hb k1 k2 k3 (by rw [e1]; exact hce) hcv hcl T' rfl X'
    exact ⟨t2, st.trans a1, b1⟩
theorem vx_callf {S SX : Type} {post : UInt32 → S → Prop} {px : SX → Prop} {B : S → State → Prop} {BX : String → SX → State → Prop} {AX : Nat → Prop} (hr : vx_Run p l e R s m args below meth c H locs cells slots mc ms (F0 m pc ls st0) rest (va_Qf post B A1 a) (vx_X px BX AX) free) (hS : va_S A0 H0 H locs) (hA : ∀ q, q < H.size → A1 q → A0 q) (hf : ∀ q, free q → A0 q) (hAX : ∀ q, q < H.size → AX q → A0 q)
    (kx : ∀ (E : String) (ce : Cell) (q9 : Addr) (u : SX) (t : State) (H1 : Heap) (locs1 : List Loc), t.heap = H1 → s.vm.Alike t.vm → px u → BX E u t → H.size ≤ H1.size → (∀ q : Nat, q < H.size → ¬ AX q → H1[q]? = H[q]?) → va_S A0 H0 H1 locs1 → H1[q9]? = some ce → ce.vm = .none → s.vm.findClass E = some ce.cls → vx_W p l e R s m args below meth c H1 locs1 (cells + mc) (slots + ms) Q (F0 m pc ls rest) q9)
    (kk : ∀ (r : UInt32) (u : S) (t : State) (H1 : Heap) (locs1 : List Loc), t.heap = H1 → s.vm.Alike t.vm → post r u → B u t → H.size ≤ H1.size → (∀ q : Nat, q < H.size → ¬ A1 q → H1[q]? = H[q]?) → va_S A0 H0 H1 locs1 → W p l e R s m args below meth c H1 locs1 (cells + mc) (slots + ms) Q (F0 m (pc + 3) ls (.float r :: rest))) : W p l e R s m args below meth c H locs cells slots Q (F0 m pc ls st0) := by
  intro T hT X
  rcases hr T hT X with ⟨v, st₀, t, T', L, h0, X', hL, e1, e2, ⟨⟨r, u, hv, hp, hb⟩, hF⟩, st⟩ | ⟨q, st₀, t, T', L, E, ce, h0, X', hL, e1, e2, ⟨u, hp, hb, hF⟩, hce, hcv, hcl, st⟩
  · cases hv
    obtain ⟨k1, k2, k3⟩ := vx_keep h0 e1 hS hA hf hL hF
    obtain ⟨t2, a1, b1⟩ := kk r u t T'.heap (locs ++ L) e1.symm (by rw [← e2]; exact X'.warmed.alike) hp hb k1 k2 k3 T' rfl X'
    exact ⟨t2, st t2 a1, b1⟩
  · obtain ⟨k1, k2, k3⟩ := vx_keep h0 e1 hS hAX hf hL hF
    obtain ⟨t2, a1, b1⟩ := kx E ce q u t T'.heap (locs ++ L) e1.symm (by rw [← e2]; exact X'.warmed.alike) hp hb k1 k2 k3 (by rw [e1]; exact hce) hcv hcl T' rfl X'
    exact ⟨t2, st.trans a1, b1⟩
theorem vx_calld {S SX : Type} {post : UInt64 → S → Prop} {px : SX → Prop} {B : S → State → Prop} {BX : String → SX → State → Prop} {AX : Nat → Prop} (hr : vx_Run p l e R s m args below meth c H locs cells slots mc ms (F0 m pc ls st0) rest (va_Qd post B A1 a) (vx_X px BX AX) free) (hS : va_S A0 H0 H locs) (hA : ∀ q, q < H.size → A1 q → A0 q) (hf : ∀ q, free q → A0 q) (hAX : ∀ q, q < H.size → AX q → A0 q)
    (kx : ∀ (E : String) (ce : Cell) (q9 : Addr) (u : SX) (t : State) (H1 : Heap) (locs1 : List Loc), t.heap = H1 → s.vm.Alike t.vm → px u → BX E u t → H.size ≤ H1.size → (∀ q : Nat, q < H.size → ¬ AX q → H1[q]? = H[q]?) → va_S A0 H0 H1 locs1 → H1[q9]? = some ce → ce.vm = .none → s.vm.findClass E = some ce.cls → vx_W p l e R s m args below meth c H1 locs1 (cells + mc) (slots + ms) Q (F0 m pc ls rest) q9)
    (kk : ∀ (r : UInt64) (u : S) (t : State) (H1 : Heap) (locs1 : List Loc), t.heap = H1 → s.vm.Alike t.vm → post r u → B u t → H.size ≤ H1.size → (∀ q : Nat, q < H.size → ¬ A1 q → H1[q]? = H[q]?) → va_S A0 H0 H1 locs1 → W p l e R s m args below meth c H1 locs1 (cells + mc) (slots + ms) Q (F0 m (pc + 3) ls (.double r :: rest))) : W p l e R s m args below meth c H locs cells slots Q (F0 m pc ls st0) := by
  intro T hT X
  rcases hr T hT X with ⟨v, st₀, t, T', L, h0, X', hL, e1, e2, ⟨⟨r, u, hv, hp, hb⟩, hF⟩, st⟩ | ⟨q, st₀, t, T', L, E, ce, h0, X', hL, e1, e2, ⟨u, hp, hb, hF⟩, hce, hcv, hcl, st⟩
  · cases hv
    obtain ⟨k1, k2, k3⟩ := vx_keep h0 e1 hS hA hf hL hF
    obtain ⟨t2, a1, b1⟩ := kk r u t T'.heap (locs ++ L) e1.symm (by rw [← e2]; exact X'.warmed.alike) hp hb k1 k2 k3 T' rfl X'
    exact ⟨t2, st t2 a1, b1⟩
  · obtain ⟨k1, k2, k3⟩ := vx_keep h0 e1 hS hAX hf hL hF
    obtain ⟨t2, a1, b1⟩ := kx E ce q u t T'.heap (locs ++ L) e1.symm (by rw [← e2]; exact X'.warmed.alike) hp hb k1 k2 k3 (by rw [e1]; exact hce) hcv hcl T' rfl X'
    exact ⟨t2, st.trans a1, b1⟩
theorem vx_callv {S SX : Type} {post : S → Prop} {px : SX → Prop} {B : S → State → Prop} {BX : String → SX → State → Prop} {AX : Nat → Prop} (hr : vx_Run p l e R s m args below meth c H locs cells slots mc ms (F0 m pc ls st0) rest (va_Qv post B A1 a) (vx_X px BX AX) free) (hS : va_S A0 H0 H locs) (hA : ∀ q, q < H.size → A1 q → A0 q) (hf : ∀ q, free q → A0 q) (hAX : ∀ q, q < H.size → AX q → A0 q)
    (kx : ∀ (E : String) (ce : Cell) (q9 : Addr) (u : SX) (t : State) (H1 : Heap) (locs1 : List Loc), t.heap = H1 → s.vm.Alike t.vm → px u → BX E u t → H.size ≤ H1.size → (∀ q : Nat, q < H.size → ¬ AX q → H1[q]? = H[q]?) → va_S A0 H0 H1 locs1 → H1[q9]? = some ce → ce.vm = .none → s.vm.findClass E = some ce.cls → vx_W p l e R s m args below meth c H1 locs1 (cells + mc) (slots + ms) Q (F0 m pc ls rest) q9)
    (kk : ∀ (u : S) (t : State) (H1 : Heap) (locs1 : List Loc), t.heap = H1 → s.vm.Alike t.vm → post u → B u t → H.size ≤ H1.size → (∀ q : Nat, q < H.size → ¬ A1 q → H1[q]? = H[q]?) → va_S A0 H0 H1 locs1 → W p l e R s m args below meth c H1 locs1 (cells + mc) (slots + ms) Q (F0 m (pc + 3) ls (rest))) : W p l e R s m args below meth c H locs cells slots Q (F0 m pc ls st0) := by
  intro T hT X
  rcases hr T hT X with ⟨v, st₀, t, T', L, h0, X', hL, e1, e2, ⟨⟨u, hv, hp, hb⟩, hF⟩, st⟩ | ⟨q, st₀, t, T', L, E, ce, h0, X', hL, e1, e2, ⟨u, hp, hb, hF⟩, hce, hcv, hcl, st⟩
  · cases hv
    obtain ⟨k1, k2, k3⟩ := vx_keep h0 e1 hS hA hf hL hF
    obtain ⟨t2, a1, b1⟩ := kk u t T'.heap (locs ++ L) e1.symm (by rw [← e2]; exact X'.warmed.alike) hp hb k1 k2 k3 T' rfl X'
    exact ⟨t2, st t2 a1, b1⟩
  · obtain ⟨k1, k2, k3⟩ := vx_keep h0 e1 hS hAX hf hL hF
    obtain ⟨t2, a1, b1⟩ := kx E ce q u t T'.heap (locs ++ L) e1.symm (by rw [← e2]; exact X'.warmed.alike) hp hb k1 k2 k3 (by rw [e1]; exact hce) hcv hcl T' rfl X'
    exact ⟨t2, st.trans a1, b1⟩
/-- caught by the row x of this method's table; the rows ahead don't take it -/
theorem vx_catch {own name : String} {E : String} {ce : Cell} {q : Addr} (hown : s.vm.findClass own = some m.cls) (pre : List ExceptionTableEntry) (x : ExceptionTableEntry) (suf : List ExceptionTableEntry) (hsplit : c.exceptionTable.toList = pre ++ x :: suf)
    (hpass : ∀ z ∈ pre, covers z pc = false ∨ (z.catchType ≠ 0 ∧ ∃ nm : String, (Cond.classLink own z.catchType nm).before args s = true ∧ va_Nc E nm s)) (hx : covers x pc = true) (h0 : x.catchType ≠ 0)
    (hlink : (Cond.classLink own x.catchType name).before args s = true) (hcast : (Cond.castable E name).before args s = true) (hcell : H[q]? = some ce) (hv : ce.vm = .none) (hcl : s.vm.findClass E = some ce.cls)
    (kk : W p l e R s m args below meth c H locs cells slots Q (F0 m x.handlerPc ls [.ref q])) : vx_W p l e R s m args below meth c H locs cells slots Q (F0 m pc ls rest) q := by
  intro T hT X
  have hpl : e.platform.magicAccessors = ({} : Platform).magicAccessors := by rw [X.admits.platform]
  obtain ⟨c3, c4, hc3, hc4, hasg⟩ := Cond.castable_spec hcast
  cases Option.some.inj (hc3.symm.trans hcl)
  obtain ⟨c5, hc5, hcl5⟩ := Cond.classLink_spec hown hlink e.platform hpl
  cases Option.some.inj (hc4.symm.trans hc5)
  obtain ⟨vm', X', st⟩ := X.thenCaughtThrough q (g := F0 m pc ls rest) rfl (Steps.refl _) (by rw [hT]; exact hcell) (by rw [hv]; rfl) (by obtain ⟨k9, h9, -⟩ := Vm.findClass_spec hcl; exact ⟨k9, h9⟩) pre x suf hsplit
    (fun z hz => by
      rcases hpass z hz with h | ⟨hz0, nm, hl1, hn1⟩
      · exact Or.inl h
      · obtain ⟨c6, hc6, hcl6⟩ := Cond.classLink_spec hown hl1 e.platform hpl
        obtain ⟨a8, b8, h1, h2, h3⟩ := hn1
        cases Option.some.inj (h1.symm.trans hcl)
        cases Option.some.inj (h2.symm.trans hc6)
        exact Or.inr ⟨hz0, _, hcl6, h3⟩) hx (Or.inr ⟨h0, c4, hcl5, hasg⟩)
  obtain ⟨t, a1, b1⟩ := kk (T.setVm vm') hT X'
  exact ⟨t, st.trans a1, b1⟩
end Rows
section Ends
variable {p : Program} {l : Launch} {e : Env} {R : Room} {s : State} {m : MethodId} {args : Array Value} {below : List Frame} {meth : Method} {c : Code} {H : Heap} {locs : List Loc} {cells slots : Nat} {Q : State → Prop}
variable {mc ms : Nat} {free : Addr → Prop} {A0 A1 : Nat → Prop} {H0 : Heap} {a : Array Value} {ls : Array Slot} {st0 rest : List Value}
variable {Qc : Array Value → State → Outcome → State → Prop} {XC : String → State → State → Prop}
/-- what a body that may throw owes at its end -/
def vx_MQ (below : List Frame) (Qc : Array Value → State → Outcome → State → Prop) (XC : String → State → State → Prop) (a : Array Value) (s : State) (mc ms : Nat) (free : Addr → Prop) : State → Prop := fun t =>
  ∃ o, t.status = .running ∧ Ended t below o ∧ vx_Q Qc XC mc ms free a s o t
theorem vx_ret {g : JFrame} {mc ms : Nat} (k : W p l e R s m args below meth c H locs cells slots (MQ below Qc args s mc ms free) g) : W p l e R s m args below meth c H locs cells slots (vx_MQ below Qc XC args s mc ms free) g := by
  intro T hT X
  obtain ⟨t, a1, o, b1, b2, b3, b4⟩ := k T hT X
  exact ⟨t, a1, o, b1, b2, Or.inl ⟨b3, b4⟩⟩
/-- not caught here: it goes on to the caller -/
theorem vx_widen {g : JFrame} {q : Addr} {k n : Nat} (h1 : cells ≤ k) (h2 : slots ≤ n) (kk : vx_W p l e R s m args below meth c H locs k n Q g q) : vx_W p l e R s m args below meth c H locs cells slots Q g q := fun T hT X => kk T hT (stand_widen X h1 h2)
theorem vx_out {pc : Nat} {E : String} {ce : Cell} {q : Addr} {mc ms : Nat} (hout : ∀ x ∈ c.exceptionTable.toList, covers x pc = false) (hlocks : meth.locks = false) (hcell : H[q]? = some ce) (hv : ce.vm = .none) (hcl : s.vm.findClass E = some ce.cls)
    (hx : ∀ t : State, t.heap = H → s.vm.Alike t.vm → XC E s t) (hf : ∀ z ∈ locs, free z.base) (hc : cells ≤ mc) (hs : slots ≤ ms) :
    vx_W p l e R s m args below meth c H locs cells slots (vx_MQ below Qc XC args s mc ms free) (F0 m pc ls rest) q := by
  intro T hT X
  obtain ⟨st1, hrun, hend, hW, hsm⟩ := X.leaveThrown q (g := F0 m pc ls rest) rfl rfl rfl hout hlocks
  have hcell9 : (T.setFrames (.throwing q :: below)).heap[q]? = some ce := by
    show T.heap[q]? = some ce
    rw [hT]; exact hcell
  exact ⟨_, st1, .threw q, hrun, hend, Or.inr ⟨q, rfl, E, ce, locs, hx _ hT hW.alike, hcell9, hv, hcl, hW, hsm.mono hc hs, hf⟩⟩
theorem vx_frame {U : State} {k n : Nat} (h : s.sameButNew ({ U with vm := s.vm } : State) locs k n) : s.heap.size ≤ U.heap.size ∧ ∀ q : Nat, q < s.heap.size → (∀ z ∈ locs, z.base ≠ q) → U.heap[q]? = s.heap[q]? := by
  obtain ⟨-, h2, -, -, -, h6⟩ := h
  refine ⟨h2, fun q hq hz => ?_⟩
  obtain ⟨c9, e1, e2, e3, e4⟩ := h6 q _ (Array.getElem?_eq_getElem hq)
  have hs : c9.slots = (s.heap[q]).slots := Array.ext_getElem? fun i => e4 i fun hm => hz _ hm rfl
  have h9 : c9 = s.heap[q] := by
    rw [hs] at e2
    exact e2
  have e5 : U.heap[q]? = some c9 := e1
  rw [e5, h9, Array.getElem?_eq_getElem hq]
/-- the words of a throw but the four that speak of the heap -/
def vx_no (w : Cond) : Bool := decide (w ≠ .isRef (.static Bundle.tN "UNASSIGNED_STACK" Bundle.steD)) && decide (w ≠ .isRef (.static Bundle.tN "SUPPRESSED_SENTINEL" Bundle.listD)) && decide (w ≠ .laysStatic Bundle.tN "UNASSIGNED_STACK" Bundle.steD) && decide (w ≠ .laysStatic Bundle.tN "SUPPRESSED_SENTINEL" Bundle.listD)
def vx_at0 (own : String) (ic : Nat) (X : String) (names : List String) : List Cond := (Bundle.ownAtoms0 own ic X names).filter vx_no
def vx_atS (own : String) (ic : Nat) (X : String) (names : List String) : List Cond := (Bundle.ownAtoms own ic X names).filter vx_no
/-- a word that the tables alone decide, or a good one -/
def vx_ot (w : Cond) : Bool := w.onTables || goodWord w
theorem vx_ot_at {args a' : Array Value} {s U : State} {w : Cond} (hW : s.WarmedH U.vm) (hvm : s.vm = U.vm) (hg : vx_ot w = true) (h : w.before args s = true) : w.before a' U = true := by
  simp only [vx_ot, Bool.or_eq_true] at hg
  rcases hg with hg | hg
  · exact va_tabs hg hvm h
  · exact word_at hW (good_of_word hg) h
/-- a list's words: the good ones out of the method's own list, the others by premises of their own -/
theorem vx_hat {args : Array Value} {s : State} {L B : List Cond} (h1 : ∀ w ∈ L.filter goodWord, w.before args s = true) (h2 : ∀ w ∈ L.filter (fun w => !goodWord w), w ∈ B) (h3 : ∀ w ∈ B, w.before args s = true) : ∀ w ∈ L, w.before args s = true := by
  intro w hw
  by_cases g : goodWord w = true
  · exact h1 w (List.mem_filter.mpr ⟨hw, g⟩)
  · refine h3 w (h2 w (List.mem_filter.mpr ⟨hw, ?_⟩))
    show (!goodWord w) = true
    cases hgw : goodWord w
    · rfl
    · exact absurd hgw g
theorem vx_c {args : Array Value} {s : State} {w : Cond} {B : List Cond} (h : w.before args s = true) (t : ∀ w ∈ B, w.before args s = true) : ∀ w' ∈ w :: B, w'.before args s = true := fun w' h' => (List.mem_cons.mp h').elim (fun e => by rw [e]; exact h) (t w')
theorem vx_n {args : Array Value} {s : State} : ∀ w ∈ ([] : List Cond), w.before args s = true := fun _ h => nomatch h
theorem vx_own {args : Array Value} {s : State} {L : List Cond} (h1 : ∀ w ∈ L.filter vx_no, w.before args s = true)
    (hU : (Cond.isRef (.static Bundle.tN "UNASSIGNED_STACK" Bundle.steD)).before args s = true) (hN : (Cond.isRef (.static Bundle.tN "SUPPRESSED_SENTINEL" Bundle.listD)).before args s = true)
    (lU : (Cond.laysStatic Bundle.tN "UNASSIGNED_STACK" Bundle.steD).before args s = true) (lN : (Cond.laysStatic Bundle.tN "SUPPRESSED_SENTINEL" Bundle.listD).before args s = true) : ∀ w ∈ L, w.before args s = true := by
  intro w hw
  by_cases e1 : w = .isRef (.static Bundle.tN "UNASSIGNED_STACK" Bundle.steD)
  · rw [e1]; exact hU
  · by_cases e2 : w = .isRef (.static Bundle.tN "SUPPRESSED_SENTINEL" Bundle.listD)
    · rw [e2]; exact hN
    · by_cases e3 : w = .laysStatic Bundle.tN "UNASSIGNED_STACK" Bundle.steD
      · rw [e3]; exact lU
      · by_cases e4 : w = .laysStatic Bundle.tN "SUPPRESSED_SENTINEL" Bundle.listD
        · rw [e4]; exact lN
        · exact h1 w (List.mem_filter.mpr ⟨hw, by unfold vx_no; rw [decide_eq_true e1, decide_eq_true e2, decide_eq_true e3, decide_eq_true e4]; rfl⟩)
/-- where a static field lies, its class's statics cell in H -/
def vx_L (C n d : String) (A : Nat → Prop) (U : State) (H : Heap) : Prop := ∃ (c : ClassId) (k : Class) (i : Nat) (f : Field) (a : Nat) (cell : Cell), U.vm.findClass C = some c ∧ U.fieldFound? C n d = some (c, k, i, f) ∧ f.isStatic = true ∧ k.statics = some a ∧ H[a]? = some cell ∧ cell.vm.isStatics = true ∧ cell.cls = c ∧ f.slot < cell.slots.size ∧ k.staticTypes[f.slot]? = some f.type ∧ ¬ A a
theorem vx_L.moved {C n d : String} {A : Nat → Prop} {u U : State} {H : Heap} (hvm : u.vm.Alike U.vm) (h : vx_L C n d A u H) : vx_L C n d A U H := by
  obtain ⟨c, k, i, f, a, cell, h1, h2, h3, h4, h5, h6, h7, h8, h9, h10⟩ := h
  obtain ⟨k', hi', he⟩ := State.fieldFound?_setVm hvm h2
  exact ⟨c, k', i, f, a, cell, by rw [hvm.findClass]; exact h1, hi', h3, by rw [he]; exact h4, h5, h6, h7, h8, by rw [he]; exact h9, h10⟩
theorem vx_L.kept {C n d : String} {A : Nat → Prop} {U : State} {H H1 : Heap} (h : vx_L C n d A U H) (hq : ∀ a : Nat, a < H.size → ¬ A a → H1[a]? = H[a]?) : vx_L C n d A U H1 := by
  obtain ⟨c, k, i, f, a, cell, h1, h2, h3, h4, h5, h6, h7, h8, h9, h10⟩ := h
  exact ⟨c, k, i, f, a, cell, h1, h2, h3, h4, by rw [hq a (Array.getElem?_eq_some_iff.mp h5).1 h10]; exact h5, h6, h7, h8, h9, h10⟩
theorem vx_L.narrow {C n d : String} {A B : Nat → Prop} {U : State} {H : Heap} (h : vx_L C n d A U H) (hAB : ∀ q, B q → A q) : vx_L C n d B U H := by
  obtain ⟨c, k, i, f, a, cell, h1, h2, h3, h4, h5, h6, h7, h8, h9, h10⟩ := h
  exact ⟨c, k, i, f, a, cell, h1, h2, h3, h4, h5, h6, h7, h8, h9, fun z => h10 (hAB _ z)⟩
theorem vx_L.word {C n d : String} {A : Nat → Prop} {s : State} {args : Array Value} (h : vx_L C n d A s s.heap) : (Cond.laysStatic C n d).before args s = true := by
  obtain ⟨c, k, i, f, a, cell, h1, h2, h3, h4, h5, h6, h7, h8, h9, -⟩ := h
  show (Cond.laysStatic C n d).holds args s none s [] = true
  exact Cond.laysStatic_of h1 h2 h3 h4 h5 h6 h7 h8 h9
/-- .. and what it holds: null or some reference -/
def vx_Zq (C n d : String) (A : Nat → Prop) (U : State) (H : Heap) : Prop := va_Zq C n d A U H ∧ vx_L C n d A U H
theorem vx_Zq.moved {C n d : String} {A : Nat → Prop} {u U : State} {H : Heap} (hvm : u.vm.Alike U.vm) (h : vx_Zq C n d A u H) : vx_Zq C n d A U H := ⟨va_Zq.moved hvm h.1, vx_L.moved hvm h.2⟩
theorem vx_Zq.kept {C n d : String} {A : Nat → Prop} {U : State} {H H1 : Heap} (h : vx_Zq C n d A U H) (hq : ∀ a : Nat, a < H.size → ¬ A a → H1[a]? = H[a]?) : vx_Zq C n d A U H1 := ⟨va_Zq.kept h.1 hq, vx_L.kept h.2 hq⟩
theorem vx_Zq.narrow {C n d : String} {A B : Nat → Prop} {U : State} {H : Heap} (h : vx_Zq C n d A U H) (hAB : ∀ q, B q → A q) : vx_Zq C n d B U H := ⟨va_Zq.narrow h.1 hAB, vx_L.narrow h.2 hAB⟩
theorem vx_Zqof {args : Array Value} {s : State} {C n d : String} {A : Nat → Prop} (hl : (Cond.laysStatic C n d).before args s = true) (hini : (Cond.initialized C).before args s = true) (h : (Cond.isRef (.static C n d)).before args s = true) (hA : ∀ a : Nat, a < s.heap.size → ¬ A a) : vx_Zq C n d A s s.heap := by
  refine ⟨va_Zqof hl hini h hA, ?_⟩
  obtain ⟨c, k, i, f, a, cell, h1, h2, h3, h4, h5, h6, h7, h8, h9⟩ := Cond.laysStatic_spec hl
  exact ⟨c, k, i, f, a, cell, h1, h2, h3, h4, h5, h6, h7, h8, h9, hA a (Array.getElem?_eq_some_iff.mp h5).1⟩
theorem vx_isRef {C n d : String} {v : Value} {A : Nat → Prop} {s : State} {args : Array Value} (h : va_Z C n d v A s s.heap) (hv : v.isRef = true) : (Cond.isRef (.static C n d)).before args s = true := by
  obtain ⟨cf, kf, fi, f, a, cell, h1, h2, h3, h4, h5, h6, h7, -⟩ := h
  have he : (Term.static C n d).eval args s none [] s = some v := by
    simp [Term.eval, State.fieldNamed?, h1, h2, h4, h5, h6, h7]
  simp only [Cond.before, Cond.holds, Cond.value, he]
  cases v <;> simp_all [Value.isRef]
theorem vx_isRefq {C n d : String} {A : Nat → Prop} {s : State} {args : Array Value} (h : va_Zq C n d A s s.heap) : (Cond.isRef (.static C n d)).before args s = true := by
  rcases h with h | ⟨t, h⟩
  · exact vx_isRef h rfl
  · exact vx_isRef h rfl
/-- the same frame, seen from here: as if the method were called anew in this heap -/
theorem vx_rebase {T : State} (X : Stand p l e R s m args below meth c T locs cells slots) {R' : Room} (hf : R'.frames ≤ R.frames) (hl : R'.locals ≤ R.locals) (hc : cells + R'.cells ≤ R.cells) (hs : slots + R'.slots ≤ R.slots) :
    Stand p l e R' ((T.setVm s.vm).setFrames (.invoking m args :: below)) m args below meth c T [] 0 0 := by
  have htop : (T.setVm s.vm).topJava?.isSome := X.here.top
  have hF : ((T.setVm s.vm).setFrames (.invoking m args :: below)).frames = .invoking m args :: below := State.frames_setFrames _ (State.cur_lt_of_top htop)
  obtain ⟨g₀, hg0⟩ := Option.isSome_iff_exists.mp htop
  obtain ⟨r, hr⟩ := State.topJava?_eq_some.mp hg0
  have hl9 : e.platform.stackLimits (T.setVm s.vm).me = e.platform.stackLimits s.me := X.limits
  have hb9 : (T.setVm s.vm).me.stackBytes = s.me.stackBytes := X.bytes
  refine ⟨X.admits, X.cas, X.clock, hF, ?_, X.hears, X.method, X.code, X.here, X.tail, X.warmed, ?_, ?_, ?_⟩
  · have h := X.room
    have hU : ((T.setVm s.vm).setFrames (.invoking m args :: below)).localsInUse = s.localsInUse := by
      rw [State.localsInUse_invoking hF (meth := meth) (c := c) X.method X.code, State.localsInUse_invoking X.frames X.method X.code]
    simp only [State.hasRoom, Bool.and_eq_true, decide_eq_true_eq] at h ⊢
    obtain ⟨⟨⟨⟨h1, h2, h3, h4, h5, h6⟩, h7⟩, h8⟩, h9⟩ := h
    rw [X.frames, List.length_cons] at h2 h3
    have q1 := X.heapSize
    have q2 := X.used
    simp only [hF, hU, List.length_cons, State.stackLimits_setFrames, State.stackBytes_setFrames, hl9, hb9]
    refine ⟨⟨⟨⟨by omega, by omega, by omega, by omega, by omega, h6⟩, ?_⟩, ?_⟩, X.book⟩
    · show T.heap.size + R'.cells ≤ e.platform.maxCells
      omega
    · show T.slotsUsed + R'.slots ≤ e.platform.maxSlots
      omega
  · rw [State.stackLimits_setFrames]; rfl
  · rw [State.stackBytes_setFrames]; rfl
  · refine ⟨?_, Nat.le_refl _, Nat.le_refl _, ?_, ?_, fun a c9 h9 => ⟨c9, h9, rfl, rfl, fun _ _ => rfl⟩⟩
    · obtain ⟨t, ht, -⟩ := State.frames_cons hr
      show T.setVm s.vm = { ((T.setVm s.vm).setFrames (.invoking m args :: below)).setFrames (T.setVm s.vm).frames with heap := T.heap, slotsUsed := T.slotsUsed }
      rw [State.setFrames_setFrames, State.setFrames_self ht]
      rfl
    · show T.slotsUsed = T.slotsUsed + ((T.heap.toList.drop T.heap.size).map (·.slots.size)).sum
      rw [List.drop_eq_nil_of_le (Nat.le_of_eq Array.length_toList)]
      rfl
    · show ((T.heap.toList.drop T.heap.size).map (·.slots.size)).sum ≤ 0
      rw [List.drop_eq_nil_of_le (Nat.le_of_eq Array.length_toList)]
      exact Nat.le_refl _
/-- 'throw new E()': new; dup; invokespecial; athrow -/
theorem vx_throw0 {cc : ByteArray} {pc : Nat} (hexec : p.tables.exec = Jvm.exec) (hb : c.code = cc) (hl : l.stackTraces = false) {own cls : String} {names : List String} {ik ic mc ms : Nat} {A : Nat → Prop}
    (hown : s.vm.findClass own = some m.cls) (hcls : Bundle.fit cls = true) (hnames : ∀ n ∈ names, Bundle.fit n = true)
    (hk : (Cond.classLink own ik cls).before args s = true) (hini : (Cond.initialized cls).before args s = true) (hat : ∀ w ∈ vx_at0 own ic cls names, w.before args s = true)
    (hgood : ∀ w ∈ Cond.classLink own ik cls :: Cond.initialized cls :: vx_at0 own ic cls names, vx_ot w = true)
    (hU : vx_Zq Bundle.tN "UNASSIGNED_STACK" Bundle.steD A s s.heap) (hN : vx_Zq Bundle.tN "SUPPRESSED_SENTINEL" Bundle.listD A s s.heap) (hS : va_S A s.heap H locs) (hsize : ls.size = c.maxLocals)
    (d0 : decode cc pc = .ok (.new ik, 3)) (d3 : decode cc (pc + 3) = .ok (.dup, 1)) (d4 : decode cc (pc + 4) = .ok (.invokespecial ic, 3)) (d7 : decode cc (pc + 7) = .ok (.athrow, 1))
    (hout : ∀ x ∈ c.exceptionTable.toList, covers x (pc + 7) = false)
    (hRframes : names.length + 3 < R.frames) (hRlocals : (rest.map fun v => v.category).sum + (13 * (names.length + 1) + 42) ≤ R.locals) (hRcells : cells + 1 ≤ R.cells) (hRslots : slots + 6 ≤ R.slots) (hlocks : meth.locks = false)
    (hx : ∀ t : State, s.vm.Alike t.vm → H.size ≤ t.heap.size → (∀ q : Nat, q < H.size → t.heap[q]? = H[q]?) → XC cls s t)
    (hf : ∀ z ∈ locs, free z.base) (hc : cells + 1 ≤ mc) (hs : slots + 6 ≤ ms) :
    W p l e R s m args below meth c H locs cells slots (vx_MQ below Qc XC args s mc ms free) (F0 m pc ls rest) := by
  intro T hT X
  have htr : e.platform.stackTraces = false := (show e.platform.stackTraces = l.stackTraces by rw [X.admits.platform]).trans hl
  have Y := vx_rebase X (R' := { frames := R.frames, locals := R.locals, cells := 1, slots := 6 }) (Nat.le_refl _) (Nat.le_refl _) hRcells hRslots
  obtain ⟨s', hA⟩ : ∃ z, z = (T.setVm s.vm).setFrames (.invoking m args :: below) := ⟨_, rfl⟩
  rw [← hA] at Y
  have hvm : s'.vm = s.vm := by rw [hA]; rfl
  have hhp : s'.heap = H := by rw [hA]; exact hT
  have hW0 : s.WarmedH s'.vm := by rw [hvm]; exact State.WarmedH.refl s
  have hat' : ∀ w ∈ vx_at0 own ic cls names, w.before args s' = true := fun w hw => vx_ot_at hW0 hvm.symm (hgood w (List.mem_cons_of_mem _ (List.mem_cons_of_mem _ hw))) (hat w hw)
  have hk' : (Cond.classLink own ik cls).before args s' = true := vx_ot_at hW0 hvm.symm (hgood _ List.mem_cons_self) hk
  have hini' : (Cond.initialized cls).before args s' = true := vx_ot_at hW0 hvm.symm (hgood _ (List.mem_cons_of_mem _ List.mem_cons_self)) hini
  have hU' : vx_Zq Bundle.tN "UNASSIGNED_STACK" Bundle.steD A s' s'.heap := by rw [hhp]; exact vx_Zq.moved hW0.alike (hU.kept hS.2.1)
  have hN' : vx_Zq Bundle.tN "SUPPRESSED_SENTINEL" Bundle.listD A s' s'.heap := by rw [hhp]; exact vx_Zq.moved hW0.alike (hN.kept hS.2.1)
  have h : ∀ w ∈ Bundle.ownAtoms0 own ic cls names, w.before args s' = true := vx_own hat' (vx_isRefq hU'.1) (vx_isRefq hN'.1) hU'.2.word hN'.2.word
  have hown' : s'.vm.findClass own = some m.cls := by rw [hvm]; exact hown
  have hins : (Cond.instantiable cls 6).before args s' = true := h _ (by simp [Bundle.ownAtoms0])
  obtain ⟨vm₁, cX, kX, hfX, hkX, -, -, X₁, st1⟩ := Y.newCold hexec (own := own) (C := cls) (index := ik) (n := 6) hown' hk' hins hini'
    (g := F0 m pc ls rest) rfl (by rw [hb]; exact d0) (Nat.le_refl _) (Nat.le_refl _)
  generalize hT1 : (T.setVm vm₁).pushCell { cls := cX, slots := kX.instanceTypes.map defaultValue, vm := .none } = T1 at X₁ st1
  have hcat : (Value.ref T.heap.size).category = 1 := rfl
  have hcellA : T1.heap[T.heap.size]? = some (freshCell cX kX) := by rw [← hT1]; exact State.heap_pushCell_size _ _
  have d3' : decode c.code (pc + 3) = .ok (.dup, 1) := by rw [hb]; exact d3
  obtain ⟨U, hsteps, hrun, hend, hW, hsame, ce, hce, hO⟩ := X₁.ctorThrow0 hexec htr (own := own) (cls := cls) (names := names) (ic := ic) hown' hcls hnames h (fun x hx => nomatch hx) hfX hkX hcellA (by rw [hhp, hT]; exact Nat.le_refl _)
    (g := { method := m, pc := pc + 4, locals := ls, stack := .ref T.heap.size :: .ref T.heap.size :: rest, locked := none }) rfl hsize rfl rfl (rest := rest) rfl
    (by rw [hb]; exact d4) (by rw [hb]; exact d7) hout hRframes (by simp only [List.map_cons, List.sum_cons, hcat]; omega) hlocks
  obtain ⟨f1, f2⟩ := vx_frame hsame
  rw [hhp] at f1 f2
  have hWs : s.WarmedH U.vm := State.WarmedH.trans hW0 hW
  have hcl : s.vm.findClass cls = some ce.cls := by
    have h9 := hO.cls
    rw [hvm] at h9
    exact h9
  have hall : s.sameButNew ({ U with vm := s.vm } : State) locs mc ms := by
    subst hA
    obtain ⟨e1, e2⟩ := hsame
    rw [State.setFrames_setFrames] at e1
    have h2 : (T.setVm s.vm).sameButNew ({ U with vm := s.vm } : State) [] (0 + 1) (0 + 6) := ⟨e1, e2⟩
    have h3 := X.same.trans h2
    rw [List.append_nil] at h3
    exact h3.mono hc hs
  refine ⟨U, ?_, .threw T.heap.size, hrun, hend, Or.inr ⟨T.heap.size, rfl, cls, ce, locs, hx U hWs.alike f1 (fun q hq => f2 q hq (fun z hz => nomatch hz)), hce, hO.vm, hcl, hWs, hall, hf⟩⟩
  refine st1 _ ?_
  show Steps p.tables e below (T1.setTop { method := m, pc := pc + 3, locals := ls, stack := .ref T.heap.size :: rest, locked := none }) _
  jvm_step X₁.here [X₁.here.top, hexec, d3', Value.category]
  exact hsteps
/-- 'throw new E("text")': new; dup; ldc; invokespecial; athrow -/
theorem vx_throwS {cc : ByteArray} {pc : Nat} (hexec : p.tables.exec = Jvm.exec) (hb : c.code = cc) (hl : l.stackTraces = false) {own cls text : String} {names : List String} {ik is ic mc ms sa : Nat} {A : Nat → Prop}
    (hown : s.vm.findClass own = some m.cls) (hcls : Bundle.fit cls = true) (hnames : ∀ n ∈ names, Bundle.fit n = true)
    (hk : (Cond.classLink own ik cls).before args s = true) (hini : (Cond.initialized cls).before args s = true) (hstr : vk_R own is text sa s) (hat : ∀ w ∈ vx_atS own ic cls names, w.before args s = true)
    (hgood : ∀ w ∈ Cond.classLink own ik cls :: Cond.initialized cls :: vx_atS own ic cls names, vx_ot w = true)
    (hU : vx_Zq Bundle.tN "UNASSIGNED_STACK" Bundle.steD A s s.heap) (hN : vx_Zq Bundle.tN "SUPPRESSED_SENTINEL" Bundle.listD A s s.heap) (hS : va_S A s.heap H locs) (hsize : ls.size = c.maxLocals)
    (d0 : decode cc pc = .ok (.new ik, 3)) (d3 : decode cc (pc + 3) = .ok (.dup, 1)) (d4 : decode cc (pc + 4) = .ok (.ldc is, 2)) (d6 : decode cc (pc + 6) = .ok (.invokespecial ic, 3)) (d9 : decode cc (pc + 9) = .ok (.athrow, 1))
    (hout : ∀ x ∈ c.exceptionTable.toList, covers x (pc + 9) = false)
    (hRframes : names.length + 3 < R.frames) (hRlocals : (rest.map fun v => v.category).sum + (13 * (names.length + 1) + 43) ≤ R.locals) (hRcells : cells + 1 ≤ R.cells) (hRslots : slots + 6 ≤ R.slots) (hlocks : meth.locks = false)
    (hx : ∀ t : State, s.vm.Alike t.vm → H.size ≤ t.heap.size → (∀ q : Nat, q < H.size → t.heap[q]? = H[q]?) → XC cls s t)
    (hf : ∀ z ∈ locs, free z.base) (hc : cells + 1 ≤ mc) (hs : slots + 6 ≤ ms) :
    W p l e R s m args below meth c H locs cells slots (vx_MQ below Qc XC args s mc ms free) (F0 m pc ls rest) := by
  intro T hT X
  have htr : e.platform.stackTraces = false := (show e.platform.stackTraces = l.stackTraces by rw [X.admits.platform]).trans hl
  have Y := vx_rebase X (R' := { frames := R.frames, locals := R.locals, cells := 1, slots := 6 }) (Nat.le_refl _) (Nat.le_refl _) hRcells hRslots
  obtain ⟨s', hA⟩ : ∃ z, z = (T.setVm s.vm).setFrames (.invoking m args :: below) := ⟨_, rfl⟩
  rw [← hA] at Y
  have hvm : s'.vm = s.vm := by rw [hA]; rfl
  have hhp : s'.heap = H := by rw [hA]; exact hT
  have hW0 : s.WarmedH s'.vm := by rw [hvm]; exact State.WarmedH.refl s
  have hat' : ∀ w ∈ vx_atS own ic cls names, w.before args s' = true := fun w hw => vx_ot_at hW0 hvm.symm (hgood w (List.mem_cons_of_mem _ (List.mem_cons_of_mem _ hw))) (hat w hw)
  have hk' : (Cond.classLink own ik cls).before args s' = true := vx_ot_at hW0 hvm.symm (hgood _ List.mem_cons_self) hk
  have hini' : (Cond.initialized cls).before args s' = true := vx_ot_at hW0 hvm.symm (hgood _ (List.mem_cons_of_mem _ List.mem_cons_self)) hini
  have hU' : vx_Zq Bundle.tN "UNASSIGNED_STACK" Bundle.steD A s' s'.heap := by rw [hhp]; exact vx_Zq.moved hW0.alike (hU.kept hS.2.1)
  have hN' : vx_Zq Bundle.tN "SUPPRESSED_SENTINEL" Bundle.listD A s' s'.heap := by rw [hhp]; exact vx_Zq.moved hW0.alike (hN.kept hS.2.1)
  have h : ∀ w ∈ Bundle.ownAtoms own ic cls names, w.before args s' = true := vx_own hat' (vx_isRefq hU'.1) (vx_isRefq hN'.1) hU'.2.word hN'.2.word
  have hown' : s'.vm.findClass own = some m.cls := by rw [hvm]; exact hown
  have hins : (Cond.instantiable cls 6).before args s' = true := h _ (by simp [Bundle.ownAtoms])
  obtain ⟨vm₁, cX, kX, hfX, hkX, -, -, X₁, st1⟩ := Y.newCold hexec (own := own) (C := cls) (index := ik) (n := 6) hown' hk' hins hini'
    (g := F0 m pc ls rest) rfl (by rw [hb]; exact d0) (Nat.le_refl _) (Nat.le_refl _)
  generalize hT1 : (T.setVm vm₁).pushCell { cls := cX, slots := kX.instanceTypes.map defaultValue, vm := .none } = T1 at X₁ st1
  have hcat : (Value.ref T.heap.size).category = 1 := rfl
  have hcellA : T1.heap[T.heap.size]? = some (freshCell cX kX) := by rw [← hT1]; exact State.heap_pushCell_size _ _
  have d3' : decode c.code (pc + 3) = .ok (.dup, 1) := by rw [hb]; exact d3
  have d4' : decode c.code (pc + 4) = .ok (.ldc is, 2) := by rw [hb]; exact d4
  have hstr' : vk_R own is text sa s' := vk_R.warm hW0 hstr
  obtain ⟨U, hsteps, hrun, hend, hW, hsame, ce, hce, hO⟩ := X₁.ctorThrowS hexec htr (own := own) (cls := cls) (names := names) (ic := ic) hown' hcls hnames h (fun x hx => nomatch hx) hfX hkX hcellA (by rw [hhp, hT]; exact Nat.le_refl _) (msg := .ref sa) rfl
    (g := { method := m, pc := pc + 6, locals := ls, stack := .ref sa :: .ref T.heap.size :: .ref T.heap.size :: rest, locked := none }) rfl hsize rfl rfl (rest := rest) rfl
    (by rw [hb]; exact d6) (by rw [hb]; exact d9) hout hRframes (by simp only [List.map_cons, List.sum_cons, hcat]; omega) hlocks
  obtain ⟨f1, f2⟩ := vx_frame hsame
  rw [hhp] at f1 f2
  have hWs : s.WarmedH U.vm := State.WarmedH.trans hW0 hW
  have hcl : s.vm.findClass cls = some ce.cls := by
    have h9 := hO.cls
    rw [hvm] at h9
    exact h9
  have hall : s.sameButNew ({ U with vm := s.vm } : State) locs mc ms := by
    subst hA
    obtain ⟨e1, e2⟩ := hsame
    rw [State.setFrames_setFrames] at e1
    have h2 : (T.setVm s.vm).sameButNew ({ U with vm := s.vm } : State) [] (0 + 1) (0 + 6) := ⟨e1, e2⟩
    have h3 := X.same.trans h2
    rw [List.append_nil] at h3
    exact h3.mono hc hs
  refine ⟨U, ?_, .threw T.heap.size, hrun, hend, Or.inr ⟨T.heap.size, rfl, cls, ce, locs, hx U hWs.alike f1 (fun q hq => f2 q hq (fun z hz => nomatch hz)), hce, hO.vm, hcl, hWs, hall, hf⟩⟩
  refine st1 _ ?_
  show Steps p.tables e below (T1.setTop { method := m, pc := pc + 3, locals := ls, stack := .ref T.heap.size :: rest, locked := none }) _
  jvm_step X₁.here [X₁.here.top, hexec, d3', Value.category]
  exact X₁.ldcString hexec (own := own) (text := text) (index := is) (a := sa) hown' hstr'.1 hstr'.2
    (g := { method := m, pc := pc + 4, locals := ls, stack := .ref T.heap.size :: .ref T.heap.size :: rest, locked := none }) rfl d4' _ hsteps
/-- 'throw new E("text")', the text by a wide index -/
theorem vx_throwSW {cc : ByteArray} {pc : Nat} (hexec : p.tables.exec = Jvm.exec) (hb : c.code = cc) (hl : l.stackTraces = false) {own cls text : String} {names : List String} {ik is ic mc ms sa : Nat} {A : Nat → Prop}
    (hown : s.vm.findClass own = some m.cls) (hcls : Bundle.fit cls = true) (hnames : ∀ n ∈ names, Bundle.fit n = true)
    (hk : (Cond.classLink own ik cls).before args s = true) (hini : (Cond.initialized cls).before args s = true) (hstr : vk_R own is text sa s) (hat : ∀ w ∈ vx_atS own ic cls names, w.before args s = true)
    (hgood : ∀ w ∈ Cond.classLink own ik cls :: Cond.initialized cls :: vx_atS own ic cls names, vx_ot w = true)
    (hU : vx_Zq Bundle.tN "UNASSIGNED_STACK" Bundle.steD A s s.heap) (hN : vx_Zq Bundle.tN "SUPPRESSED_SENTINEL" Bundle.listD A s s.heap) (hS : va_S A s.heap H locs) (hsize : ls.size = c.maxLocals)
    (d0 : decode cc pc = .ok (.new ik, 3)) (d3 : decode cc (pc + 3) = .ok (.dup, 1)) (d4 : decode cc (pc + 4) = .ok (.ldc_w is, 3)) (d7 : decode cc (pc + 7) = .ok (.invokespecial ic, 3)) (d10 : decode cc (pc + 10) = .ok (.athrow, 1))
    (hout : ∀ x ∈ c.exceptionTable.toList, covers x (pc + 10) = false)
    (hRframes : names.length + 3 < R.frames) (hRlocals : (rest.map fun v => v.category).sum + (13 * (names.length + 1) + 43) ≤ R.locals) (hRcells : cells + 1 ≤ R.cells) (hRslots : slots + 6 ≤ R.slots) (hlocks : meth.locks = false)
    (hx : ∀ t : State, s.vm.Alike t.vm → H.size ≤ t.heap.size → (∀ q : Nat, q < H.size → t.heap[q]? = H[q]?) → XC cls s t)
    (hf : ∀ z ∈ locs, free z.base) (hc : cells + 1 ≤ mc) (hs : slots + 6 ≤ ms) :
    W p l e R s m args below meth c H locs cells slots (vx_MQ below Qc XC args s mc ms free) (F0 m pc ls rest) := by
  intro T hT X
  have htr : e.platform.stackTraces = false := (show e.platform.stackTraces = l.stackTraces by rw [X.admits.platform]).trans hl
  have Y := vx_rebase X (R' := { frames := R.frames, locals := R.locals, cells := 1, slots := 6 }) (Nat.le_refl _) (Nat.le_refl _) hRcells hRslots
  obtain ⟨s', hA⟩ : ∃ z, z = (T.setVm s.vm).setFrames (.invoking m args :: below) := ⟨_, rfl⟩
  rw [← hA] at Y
  have hvm : s'.vm = s.vm := by rw [hA]; rfl
  have hhp : s'.heap = H := by rw [hA]; exact hT
  have hW0 : s.WarmedH s'.vm := by rw [hvm]; exact State.WarmedH.refl s
  have hat' : ∀ w ∈ vx_atS own ic cls names, w.before args s' = true := fun w hw => vx_ot_at hW0 hvm.symm (hgood w (List.mem_cons_of_mem _ (List.mem_cons_of_mem _ hw))) (hat w hw)
  have hk' : (Cond.classLink own ik cls).before args s' = true := vx_ot_at hW0 hvm.symm (hgood _ List.mem_cons_self) hk
  have hini' : (Cond.initialized cls).before args s' = true := vx_ot_at hW0 hvm.symm (hgood _ (List.mem_cons_of_mem _ List.mem_cons_self)) hini
  have hU' : vx_Zq Bundle.tN "UNASSIGNED_STACK" Bundle.steD A s' s'.heap := by rw [hhp]; exact vx_Zq.moved hW0.alike (hU.kept hS.2.1)
  have hN' : vx_Zq Bundle.tN "SUPPRESSED_SENTINEL" Bundle.listD A s' s'.heap := by rw [hhp]; exact vx_Zq.moved hW0.alike (hN.kept hS.2.1)
  have h : ∀ w ∈ Bundle.ownAtoms own ic cls names, w.before args s' = true := vx_own hat' (vx_isRefq hU'.1) (vx_isRefq hN'.1) hU'.2.word hN'.2.word
  have hown' : s'.vm.findClass own = some m.cls := by rw [hvm]; exact hown
  have hins : (Cond.instantiable cls 6).before args s' = true := h _ (by simp [Bundle.ownAtoms])
  obtain ⟨vm₁, cX, kX, hfX, hkX, -, -, X₁, st1⟩ := Y.newCold hexec (own := own) (C := cls) (index := ik) (n := 6) hown' hk' hins hini'
    (g := F0 m pc ls rest) rfl (by rw [hb]; exact d0) (Nat.le_refl _) (Nat.le_refl _)
  generalize hT1 : (T.setVm vm₁).pushCell { cls := cX, slots := kX.instanceTypes.map defaultValue, vm := .none } = T1 at X₁ st1
  have hcat : (Value.ref T.heap.size).category = 1 := rfl
  have hcellA : T1.heap[T.heap.size]? = some (freshCell cX kX) := by rw [← hT1]; exact State.heap_pushCell_size _ _
  have d3' : decode c.code (pc + 3) = .ok (.dup, 1) := by rw [hb]; exact d3
  have d4' : decode c.code (pc + 4) = .ok (.ldc_w is, 3) := by rw [hb]; exact d4
  have hstr' : vk_R own is text sa s' := vk_R.warm hW0 hstr
  obtain ⟨U, hsteps, hrun, hend, hW, hsame, ce, hce, hO⟩ := X₁.ctorThrowS hexec htr (own := own) (cls := cls) (names := names) (ic := ic) hown' hcls hnames h (fun x hx => nomatch hx) hfX hkX hcellA (by rw [hhp, hT]; exact Nat.le_refl _) (msg := .ref sa) rfl
    (g := { method := m, pc := pc + 7, locals := ls, stack := .ref sa :: .ref T.heap.size :: .ref T.heap.size :: rest, locked := none }) rfl hsize rfl rfl (rest := rest) rfl
    (by rw [hb]; exact d7) (by rw [hb]; exact d10) hout hRframes (by simp only [List.map_cons, List.sum_cons, hcat]; omega) hlocks
  obtain ⟨f1, f2⟩ := vx_frame hsame
  rw [hhp] at f1 f2
  have hWs : s.WarmedH U.vm := State.WarmedH.trans hW0 hW
  have hcl : s.vm.findClass cls = some ce.cls := by
    have h9 := hO.cls
    rw [hvm] at h9
    exact h9
  have hall : s.sameButNew ({ U with vm := s.vm } : State) locs mc ms := by
    subst hA
    obtain ⟨e1, e2⟩ := hsame
    rw [State.setFrames_setFrames] at e1
    have h2 : (T.setVm s.vm).sameButNew ({ U with vm := s.vm } : State) [] (0 + 1) (0 + 6) := ⟨e1, e2⟩
    have h3 := X.same.trans h2
    rw [List.append_nil] at h3
    exact h3.mono hc hs
  refine ⟨U, ?_, .threw T.heap.size, hrun, hend, Or.inr ⟨T.heap.size, rfl, cls, ce, locs, hx U hWs.alike f1 (fun q hq => f2 q hq (fun z hz => nomatch hz)), hce, hO.vm, hcl, hWs, hall, hf⟩⟩
  refine st1 _ ?_
  show Steps p.tables e below (T1.setTop { method := m, pc := pc + 3, locals := ls, stack := .ref T.heap.size :: rest, locked := none }) _
  jvm_step X₁.here [X₁.here.top, hexec, d3', Value.category]
  exact X₁.ldcStringW hexec (own := own) (text := text) (index := is) (a := sa) hown' hstr'.1 hstr'.2
    (g := { method := m, pc := pc + 4, locals := ls, stack := .ref T.heap.size :: .ref T.heap.size :: rest, locked := none }) rfl d4' _ hsteps
end Ends
section Bodies
variable {l : Launch}
theorem vx_ofW {y : MethodName} {ws ws' : List Cond} {rm : Room} {Pc : Array Value → State → Prop} {Qc : Array Value → State → Outcome → State → Prop} {XC : String → State → State → Prop} {mc ms : Nat} {free : Addr → Prop} {cc : ByteArray} {maxL : Nat} {ret : Option FieldType}
    (hy : plainName y.cls = true) (hw : ws = Cond.code y cc maxL ret :: ws')
    (body : ∀ p e s m args below meth c s₁, BodyLoose p l y (headSpec ws rm) cc maxL ret e s m args below meth c s₁ → c.maxLocals = maxL → (∀ x ∈ c.exceptionTable.toList, False) → Pc args s →
      W p l e (headSpec ws rm).room s m args below meth c s.heap [] 0 0 (vx_MQ below Qc XC args s mc ms free) (entryFrame m args maxL)) : vx_Met l y ws rm Pc Qc XC mc ms free := by
  refine MetFree.of_bodyS (code := cc) (maxLocals := maxL) (ret := ret) hy ?_ ?_
  · intro args s m h hn
    obtain ⟨meth, c, h1, h2, h3, h4, h5, h6, -, -⟩ := Cond.code_spec hn (atoms_spec (ws := ws) h _ (by rw [hw]; exact List.mem_cons_self))
    exact ⟨meth, c, h1, h2, h3, h4, h5, h6⟩
  · intro p e s m args below meth c s₁ B hml hP _
    have hh0 : s₁.heap = s.heap := by rw [B.state]; rfl
    have ht : ∀ x ∈ c.exceptionTable.toList, False := by
      obtain ⟨meth9, c9, h1, h2, -, -, -, -, h7, -⟩ := Cond.code_spec B.named (atoms_spec (ws := ws) B.pre _ (by rw [hw]; exact List.mem_cons_self))
      cases Option.some.inj (h1.symm.trans B.method)
      cases Option.some.inj (h2.symm.trans (Stand.of_body B).code)
      intro x hx
      rw [Array.isEmpty_iff.mp h7] at hx
      cases hx
    obtain ⟨t, a1, o, b1, b2, b3⟩ := body p e s m args below meth c s₁ B hml ht hP s₁ hh0 (Stand.of_body B)
    exact ⟨t, o, a1, b1, b2, b3⟩
/-- the table of a body with handlers -/
theorem vx_table {p : Program} {x y : MethodName} {S : Spec} {cc bytes : ByteArray} {maxL maxL' : Nat} {ret ret' : Option FieldType} {e : Env} {s s₁ : State} {m : MethodId} {args : Array Value} {below : List Frame} {meth : Method} {c : Code} {hh : List (Nat × Nat × Nat × Nat)}
    (B : BodyLoose p l y S cc maxL ret e s m args below meth c s₁) (h : (Cond.codeWith y bytes maxL' ret' hh).before args s = true) : c.exceptionTable.toList = tableOf hh := by
  obtain ⟨m9, meth9, c9, hn9, h1, h2, -, -, h6, -⟩ := Cond.codeWith_spec h
  cases Option.some.inj (hn9.symm.trans B.named)
  cases Option.some.inj (h1.symm.trans B.method)
  cases Option.some.inj (h2.symm.trans (Stand.of_body B).code)
  rw [← h6, table_eq]
end Bodies
end VXA
/-! ===== END ===== -/
/-! ===== BEGIN a static call of a method with an exception table ===== -/
section VXS
variable {p : Program} {l : Launch} {e : Env} {R : Room} {s : State} {m : MethodId} {args : Array Value} {below : List Frame} {meth : Method} {c : Code} {T : State} {H : Heap} {locs : List Loc} {cells slots : Nat}
abbrev vx_CSW (R : Room) (s : State) (args : Array Value) (own : String) (index : Nat) (y : MethodName) (bytes : ByteArray) (maxL : Nat) (ret : Option FieldType) (hh : List (Nat × Nat × Nat × Nat)) (ws : List Cond) (rm : Room) (mc ms n : Nat) : Prop :=
  (rm.cells = mc ∧ rm.slots = ms ∧ rm.frames + 1 ≤ R.frames ∧ 8 + (maxL + 11) + rm.locals ≤ R.locals ∧ (∀ w ∈ ws, ∀ (a' : Array Value) (U : State), s.WarmedH U.vm → w.before a' U = true) ∧ Cond.codeWith y bytes maxL ret hh ∈ ws) ∧
  (Cond.codeWith y bytes maxL ret hh).before args s = true ∧ (Cond.initialized y.cls).before args s = true ∧ (y.cls ≠ "java/lang/invoke/MethodHandle" ∧ y.cls ≠ "java/lang/invoke/VarHandle") ∧
  (∀ sig, parseMethodDescriptor y.desc = some sig → n = sig.parameters.length) ∧ (Cond.methodLink own index y).before args s = true ∧ (Cond.static y).before args s = true
theorem vx_cwSW {own : String} {index maxL mc ms : Nat} {y : MethodName} {bytes : ByteArray} {ret : Option FieldType} {hh : List (Nat × Nat × Nat × Nat)} {Ts ws ws' : List Cond} {rm : Room} (n : Nat) (ht : ∀ w ∈ Ts, w.before args s = true) (hT : GoodIn Ts (va_wsS own index y ws)) (hw : ws = Cond.codeWith y bytes maxL ret hh :: ws') (hrc : rm.cells = mc) (hrs : rm.slots = ms)
    (hd : y.cls ≠ "java/lang/invoke/MethodHandle" ∧ y.cls ≠ "java/lang/invoke/VarHandle" ∧ (parseMethodDescriptor y.desc).map (fun d => d.parameters.length) = some n) (hR : rm.frames + 1 ≤ R.frames ∧ 8 + (maxL + 11) + rm.locals ≤ R.locals) :
    vx_CSW R s args own index y bytes maxL ret hh ws rm mc ms n := by
  have ok : ∀ w ∈ va_wsS own index y ws, w.before args s = true := fun w h => ht w (hT w h).1
  have hG : GoodIn Ts ws := fun w h => hT w (by unfold va_wsS; exact List.mem_append_right _ h)
  have hc : Cond.codeWith y bytes maxL ret hh ∈ ws := by rw [hw]; exact List.mem_cons_self
  refine ⟨⟨hrc, hrs, hR.1, hR.2, pay_in ht hG, hc⟩, ht _ (hG _ hc).1, ok _ (by simp [va_wsS]), ⟨hd.1, hd.2.1⟩, fun sig h => ?_, ok _ (by simp [va_wsS]), ok _ (by simp [va_wsS])⟩
  have h2 := hd.2.2
  rw [h] at h2
  exact (Option.some.inj h2).symm
theorem vx_callSW (X : Stand p l e R s m args below meth c T locs cells slots) (hexec : p.tables.exec = Jvm.exec) {own : String} {index : Nat} {y : MethodName} {bytes : ByteArray} {maxL : Nat} {ret : Option FieldType} {hh : List (Nat × Nat × Nat × Nat)}
    (hown : s.vm.findClass own = some m.cls) (hlink : (Cond.methodLink own index y).before args s = true) (hstat : (Cond.static y).before args s = true) (hinit : (Cond.initialized y.cls).before args s = true)
    (hcode : (Cond.codeWith y bytes maxL ret hh).before args s = true) (hy : y.cls ≠ "java/lang/invoke/MethodHandle" ∧ y.cls ≠ "java/lang/invoke/VarHandle")
    {W9 : Nat} {Pre : Pt → Array Value → Prop} {Post : Pt → Array Value → Option Value → Pt → Prop} (hK : Back l R p e below s args y 3 W9 Pre Post)
    {g : JFrame} (hg : g.method = m) (hsize : g.locals.size = c.maxLocals) {argsL rest : List Value} (hlen : ∀ sig, parseMethodDescriptor y.desc = some sig → argsL.length = sig.parameters.length)
    (hstack : g.stack = argsL.reverse ++ rest) (hW : 2 * g.monitorRoom + (rest.map fun v => v.category).sum ≤ W9) (hdg : decode c.code g.pc = .ok (.invokestatic index, 3))
    (hpre : ∀ vm₁, s.WarmedH vm₁ → Pre ⟨T.setVm vm₁, locs, cells, slots⟩ argsL.toArray) :
    ∃ (v : Option Value) (vm₁ : Vm) (B : Pt), s.WarmedH vm₁ ∧ Stand p l e R s m args below meth c B.U B.locs B.cells B.slots ∧ Post ⟨T.setVm vm₁, locs, cells, slots⟩ argsL.toArray v B ∧
      ∀ target, Steps p.tables e below (B.U.setTop { g with pc := g.pc + 3, stack := v.toList ++ rest }) target → Steps p.tables e below (T.setTop g) target := by
  obtain ⟨mk, methM, cM, hnamed, hmethM, -, -, -, -, -, -, hsigM⟩ := Cond.codeWith_spec hcode
  have hstatic : methM.isStatic = true := Cond.static_spec hnamed hmethM hstat
  obtain ⟨kP, hkP, -⟩ := className_of_methodNamed hnamed
  have hinitP : kP.init = .initialized := Cond.initialized_spec (findClass_of_methodNamed hnamed) hkP hinit
  obtain ⟨vm₁, X₁, hstep₁⟩ := X.invokestatic hexec hown hlink hnamed hmethM hstatic hkP hinitP hy (g := g) hg (argsL := argsL) (rest := rest) (hlen _ hsigM) hstack hdg
  obtain ⟨v, B, X', hpost, hsteps⟩ := hK m meth c ⟨T.setVm vm₁, locs, cells, slots⟩ { g with stack := rest } (.invokestatic index) mk argsL.toArray X₁ hg hsize hdg hW (X₁.named hnamed) (hpre vm₁ X₁.warmed)
  exact ⟨v, vm₁, B, X₁.warmed, X', hpost, fun target h => hstep₁ _ fun acts => by rw [doInvoke_state]; exact hsteps.trans h⟩
theorem vx_runSW {y : MethodName} {bytes cc : ByteArray} {maxL nL mc ms n index : Nat} {ret : Option FieldType} {hh : List (Nat × Nat × Nat × Nat)} {ws : List Cond} {rm : Room} {Pc : Array Value → State → Prop} {Qc : Array Value → State → Outcome → State → Prop} {free : Addr → Prop} {Ts : List Cond} {own : String} {As rest : List Value} {g : JFrame}
    (S : CallFix p m c cc nL s args Ts own) (hM : Met l y ws rm Pc Qc mc ms free) (cw : vx_CSW R s args own index y bytes maxL ret hh ws rm mc ms n) (hp : PreS s H Pc As)
    (hg : g.method = m) (hn : As.length = n) (hsize : g.locals.size = nL) (hstack : g.stack = As.reverse ++ rest) (hW : 2 * g.monitorRoom + (rest.map fun v => v.category).sum ≤ 8) (hdg : decode cc g.pc = .ok (.invokestatic index, 3)) (hf : cells + mc ≤ R.cells ∧ slots + ms ≤ R.slots) :
    va_Run p l e R s m args below meth c H locs cells slots mc ms g rest (Qc As.toArray) (free) := by
  obtain ⟨⟨hrc, hrs, hfr, hlo, hws, hcw⟩, hcode, hini, hy, hlen, hl, hstt⟩ := cw
  have hK : Back l R p e below s args y 3 8 (PreOf R mc ms Pc) (PostOf Qc mc ms free) := va_backW (hh := hh) (bytes := bytes) (maxL := maxL) (ret := ret) hM hp.1 hrc hrs hfr hlo hws hcw (fun a' U hW => word_at hW (Or.inl (by first | rfl | simp [Cond.onTables, Cond.keeps, Cond.steady])) hini)
  obtain ⟨hx, hb, hml, ho, -⟩ := S
  intro T hT X
  obtain ⟨v, vm₁, ⟨U', l2, c2, s2⟩, hW₁, X', ⟨g', mk, t, L, e1, e2, hq, h1, hL, h2, h3⟩, st⟩ := vx_callSW X hx (hh := hh) (bytes := bytes) (maxL := maxL) (ret := ret) ho hl hstt hini hcode hy hK hg (hsize.trans hml.symm) (argsL := As) (rest := rest) (fun sig h => hn.trans (hlen sig h)) hstack hW (by rw [hb]; exact hdg)
    (fun vm₁ hW₁ => ⟨hf.1, hf.2, hp.2 (T.setVm vm₁) hT hW₁⟩)
  dsimp only [Pt.U, Pt.locs, Pt.cells, Pt.slots] at X' e1 e2 h1 h2 h3 st
  subst h1; subst h2; subst h3
  exact ⟨v, (T.setVm vm₁).calling g' mk As.toArray, t, U', L, hT, X', hL, e1, e2, hq, st⟩
/-- not caught here, past rows that name other classes: it goes on to the caller -/
theorem vx_outP {p : Program} {l : Launch} {e : Env} {R : Room} {s : State} {m : MethodId} {args : Array Value} {below : List Frame} {meth : Method} {c : Code} {H : Heap} {locs : List Loc} {cells slots : Nat} {free : Addr → Prop} {ls : Array Slot} {rest : List Value} {Qc : Array Value → State → Outcome → State → Prop} {XC : String → State → State → Prop}
    {pc : Nat} {own E : String} {ce : Cell} {q : Addr} {mc ms : Nat} (hown : s.vm.findClass own = some m.cls) (hlocks : meth.locks = false)
    (hpass : ∀ z ∈ c.exceptionTable.toList, covers z pc = false ∨ (z.catchType ≠ 0 ∧ ∃ nm : String, (Cond.classLink own z.catchType nm).before args s = true ∧ va_Nc E nm s)) (hcell : H[q]? = some ce) (hv : ce.vm = .none) (hcl : s.vm.findClass E = some ce.cls)
    (hx : ∀ t : State, t.heap = H → s.vm.Alike t.vm → XC E s t) (hf : ∀ z ∈ locs, free z.base) (hc : cells ≤ mc) (hs : slots ≤ ms) :
    vx_W p l e R s m args below meth c H locs cells slots (vx_MQ below Qc XC args s mc ms free) (F0 m pc ls rest) q := by
  intro T hT X
  have hpl : e.platform.magicAccessors = ({} : Platform).magicAccessors := by rw [X.admits.platform]
  obtain ⟨vm', hW', X', st⟩ := X.outThrough hlocks q (g := F0 m pc ls rest) rfl rfl rfl (cell := ce) (by rw [hT]; exact hcell) (by rw [hv]; rfl)
    (by obtain ⟨k9, h9, -⟩ := Vm.findClass_spec hcl; exact ⟨k9, h9⟩) (fun z hz => by
      rcases hpass z hz with h | ⟨hz0, nm, hl1, hn1⟩
      · exact Or.inl h
      · obtain ⟨c6, hc6, hcl6⟩ := Cond.classLink_spec hown hl1 e.platform hpl
        obtain ⟨a8, b8, h1, h2, h3⟩ := hn1
        cases Option.some.inj (h1.symm.trans hcl)
        cases Option.some.inj (h2.symm.trans hc6)
        exact Or.inr ⟨hz0, _, hcl6, h3⟩)
  obtain ⟨g₀, hfr⟩ := X'.frames_eq
  have hcell9 : ((T.setVm vm').setFrames (.throwing q :: below)).heap[q]? = some ce := by
    show T.heap[q]? = some ce
    rw [hT]; exact hcell
  have hend : Ended ((T.setVm vm').setFrames (.throwing q :: below)) below (.threw q) := State.frames_setFrames _ (State.cur_lt_of_frames hfr)
  refine ⟨(T.setVm vm').setFrames (.throwing q :: below), ?_, .threw q, X'.here.running, hend, Or.inr ⟨q, rfl, E, ce, locs, hx _ hT (X'.ends _).1.alike, hcell9, hv, hcl, (X'.ends _).1, (X'.ends _).2.mono hc hs, hf⟩⟩
  rw [X.pushThrowing_eq]
  exact st
/-- a thing of a world lies in the heap -/
theorem vx_lt {D : va_G} {cl : List vw_C} {ws : va_W} {H1 : Heap} (h : va_P D cl ws H1) {k : Nat} {q : Nat × va_E} (hk : ws[k]? = some q) : q.1 < H1.size := (h k q hk).lt
end VXS
/-! ===== END ===== -/
/-! ===== BEGIN methods with a table of their own: called by a name, returning or throwing ===== -/
section VXH
/-! vx_backW, vx_callVX, vx_callSX, vx_callVW, vx_runVW, vx_runVX, vx_runSX, vx_ofWH follow the same proofs as their sisters above (Free/Laws.lean, Shelf42/LK1.lean); vx_outP calls Shelf42/NT130.lean (outThrough). -/
section
variable {l : Launch} {R : Room} {p : Program} {e : Env} {below : List Frame} {s : State} {sargs : Array Value} {y : MethodName} {len W9 : Nat}
theorem vx_backW {ws : List Cond} {rm : Room} {Pc : Array Value → State → Prop} {Qc : Array Value → State → Outcome → State → Prop} {XC : String → State → State → Prop} {mc ms : Nat} {free : Addr → Prop} {bytes : ByteArray} {maxL : Nat} {ret : Option FieldType} {hh : List (Nat × Nat × Nat × Nat)}
    (hM : vx_Met l y ws rm Pc Qc XC mc ms free) (hblind : FrameBlind Pc) (hrc : rm.cells = mc) (hrs : rm.slots = ms)
    (hframes : rm.frames + 1 ≤ R.frames) (hlocals : W9 + (maxL + 11) + rm.locals ≤ R.locals)
    (hws : ∀ w ∈ ws, ∀ a' U, s.WarmedH U.vm → w.before a' U = true) (hcode : Cond.codeWith y bytes maxL ret hh ∈ ws) (hinit : ∀ a' U, s.WarmedH U.vm → (Cond.initialized y.cls).before a' U = true) :
    vx_Back l R p e below s sargs y len W9 (PreOf R mc ms Pc) (PostOf Qc mc ms free) (vx_Post XC mc ms free) := by
  intro m meth c A g ig mk a X hg hsize hdg hW hn hp
  have h1 : (headSpec ws rm).pre.before a A.U = true := atoms_intro fun w hw => hws w hw _ _ X.warmed
  have h2 : (Cond.codeWith y bytes maxL ret hh).before a A.U = true := hws _ hcode _ _ X.warmed
  have h3 : (Cond.initialized y.cls).before a A.U = true := hinit _ _ X.warmed
  have h4 : A.cells + (headSpec ws rm).room.cells ≤ R.cells := by rw [show (headSpec ws rm).room.cells = mc from hrc]; exact hp.1
  have h5 : A.slots + (headSpec ws rm).room.slots ≤ R.slots := by rw [show (headSpec ws rm).room.slots = ms from hrs]; exact hp.2.1
  have hPc : Pc a (A.U.calling g mk a) := hblind _ _ _ _ hp.2.2
  obtain ⟨U, Ls, c0, s0⟩ := A
  dsimp only [Pt.U, Pt.locs, Pt.cells, Pt.slots] at h1 h2 h3 h4 h5 X hn hPc ⊢
  obtain ⟨m9, methY, cY, hn9, hmY, hcY, -, hlY, -⟩ := Cond.codeWith_spec h2
  cases Option.some.inj (hn9.symm.trans hn)
  obtain ⟨kY, hkY, -⟩ := className_of_methodNamed hn
  have hinitY : kY.init = .initialized := Cond.initialized_spec (findClass_of_methodNamed hn) hkY h3
  have h : At U g.method c below := by rw [hg]; exact X.here
  have hlocals9 : W9 + (maxL + 11) + (headSpec ws rm).room.locals ≤ R.locals := hlocals
  have happ : (headSpec ws rm).appliesLoose y e.platform (U.calling g mk a) = true :=
    Spec.appliesLoose_calling (g := g) h hdg hn hkY hinitY
      (X.room_calling (g := g) (R' := (headSpec ws rm).room) hsize hmY hcY hframes (by rw [hlY]; omega) h4 h5) h1
  obtain ⟨mid, hmid⟩ := h.above
  have hfr : (U.setTop g).frames = (.java g :: mid) ++ below := by rw [State.frames_setTop' g h.top, hmid]; rfl
  obtain ⟨o, s₂, hsteps, -, hend, hq⟩ := Steps.callFree hM p X.admits X.cas X.clock (acts := []) hfr happ hPc trivial
  have hq' : vx_Q Qc XC mc ms free a (U.calling g mk a) o s₂ := hq
  rw [State.frames_setTop' g h.top] at hend
  obtain ⟨g₀, hg0⟩ := Option.isSome_iff_exists.mp h.top
  obtain ⟨r, hr⟩ := State.topJava?_eq_some.mp hg0
  have hr' : (({ U with heap := s₂.heap, slotsUsed := s₂.slotsUsed } : State).setVm s₂.vm).frames = .java g₀ :: r := hr
  rcases hq' with ⟨hqc, L, hfe, hL⟩ | ⟨q, rfl, E, ce, L, hx, hce, hcv, hcl, hW₂, hsm, hL⟩
  · obtain ⟨⟨v, rfl⟩, hW₂, e2, q2, q3, q4, q5, q6⟩ := id hfe
    have e3 : s₂ = ({ (U.calling g mk a).setFrames s₂.frames with heap := s₂.heap, slotsUsed := s₂.slotsUsed } : State).setVm s₂.vm := by
      have : s₂ = ({ s₂ with vm := (U.calling g mk a).vm } : State).setVm s₂.vm := rfl
      rw [e2] at this
      exact this
    obtain ⟨c₂, i₂, len₂, hc₂, hd₂, hf₂⟩ := hend
    have hW' : U.WarmedH s₂.vm := hW₂
    have hcc : c₂ = c := by
      have h1 : s₂.code? g.method = U.code? g.method := by
        rw [State.code?_eq, State.code?_eq, hW'.alike.method?]
      exact Option.some.inj (hc₂.symm.trans (h1.trans h.code))
    subst hcc
    have hlen : len₂ = len := by rw [hdg] at hd₂; cases hd₂; rfl
    subst hlen
    have hs₂ : s₂ = (({ U with heap := s₂.heap, slotsUsed := s₂.slotsUsed } : State).setVm s₂.vm).setTop { g with pc := g.pc + len₂, stack := v.toList ++ g.stack } := by
      refine e3.trans ?_
      rw [hf₂, State.calling_eq h.top, State.setFrames_setFrames, State.setTop_of_frames _ hr', hr]
      rfl
    have hsame : U.sameButNew ({ U with heap := s₂.heap, slotsUsed := s₂.slotsUsed } : State) L mc ms := by
      refine ⟨?_, q2, q3, q4, q5, q6⟩
      obtain ⟨t, ht, -⟩ := State.frames_cons hr
      show ({ U with heap := s₂.heap, slotsUsed := s₂.slotsUsed } : State) = { U.setFrames U.frames with heap := s₂.heap, slotsUsed := s₂.slotsUsed }
      rw [State.setFrames_self ht]
    subst hg
    refine Or.inl ⟨v, ⟨(({ U with heap := s₂.heap, slotsUsed := s₂.slotsUsed } : State).setVm s₂.vm), Ls ++ L, c0 + mc, s0 + ms⟩,
      ⟨X.admits, X.cas, X.clock, X.frames, X.room, X.hears, X.method, X.code, (X.here.setHeapUsed s₂.heap s₂.slotsUsed).setVm hW'.alike, X.tail, State.WarmedH.trans X.warmed hW', X.limits, X.bytes, X.same.trans (hsame.setVm s.vm)⟩,
      ⟨g, mk, s₂, L, rfl, rfl, hqc, rfl, hL, rfl, rfl⟩, ?_⟩
    show Steps p.tables e below _ ((({ U with heap := s₂.heap, slotsUsed := s₂.slotsUsed } : State).setVm s₂.vm).setTop { g with pc := g.pc + len₂, stack := v.toList ++ g.stack })
    rw [← hs₂]
    exact hsteps
  · obtain ⟨e2, q2, q3, q4, q5, q6⟩ := id hsm
    have e3 : s₂ = ({ (U.calling g mk a).setFrames s₂.frames with heap := s₂.heap, slotsUsed := s₂.slotsUsed } : State).setVm s₂.vm := by
      have : s₂ = ({ s₂ with vm := (U.calling g mk a).vm } : State).setVm s₂.vm := rfl
      rw [e2] at this
      exact this
    have hf₂ : s₂.frames = .throwing q :: .java g :: U.frames.tail := hend
    have hW' : U.WarmedH s₂.vm := hW₂
    have hs₂ : s₂ = ((({ U with heap := s₂.heap, slotsUsed := s₂.slotsUsed } : State).setVm s₂.vm).setTop g).pushFrame (.throwing q) := by
      refine e3.trans ?_
      rw [hf₂, State.calling_eq h.top, State.setFrames_setFrames, State.pushFrame, State.frames_setTop _ hr', State.setTop_of_frames _ hr', State.setFrames_setFrames, hr]
      rfl
    have hsame : U.sameButNew ({ U with heap := s₂.heap, slotsUsed := s₂.slotsUsed } : State) L mc ms := by
      refine ⟨?_, q2, q3, q4, q5, q6⟩
      obtain ⟨t, ht, -⟩ := State.frames_cons hr
      show ({ U with heap := s₂.heap, slotsUsed := s₂.slotsUsed } : State) = { U.setFrames U.frames with heap := s₂.heap, slotsUsed := s₂.slotsUsed }
      rw [State.setFrames_self ht]
    subst hg
    refine Or.inr ⟨q, ⟨(({ U with heap := s₂.heap, slotsUsed := s₂.slotsUsed } : State).setVm s₂.vm), Ls ++ L, c0 + mc, s0 + ms⟩,
      ⟨X.admits, X.cas, X.clock, X.frames, X.room, X.hears, X.method, X.code, (X.here.setHeapUsed s₂.heap s₂.slotsUsed).setVm hW'.alike, X.tail, State.WarmedH.trans X.warmed hW', X.limits, X.bytes, X.same.trans (hsame.setVm s.vm)⟩,
      ⟨g, mk, s₂, L, E, ce, rfl, rfl, hx, hce, hcv, hcl, rfl, hL, rfl, rfl⟩, ?_⟩
    show Steps p.tables e below _ (((({ U with heap := s₂.heap, slotsUsed := s₂.slotsUsed } : State).setVm s₂.vm).setTop g).pushFrame (.throwing q))
    rw [← hs₂]
    exact hsteps
end
variable {p : Program} {l : Launch} {e : Env} {R : Room} {s : State} {m : MethodId} {args : Array Value} {below : List Frame} {meth : Method} {c : Code} {T : State} {H : Heap} {locs : List Loc} {cells slots : Nat}
theorem vx_callVX (X : Stand p l e R s m args below meth c T locs cells slots) (hexec : p.tables.exec = Jvm.exec) {own C : String} {index : Nat} {y : MethodName} {bytes : ByteArray} {maxL : Nat} {ret : Option FieldType} {hh : List (Nat × Nat × Nat × Nat)}
    (hown : s.vm.findClass own = some m.cls) (hlink : (Cond.methodLink own index y).before args s = true) (hinst : (Cond.instanceMethod y).before args s = true) (hsel : (Cond.selects C y y).before args s = true)
    (hcode : (Cond.codeWith y bytes maxL ret hh).before args s = true) (hy : y.cls ≠ "java/lang/invoke/MethodHandle" ∧ y.cls ≠ "java/lang/invoke/VarHandle")
    {W9 : Nat} {Pre : Pt → Array Value → Prop} {Post : Pt → Array Value → Option Value → Pt → Prop} {PostX : Pt → Array Value → Addr → Pt → Prop} (hK : vx_Back l R p e below s args y 3 W9 Pre Post PostX)
    {b : Addr} {cellB : Cell} (hcell : T.heap[b]? = some cellB) (hobj : cellB.vm.isStatics = false) (hcls : s.vm.findClass C = some cellB.cls)
    {g : JFrame} (hg : g.method = m) (hsize : g.locals.size = c.maxLocals) {argsL rest : List Value} (hlen : ∀ sig, parseMethodDescriptor y.desc = some sig → argsL.length = sig.parameters.length)
    (hstack : g.stack = argsL.reverse ++ .ref b :: rest) (hW : 2 * g.monitorRoom + (rest.map fun v => v.category).sum ≤ W9) (hdg : decode c.code g.pc = .ok (.invokevirtual index, 3))
    (hpre : ∀ vm₁, s.WarmedH vm₁ → Pre ⟨T.setVm vm₁, locs, cells, slots⟩ (Value.ref b :: argsL).toArray) :
    (∃ (v : Option Value) (vm₁ : Vm) (B : Pt), s.WarmedH vm₁ ∧ Stand p l e R s m args below meth c B.U B.locs B.cells B.slots ∧ Post ⟨T.setVm vm₁, locs, cells, slots⟩ (Value.ref b :: argsL).toArray v B ∧
      ∀ target, Steps p.tables e below (B.U.setTop { g with pc := g.pc + 3, stack := v.toList ++ rest }) target → Steps p.tables e below (T.setTop g) target) ∨
    (∃ (q : Addr) (vm₁ : Vm) (B : Pt), s.WarmedH vm₁ ∧ Stand p l e R s m args below meth c B.U B.locs B.cells B.slots ∧ PostX ⟨T.setVm vm₁, locs, cells, slots⟩ (Value.ref b :: argsL).toArray q B ∧
      Steps p.tables e below (T.setTop g) ((B.U.setTop { g with stack := rest }).pushFrame (.throwing q))) := by
  obtain ⟨mk, methM, hnamed, hmethM, hstM, habM⟩ := Cond.instanceMethod_spec hinst
  obtain ⟨m8, methM', cM, hn8, hmethM', -, -, -, -, -, -, hsigM⟩ := Cond.codeWith_spec hcode
  cases Option.some.inj (hn8.symm.trans hnamed)
  cases hmethM.symm.trans hmethM'
  obtain ⟨c2, r2, m2, q1, q2, q3, q4, kP, hkP, hkPi⟩ := Cond.selects_spec hsel
  cases hcls.symm.trans q1
  cases (State.methodFound?_of_named hnamed hy).symm.trans q2
  cases hnamed.symm.trans q3
  have hselP : selectMethod e.platform s.vm cellB.cls mk = .method mk := by rw [Launch.admits_selectMethod X.admits]; exact q4
  obtain ⟨vm₁, X₁, hstep₁⟩ := X.invokevirtual hexec hown hlink hnamed hmethM hstM hkP hkPi hy (a := b) (cell := cellB) hcell
    (fun z h => by rw [h] at hobj; cases hobj) hselP hmethM habM hkP hkPi (g := g) hg (argsL := argsL) (rest := rest) (hlen _ hsigM) hstack hdg
  rcases hK m meth c ⟨T.setVm vm₁, locs, cells, slots⟩ { g with stack := rest } (.invokevirtual index) mk (Value.ref b :: argsL).toArray X₁ hg hsize hdg hW (X₁.named hnamed) (hpre vm₁ X₁.warmed) with ⟨v, B, X', hpost, hsteps⟩ | ⟨q, B, X', hpost, hsteps⟩
  · exact Or.inl ⟨v, vm₁, B, X₁.warmed, X', hpost, fun target h => hstep₁ _ fun acts => by rw [doInvoke_state]; exact hsteps.trans h⟩
  · exact Or.inr ⟨q, vm₁, B, X₁.warmed, X', hpost, hstep₁ _ fun acts => by rw [doInvoke_state]; exact hsteps⟩
theorem vx_callSX (X : Stand p l e R s m args below meth c T locs cells slots) (hexec : p.tables.exec = Jvm.exec) {own : String} {index : Nat} {y : MethodName} {bytes : ByteArray} {maxL : Nat} {ret : Option FieldType} {hh : List (Nat × Nat × Nat × Nat)}
    (hown : s.vm.findClass own = some m.cls) (hlink : (Cond.methodLink own index y).before args s = true) (hstat : (Cond.static y).before args s = true) (hinit : (Cond.initialized y.cls).before args s = true)
    (hcode : (Cond.codeWith y bytes maxL ret hh).before args s = true) (hy : y.cls ≠ "java/lang/invoke/MethodHandle" ∧ y.cls ≠ "java/lang/invoke/VarHandle")
    {W9 : Nat} {Pre : Pt → Array Value → Prop} {Post : Pt → Array Value → Option Value → Pt → Prop} {PostX : Pt → Array Value → Addr → Pt → Prop} (hK : vx_Back l R p e below s args y 3 W9 Pre Post PostX)
    {g : JFrame} (hg : g.method = m) (hsize : g.locals.size = c.maxLocals) {argsL rest : List Value} (hlen : ∀ sig, parseMethodDescriptor y.desc = some sig → argsL.length = sig.parameters.length)
    (hstack : g.stack = argsL.reverse ++ rest) (hW : 2 * g.monitorRoom + (rest.map fun v => v.category).sum ≤ W9) (hdg : decode c.code g.pc = .ok (.invokestatic index, 3))
    (hpre : ∀ vm₁, s.WarmedH vm₁ → Pre ⟨T.setVm vm₁, locs, cells, slots⟩ argsL.toArray) :
    (∃ (v : Option Value) (vm₁ : Vm) (B : Pt), s.WarmedH vm₁ ∧ Stand p l e R s m args below meth c B.U B.locs B.cells B.slots ∧ Post ⟨T.setVm vm₁, locs, cells, slots⟩ argsL.toArray v B ∧
      ∀ target, Steps p.tables e below (B.U.setTop { g with pc := g.pc + 3, stack := v.toList ++ rest }) target → Steps p.tables e below (T.setTop g) target) ∨
    (∃ (q : Addr) (vm₁ : Vm) (B : Pt), s.WarmedH vm₁ ∧ Stand p l e R s m args below meth c B.U B.locs B.cells B.slots ∧ PostX ⟨T.setVm vm₁, locs, cells, slots⟩ argsL.toArray q B ∧
      Steps p.tables e below (T.setTop g) ((B.U.setTop { g with stack := rest }).pushFrame (.throwing q))) := by
  obtain ⟨mk, methM, cM, hnamed, hmethM, -, -, -, -, -, -, hsigM⟩ := Cond.codeWith_spec hcode
  have hstatic : methM.isStatic = true := Cond.static_spec hnamed hmethM hstat
  obtain ⟨kP, hkP, -⟩ := className_of_methodNamed hnamed
  have hinitP : kP.init = .initialized := Cond.initialized_spec (findClass_of_methodNamed hnamed) hkP hinit
  obtain ⟨vm₁, X₁, hstep₁⟩ := X.invokestatic hexec hown hlink hnamed hmethM hstatic hkP hinitP hy (g := g) hg (argsL := argsL) (rest := rest) (hlen _ hsigM) hstack hdg
  rcases hK m meth c ⟨T.setVm vm₁, locs, cells, slots⟩ { g with stack := rest } (.invokestatic index) mk argsL.toArray X₁ hg hsize hdg hW (X₁.named hnamed) (hpre vm₁ X₁.warmed) with ⟨v, B, X', hpost, hsteps⟩ | ⟨q, B, X', hpost, hsteps⟩
  · exact Or.inl ⟨v, vm₁, B, X₁.warmed, X', hpost, fun target h => hstep₁ _ fun acts => by rw [doInvoke_state]; exact hsteps.trans h⟩
  · exact Or.inr ⟨q, vm₁, B, X₁.warmed, X', hpost, hstep₁ _ fun acts => by rw [doInvoke_state]; exact hsteps⟩
theorem vx_callVW (X : Stand p l e R s m args below meth c T locs cells slots) (hexec : p.tables.exec = Jvm.exec) {own C : String} {index : Nat} {y : MethodName} {bytes : ByteArray} {maxL : Nat} {ret : Option FieldType} {hh : List (Nat × Nat × Nat × Nat)}
    (hown : s.vm.findClass own = some m.cls) (hlink : (Cond.methodLink own index y).before args s = true) (hinst : (Cond.instanceMethod y).before args s = true) (hsel : (Cond.selects C y y).before args s = true)
    (hcode : (Cond.codeWith y bytes maxL ret hh).before args s = true) (hy : y.cls ≠ "java/lang/invoke/MethodHandle" ∧ y.cls ≠ "java/lang/invoke/VarHandle")
    {W9 : Nat} {Pre : Pt → Array Value → Prop} {Post : Pt → Array Value → Option Value → Pt → Prop} (hK : Back l R p e below s args y 3 W9 Pre Post)
    {b : Addr} {cellB : Cell} (hcell : T.heap[b]? = some cellB) (hobj : cellB.vm.isStatics = false) (hcls : s.vm.findClass C = some cellB.cls)
    {g : JFrame} (hg : g.method = m) (hsize : g.locals.size = c.maxLocals) {argsL rest : List Value} (hlen : ∀ sig, parseMethodDescriptor y.desc = some sig → argsL.length = sig.parameters.length)
    (hstack : g.stack = argsL.reverse ++ .ref b :: rest) (hW : 2 * g.monitorRoom + (rest.map fun v => v.category).sum ≤ W9) (hdg : decode c.code g.pc = .ok (.invokevirtual index, 3))
    (hpre : ∀ vm₁, s.WarmedH vm₁ → Pre ⟨T.setVm vm₁, locs, cells, slots⟩ (Value.ref b :: argsL).toArray) :
    ∃ (v : Option Value) (vm₁ : Vm) (B : Pt), s.WarmedH vm₁ ∧ Stand p l e R s m args below meth c B.U B.locs B.cells B.slots ∧ Post ⟨T.setVm vm₁, locs, cells, slots⟩ (Value.ref b :: argsL).toArray v B ∧
      ∀ target, Steps p.tables e below (B.U.setTop { g with pc := g.pc + 3, stack := v.toList ++ rest }) target → Steps p.tables e below (T.setTop g) target := by
  obtain ⟨mk, methM, hnamed, hmethM, hstM, habM⟩ := Cond.instanceMethod_spec hinst
  obtain ⟨m8, methM', cM, hn8, hmethM', -, -, -, -, -, -, hsigM⟩ := Cond.codeWith_spec hcode
  cases Option.some.inj (hn8.symm.trans hnamed)
  cases hmethM.symm.trans hmethM'
  obtain ⟨c2, r2, m2, q1, q2, q3, q4, kP, hkP, hkPi⟩ := Cond.selects_spec hsel
  cases hcls.symm.trans q1
  cases (State.methodFound?_of_named hnamed hy).symm.trans q2
  cases hnamed.symm.trans q3
  have hselP : selectMethod e.platform s.vm cellB.cls mk = .method mk := by rw [Launch.admits_selectMethod X.admits]; exact q4
  obtain ⟨vm₁, X₁, hstep₁⟩ := X.invokevirtual hexec hown hlink hnamed hmethM hstM hkP hkPi hy (a := b) (cell := cellB) hcell
    (fun z h => by rw [h] at hobj; cases hobj) hselP hmethM habM hkP hkPi (g := g) hg (argsL := argsL) (rest := rest) (hlen _ hsigM) hstack hdg
  obtain ⟨v, B, X', hpost, hsteps⟩ := hK m meth c ⟨T.setVm vm₁, locs, cells, slots⟩ { g with stack := rest } (.invokevirtual index) mk (Value.ref b :: argsL).toArray X₁ hg hsize hdg hW (X₁.named hnamed) (hpre vm₁ X₁.warmed)
  exact ⟨v, vm₁, B, X₁.warmed, X', hpost, fun target h => hstep₁ _ fun acts => by rw [doInvoke_state]; exact hsteps.trans h⟩
abbrev vx_CVW (R : Room) (s : State) (args : Array Value) (own C : String) (index : Nat) (y : MethodName) (bytes : ByteArray) (maxL : Nat) (ret : Option FieldType) (hh : List (Nat × Nat × Nat × Nat)) (ws : List Cond) (rm : Room) (mc ms n : Nat) : Prop :=
  (rm.cells = mc ∧ rm.slots = ms ∧ rm.frames + 1 ≤ R.frames ∧ 8 + (maxL + 11) + rm.locals ≤ R.locals ∧ (∀ w ∈ ws, ∀ (a' : Array Value) (U : State), s.WarmedH U.vm → w.before a' U = true) ∧ Cond.codeWith y bytes maxL ret hh ∈ ws) ∧
  (Cond.codeWith y bytes maxL ret hh).before args s = true ∧ (Cond.initialized y.cls).before args s = true ∧ (y.cls ≠ "java/lang/invoke/MethodHandle" ∧ y.cls ≠ "java/lang/invoke/VarHandle") ∧
  (∀ sig, parseMethodDescriptor y.desc = some sig → n = sig.parameters.length) ∧ (Cond.methodLink own index y).before args s = true ∧ (Cond.instanceMethod y).before args s = true ∧ (Cond.selects C y y).before args s = true
theorem vx_cwVW {own C : String} {index maxL mc ms : Nat} {y : MethodName} {bytes : ByteArray} {ret : Option FieldType} {hh : List (Nat × Nat × Nat × Nat)} {Ts ws ws' : List Cond} {rm : Room} (n : Nat) (ht : ∀ w ∈ Ts, w.before args s = true) (hT : GoodIn Ts (wsV own index C y ws)) (hw : ws = Cond.codeWith y bytes maxL ret hh :: ws') (hrc : rm.cells = mc) (hrs : rm.slots = ms)
    (hd : y.cls = C ∧ y.cls ≠ "java/lang/invoke/MethodHandle" ∧ y.cls ≠ "java/lang/invoke/VarHandle" ∧ (parseMethodDescriptor y.desc).map (fun d => d.parameters.length) = some n) (hR : rm.frames + 1 ≤ R.frames ∧ 8 + (maxL + 11) + rm.locals ≤ R.locals) :
    vx_CVW R s args own C index y bytes maxL ret hh ws rm mc ms n := by
  obtain ⟨hC, hd⟩ := hd
  subst hC
  have ok : ∀ w ∈ wsV own index y.cls y ws, w.before args s = true := fun w h => ht w (hT w h).1
  have hG : GoodIn Ts ws := fun w h => hT w (by unfold wsV; exact List.mem_append_right _ h)
  have hc : Cond.codeWith y bytes maxL ret hh ∈ ws := by rw [hw]; exact List.mem_cons_self
  refine ⟨⟨hrc, hrs, hR.1, hR.2, pay_in ht hG, hc⟩, ht _ (hG _ hc).1, ok _ (by simp [wsV]), ⟨hd.1, hd.2.1⟩, fun sig h => ?_, ok _ (by simp [wsV]), ok _ (by simp [wsV]), ok _ (by simp [wsV])⟩
  have h2 := hd.2.2
  rw [h] at h2
  exact (Option.some.inj h2).symm
theorem vx_runVW {y : MethodName} {bytes cc : ByteArray} {maxL nL mc ms n index : Nat} {ret : Option FieldType} {hh : List (Nat × Nat × Nat × Nat)} {ws : List Cond} {rm : Room} {Pc : Array Value → State → Prop} {Qc : Array Value → State → Outcome → State → Prop} {free : Addr → Prop} {Ts : List Cond} {own C : String} {b : Addr} {As rest : List Value} {g : JFrame}
    (S : CallFix p m c cc nL s args Ts own) (hM : Met l y ws rm Pc Qc mc ms free) (cw : vx_CVW R s args own C index y bytes maxL ret hh ws rm mc ms n) (hp : PreV s H C b Pc As)
    (hg : g.method = m) (hn : As.length = n) (hsize : g.locals.size = nL) (hstack : g.stack = As.reverse ++ .ref b :: rest) (hW : 2 * g.monitorRoom + (rest.map fun v => v.category).sum ≤ 8) (hdg : decode cc g.pc = .ok (.invokevirtual index, 3)) (hf : cells + mc ≤ R.cells ∧ slots + ms ≤ R.slots) :
    va_Run p l e R s m args below meth c H locs cells slots mc ms g rest (Qc (Value.ref b :: As).toArray) free := by
  obtain ⟨⟨hrc, hrs, hfr, hlo, hws, hcw⟩, hcode, hini, hy, hlen, hl, hin, hse⟩ := cw
  have hK : Back l R p e below s args y 3 8 (PreOf R mc ms Pc) (PostOf Qc mc ms free) := va_backW (hh := hh) (bytes := bytes) (maxL := maxL) (ret := ret) hM hp.1 hrc hrs hfr hlo hws hcw (fun a' U hW => word_at hW (Or.inl (by first | rfl | simp [Cond.onTables, Cond.keeps, Cond.steady])) hini)
  obtain ⟨hx, hb, hml, ho, -⟩ := S
  obtain ⟨-, ⟨cellB, hcB, hoB, hclB⟩, hPc⟩ := hp
  intro T hT X
  obtain ⟨v, vm₁, ⟨U', l2, c2, s2⟩, hW₁, X', ⟨g', mk, t, L, e1, e2, hq, h1, hL, h2, h3⟩, st⟩ := vx_callVW X hx (C := C) (hh := hh) (bytes := bytes) (maxL := maxL) (ret := ret) ho hl hin hse hcode hy hK (by rw [hT]; exact hcB) hoB hclB hg (hsize.trans hml.symm) (argsL := As) (rest := rest) (fun sig h => hn.trans (hlen sig h)) hstack hW (by rw [hb]; exact hdg)
    (fun vm₁ hW₁ => ⟨hf.1, hf.2, hPc (T.setVm vm₁) hT hW₁⟩)
  dsimp only [Pt.U, Pt.locs, Pt.cells, Pt.slots] at X' e1 e2 h1 h2 h3 st
  subst h1; subst h2; subst h3
  exact ⟨v, (T.setVm vm₁).calling g' mk (Value.ref b :: As).toArray, t, U', L, hT, X', hL, e1, e2, hq, st⟩
section
variable {y : MethodName} {bytes cc : ByteArray} {maxL nL mc ms n index : Nat} {ret : Option FieldType} {ws : List Cond} {rm : Room} {Pc : Array Value → State → Prop} {Qc : Array Value → State → Outcome → State → Prop} {XC : String → State → State → Prop} {free : Addr → Prop} {Ts : List Cond} {own C : String} {b : Addr} {As rest : List Value} {g : JFrame}
theorem vx_runVX {hh : List (Nat × Nat × Nat × Nat)} (S : CallFix p m c cc nL s args Ts own) (hM : vx_Met l y ws rm Pc Qc XC mc ms free) (cw : vx_CVW R s args own C index y bytes maxL ret hh ws rm mc ms n) (hp : PreV s H C b Pc As)
    (hg : g.method = m) (hn : As.length = n) (hsize : g.locals.size = nL) (hstack : g.stack = As.reverse ++ .ref b :: rest) (hW : 2 * g.monitorRoom + (rest.map fun v => v.category).sum ≤ 8) (hdg : decode cc g.pc = .ok (.invokevirtual index, 3)) (hf : cells + mc ≤ R.cells ∧ slots + ms ≤ R.slots) :
    vx_Run p l e R s m args below meth c H locs cells slots mc ms g rest (Qc (Value.ref b :: As).toArray) XC free := by
  obtain ⟨⟨hrc, hrs, hfr, hlo, hws, hcw⟩, hcode, hini, hy, hlen, hl, hin, hse⟩ := cw
  have hK : vx_Back l R p e below s args y 3 8 (PreOf R mc ms Pc) (PostOf Qc mc ms free) (vx_Post XC mc ms free) := vx_backW (hh := hh) (bytes := bytes) (maxL := maxL) (ret := ret) hM hp.1 hrc hrs hfr hlo hws hcw (fun a' U hW => word_at hW (Or.inl (by first | rfl | simp [Cond.onTables, Cond.keeps, Cond.steady])) hini)
  obtain ⟨hx, hb, hml, ho, -⟩ := S
  obtain ⟨-, ⟨cellB, hcB, hoB, hclB⟩, hPc⟩ := hp
  intro T hT X
  rcases vx_callVX X hx (C := C) (hh := hh) (bytes := bytes) (maxL := maxL) (ret := ret) ho hl hin hse hcode hy hK (by rw [hT]; exact hcB) hoB hclB hg (hsize.trans hml.symm) (argsL := As) (rest := rest) (fun sig h => hn.trans (hlen sig h)) hstack hW (by rw [hb]; exact hdg)
    (fun vm₁ hW₁ => ⟨hf.1, hf.2, hPc (T.setVm vm₁) hT hW₁⟩) with ⟨v, vm₁, ⟨U', l2, c2, s2⟩, hW₁, X', ⟨g', mk, t, L, e1, e2, hq, h1, hL, h2, h3⟩, st⟩ | ⟨q, vm₁, ⟨U', l2, c2, s2⟩, hW₁, X', ⟨g', mk, t, L, E, ce, e1, e2, hq, hce, hcv, hcl, h1, hL, h2, h3⟩, st⟩
  · dsimp only [Pt.U, Pt.locs, Pt.cells, Pt.slots] at X' e1 e2 h1 h2 h3 st
    subst h1; subst h2; subst h3
    exact Or.inl ⟨v, (T.setVm vm₁).calling g' mk (Value.ref b :: As).toArray, t, U', L, hT, X', hL, e1, e2, hq, st⟩
  · dsimp only [Pt.U, Pt.locs, Pt.cells, Pt.slots] at X' e1 e2 h1 h2 h3 st hcl
    subst h1; subst h2; subst h3
    exact Or.inr ⟨q, (T.setVm vm₁).calling g' mk (Value.ref b :: As).toArray, t, U', L, E, ce, hT, X', hL, e1, e2, hq, hce, hcv, vx_cls hW₁ hcl, st⟩
theorem vx_runSX {hh : List (Nat × Nat × Nat × Nat)} (S : CallFix p m c cc nL s args Ts own) (hM : vx_Met l y ws rm Pc Qc XC mc ms free) (cw : vx_CSW R s args own index y bytes maxL ret hh ws rm mc ms n) (hp : PreS s H Pc As)
    (hg : g.method = m) (hn : As.length = n) (hsize : g.locals.size = nL) (hstack : g.stack = As.reverse ++ rest) (hW : 2 * g.monitorRoom + (rest.map fun v => v.category).sum ≤ 8) (hdg : decode cc g.pc = .ok (.invokestatic index, 3)) (hf : cells + mc ≤ R.cells ∧ slots + ms ≤ R.slots) :
    vx_Run p l e R s m args below meth c H locs cells slots mc ms g rest (Qc As.toArray) XC free := by
  obtain ⟨⟨hrc, hrs, hfr, hlo, hws, hcw⟩, hcode, hini, hy, hlen, hl, hstt⟩ := cw
  have hK : vx_Back l R p e below s args y 3 8 (PreOf R mc ms Pc) (PostOf Qc mc ms free) (vx_Post XC mc ms free) := vx_backW (hh := hh) (bytes := bytes) (maxL := maxL) (ret := ret) hM hp.1 hrc hrs hfr hlo hws hcw (fun a' U hW => word_at hW (Or.inl (by first | rfl | simp [Cond.onTables, Cond.keeps, Cond.steady])) hini)
  obtain ⟨hx, hb, hml, ho, -⟩ := S
  intro T hT X
  rcases vx_callSX X hx (hh := hh) (bytes := bytes) (maxL := maxL) (ret := ret) ho hl hstt hini hcode hy hK hg (hsize.trans hml.symm) (argsL := As) (rest := rest) (fun sig h => hn.trans (hlen sig h)) hstack hW (by rw [hb]; exact hdg)
    (fun vm₁ hW₁ => ⟨hf.1, hf.2, hp.2 (T.setVm vm₁) hT hW₁⟩) with ⟨v, vm₁, ⟨U', l2, c2, s2⟩, hW₁, X', ⟨g', mk, t, L, e1, e2, hq, h1, hL, h2, h3⟩, st⟩ | ⟨q, vm₁, ⟨U', l2, c2, s2⟩, hW₁, X', ⟨g', mk, t, L, E, ce, e1, e2, hq, hce, hcv, hcl, h1, hL, h2, h3⟩, st⟩
  · dsimp only [Pt.U, Pt.locs, Pt.cells, Pt.slots] at X' e1 e2 h1 h2 h3 st
    subst h1; subst h2; subst h3
    exact Or.inl ⟨v, (T.setVm vm₁).calling g' mk As.toArray, t, U', L, hT, X', hL, e1, e2, hq, st⟩
  · dsimp only [Pt.U, Pt.locs, Pt.cells, Pt.slots] at X' e1 e2 h1 h2 h3 st hcl
    subst h1; subst h2; subst h3
    exact Or.inr ⟨q, (T.setVm vm₁).calling g' mk As.toArray, t, U', L, E, ce, hT, X', hL, e1, e2, hq, hce, hcv, vx_cls hW₁ hcl, st⟩
end
end VXH
theorem vx_ofWH {l : Launch} {y : MethodName} {ws ws' : List Cond} {rm : Room} {Pc : Array Value → State → Prop} {Qc : Array Value → State → Outcome → State → Prop} {XC : String → State → State → Prop} {mc ms : Nat} {free : Addr → Prop} {cc : ByteArray} {maxL : Nat} {ret : Option FieldType} {hh : List (Nat × Nat × Nat × Nat)}
    (hy : plainName y.cls = true) (hw : ws = Cond.codeWith y cc maxL ret hh :: ws')
    (body : ∀ p e s m args below meth c s₁, BodyLoose p l y (headSpec ws rm) cc maxL ret e s m args below meth c s₁ → c.maxLocals = maxL → Pc args s →
      W p l e (headSpec ws rm).room s m args below meth c s.heap [] 0 0 (vx_MQ below Qc XC args s mc ms free) (entryFrame m args maxL)) : vx_Met l y ws rm Pc Qc XC mc ms free := by
  refine MetFree.of_bodyS (code := cc) (maxLocals := maxL) (ret := ret) hy ?_ ?_
  · intro args s m h hn
    obtain ⟨m9, meth, c, hn9, h1, h2, h3, h4, -, h5, h6, -⟩ := Cond.codeWith_spec (atoms_spec (ws := ws) h _ (by rw [hw]; exact List.mem_cons_self))
    cases hn.symm.trans hn9
    exact ⟨meth, c, h1, h2, h3, h4, h5, h6⟩
  · intro p e s m args below meth c s₁ B hml hP _
    have hh0 : s₁.heap = s.heap := by rw [B.state]; rfl
    obtain ⟨t, a1, o, b1, b2, b3⟩ := body p e s m args below meth c s₁ B hml hP s₁ hh0 (Stand.of_body B)
    exact ⟨t, o, a1, b1, b2, b3⟩
/-! ===== END ===== -/
end
section
/-! ===== BEGIN printed: names, fields, word lists, decode rows ===== -/
def RX0 : String := "Phaselock$Aligner"
def TX0 : u_T := fun k => match k with
  | 0 => ("Phaselock$Aligner", "state", "I", false)
  | 1 => ("Phaselock$Aligner", "frames", "I", false)
  | 2 => ("Phaselock$Aligner", "losses", "I", false)
  | 3 => ("Phaselock$Aligner", "position", "I", false)
  | 4 => ("Phaselock$Aligner", "matches", "I", false)
  | _ => ("Phaselock$Aligner", "misses", "I", false)
def tyX0 : Nat → FieldType := fun k => match k with
  | 0 => .int
  | 1 => .int
  | 2 => .int
  | 3 => .int
  | 4 => .int
  | _ => .int
abbrev wsX00 : List Cond := u_ws RX0 TX0 6
theorem nmX0 : ∀ a, a < 6 → ∀ b, b < 6 → a ≠ b → (TX0 a).2.1 ≠ (TX0 b).2.1 := by decide +kernel
theorem tyX0_ok : ∀ k, k < 6 → parseFieldDescriptor (TX0 k).2.2.1 = some (tyX0 k) := by decide +kernel
abbrev cX0_init : ByteArray := prog_2_method_1_code
def yX0_init : MethodName := ⟨RX0, "<init>", "()V"⟩
abbrev cX0_take : ByteArray := prog_2_method_2_code
def yX0_take : MethodName := ⟨RX0, "take", "(Z)V"⟩
abbrev cX0_verify : ByteArray := prog_2_method_3_code
def yX0_verify : MethodName := ⟨RX0, "verify", "(Z)V"⟩
abbrev cX0_watchSync : ByteArray := prog_2_method_4_code
def yX0_watchSync : MethodName := ⟨RX0, "watchSync", "(Z)V"⟩
def RX1 : String := "Phaselock$BitLog"
def TX1 : u_T := fun k => match k with
  | 0 => ("Phaselock$BitLog", "count", "I", false)
  | _ => ("Phaselock$BitLog", "latest32", "I", false)
def tyX1 : Nat → FieldType := fun k => match k with
  | 0 => .int
  | _ => .int
abbrev wsX10 : List Cond := u_ws RX1 TX1 2
theorem nmX1 : ∀ a, a < 2 → ∀ b, b < 2 → a ≠ b → (TX1 a).2.1 ≠ (TX1 b).2.1 := by decide +kernel
theorem tyX1_ok : ∀ k, k < 2 → parseFieldDescriptor (TX1 k).2.2.1 = some (tyX1 k) := by decide +kernel
abbrev cX1_init : ByteArray := prog_3_method_1_code
def yX1_init : MethodName := ⟨RX1, "<init>", "()V"⟩
abbrev cX1_add : ByteArray := prog_3_method_2_code
def yX1_add : MethodName := ⟨RX1, "add", "(I)V"⟩
abbrev cX1_remembers : ByteArray := prog_3_method_3_code
def yX1_remembers : MethodName := ⟨RX1, "remembers", "(I)Z"⟩
abbrev cX1_findBit : ByteArray := prog_3_method_4_code
def yX1_findBit : MethodName := ⟨RX1, "findBit", "(I)I"⟩
abbrev cX1_endsWithSyncWord : ByteArray := prog_3_method_5_code
def yX1_endsWithSyncWord : MethodName := ⟨RX1, "endsWithSyncWord", "()Z"⟩
def RX2 : String := "Phaselock$EdgeLog"
def TX2 : u_T := fun k => match k with
  | 0 => ("Phaselock$EdgeLog", "ticks", "I", false)
  | _ => ("Phaselock$EdgeLog", "changed", "[Z", true)
def tyX2 : Nat → FieldType := fun k => match k with
  | 0 => .int
  | _ => .array .boolean
abbrev wsX20 : List Cond := u_ws RX2 TX2 2
theorem nmX2 : ∀ a, a < 2 → ∀ b, b < 2 → a ≠ b → (TX2 a).2.1 ≠ (TX2 b).2.1 := by decide +kernel
theorem tyX2_ok : ∀ k, k < 2 → parseFieldDescriptor (TX2 k).2.2.1 = some (tyX2 k) := by decide +kernel
abbrev cX2_init : ByteArray := prog_4_method_1_code
def yX2_init : MethodName := ⟨RX2, "<init>", "()V"⟩
abbrev cX2_add : ByteArray := prog_4_method_2_code
def yX2_add : MethodName := ⟨RX2, "add", "(Z)V"⟩
abbrev cX2_sumCosts : ByteArray := prog_4_method_3_code
def yX2_sumCosts : MethodName := ⟨RX2, "sumCosts", "(I)I"⟩
abbrev cX2_findDistance : ByteArray := prog_4_method_4_code
def yX2_findDistance : MethodName := ⟨RX2, "findDistance", "(II)I"⟩
def RX3 : String := "Phaselock$LineMemory"
def TX3 : u_T := fun k => match k with
  | _ => ("Phaselock$LineMemory", "values", "I", false)
def tyX3 : Nat → FieldType := fun k => match k with
  | _ => .int
abbrev wsX30 : List Cond := u_ws RX3 TX3 1
theorem nmX3 : ∀ a, a < 1 → ∀ b, b < 1 → a ≠ b → (TX3 a).2.1 ≠ (TX3 b).2.1 := by decide +kernel
theorem tyX3_ok : ∀ k, k < 1 → parseFieldDescriptor (TX3 k).2.2.1 = some (tyX3 k) := by decide +kernel
abbrev cX3_init : ByteArray := prog_5_method_1_code
def yX3_init : MethodName := ⟨RX3, "<init>", "()V"⟩
abbrev cX3_remember : ByteArray := prog_5_method_2_code
def yX3_remember : MethodName := ⟨RX3, "remember", "(I)V"⟩
abbrev cX3_hasChangedSince : ByteArray := prog_5_method_3_code
def yX3_hasChangedSince : MethodName := ⟨RX3, "hasChangedSince", "(I)Z"⟩
abbrev cX3_findLevel : ByteArray := prog_5_method_4_code
def yX3_findLevel : MethodName := ⟨RX3, "findLevel", "()I"⟩
def RX4 : String := "Phaselock$LoopFilter"
def TX4 : u_T := fun k => match k with
  | 0 => ("Phaselock$LoopFilter", "proportionalGain", "I", false)
  | 1 => ("Phaselock$LoopFilter", "integralGain", "I", false)
  | 2 => ("Phaselock$LoopFilter", "error", "I", false)
  | 3 => ("Phaselock$LoopFilter", "integral", "I", false)
  | _ => ("Phaselock$LoopFilter", "control", "I", false)
def tyX4 : Nat → FieldType := fun k => match k with
  | 0 => .int
  | 1 => .int
  | 2 => .int
  | 3 => .int
  | _ => .int
abbrev wsX40 : List Cond := u_ws RX4 TX4 5
theorem nmX4 : ∀ a, a < 5 → ∀ b, b < 5 → a ≠ b → (TX4 a).2.1 ≠ (TX4 b).2.1 := by decide +kernel
theorem tyX4_ok : ∀ k, k < 5 → parseFieldDescriptor (TX4 k).2.2.1 = some (tyX4 k) := by decide +kernel
abbrev cX4_init : ByteArray := prog_6_method_1_code
def yX4_init : MethodName := ⟨RX4, "<init>", "()V"⟩
abbrev cX4_takeError : ByteArray := prog_6_method_2_code
def yX4_takeError : MethodName := ⟨RX4, "takeError", "(I)V"⟩
abbrev cX4_keepWithin : ByteArray := prog_6_method_3_code
def yX4_keepWithin : MethodName := ⟨RX4, "keepWithin", "(II)I"⟩
def RX5 : String := "Phaselock$Oscillator"
def TX5 : u_T := fun k => match k with
  | _ => ("Phaselock$Oscillator", "phase", "I", false)
def tyX5 : Nat → FieldType := fun k => match k with
  | _ => .int
abbrev wsX50 : List Cond := u_ws RX5 TX5 1
theorem nmX5 : ∀ a, a < 1 → ∀ b, b < 1 → a ≠ b → (TX5 a).2.1 ≠ (TX5 b).2.1 := by decide +kernel
theorem tyX5_ok : ∀ k, k < 1 → parseFieldDescriptor (TX5 k).2.2.1 = some (tyX5 k) := by decide +kernel
abbrev cX5_init : ByteArray := prog_7_method_1_code
def yX5_init : MethodName := ⟨RX5, "<init>", "()V"⟩
abbrev cX5_advance : ByteArray := prog_7_method_2_code
def yX5_advance : MethodName := ⟨RX5, "advance", "(I)I"⟩
abbrev cX5_hasPassed : ByteArray := prog_7_method_3_code
def yX5_hasPassed : MethodName := ⟨RX5, "hasPassed", "(II)Z"⟩
def RX6 : String := "Phaselock$PhaseDetector"
def TX6 : u_T := fun k => match k with
  | 0 => ("Phaselock$PhaseDetector", "kind", "I", false)
  | 1 => ("Phaselock$PhaseDetector", "edgeError", "I", false)
  | 2 => ("Phaselock$PhaseDetector", "product", "I", false)
  | 3 => ("Phaselock$PhaseDetector", "earlyValue", "I", false)
  | 4 => ("Phaselock$PhaseDetector", "middleValue", "I", false)
  | 5 => ("Phaselock$PhaseDetector", "middleLevel", "I", false)
  | _ => ("Phaselock$PhaseDetector", "dataLevel", "I", false)
def tyX6 : Nat → FieldType := fun k => match k with
  | 0 => .int
  | 1 => .int
  | 2 => .int
  | 3 => .int
  | 4 => .int
  | 5 => .int
  | _ => .int
abbrev wsX60 : List Cond := u_ws RX6 TX6 7
theorem nmX6 : ∀ a, a < 7 → ∀ b, b < 7 → a ≠ b → (TX6 a).2.1 ≠ (TX6 b).2.1 := by decide +kernel
theorem tyX6_ok : ∀ k, k < 7 → parseFieldDescriptor (TX6 k).2.2.1 = some (tyX6 k) := by decide +kernel
abbrev cX6_init : ByteArray := prog_8_method_1_code
def yX6_init : MethodName := ⟨RX6, "<init>", "()V"⟩
abbrev cX6_watchLine : ByteArray := prog_8_method_2_code
def yX6_watchLine : MethodName := ⟨RX6, "watchLine", "(LPhaselock$LineMemory;I)V"⟩
abbrev cX6_keepEarly : ByteArray := prog_8_method_3_code
def yX6_keepEarly : MethodName := ⟨RX6, "keepEarly", "(I)V"⟩
abbrev cX6_keepMiddle : ByteArray := prog_8_method_4_code
def yX6_keepMiddle : MethodName := ⟨RX6, "keepMiddle", "(II)V"⟩
abbrev cX6_measureLate : ByteArray := prog_8_method_5_code
def yX6_measureLate : MethodName := ⟨RX6, "measureLate", "(I)I"⟩
abbrev cX6_measureAtData : ByteArray := prog_8_method_6_code
def yX6_measureAtData : MethodName := ⟨RX6, "measureAtData", "(IILPhaselock$BitLog;)I"⟩
abbrev cX6_measureBangBang : ByteArray := prog_8_method_7_code
def yX6_measureBangBang : MethodName := ⟨RX6, "measureBangBang", "(ILPhaselock$BitLog;)I"⟩
abbrev cX6_finishBit : ByteArray := prog_8_method_8_code
def yX6_finishBit : MethodName := ⟨RX6, "finishBit", "(I)V"⟩
def RX7 : String := "Phaselock$PhaseLog"
def TX7 : u_T := fun k => match k with
  | 0 => ("Phaselock$PhaseLog", "count", "I", false)
  | 1 => ("Phaselock$PhaseLog", "latest", "I", false)
  | 2 => ("Phaselock$PhaseLog", "steadyCount", "I", false)
  | _ => ("Phaselock$PhaseLog", "window", "[I", true)
def tyX7 : Nat → FieldType := fun k => match k with
  | 0 => .int
  | 1 => .int
  | 2 => .int
  | _ => .array .int
abbrev wsX70 : List Cond := u_ws RX7 TX7 4
theorem nmX7 : ∀ a, a < 4 → ∀ b, b < 4 → a ≠ b → (TX7 a).2.1 ≠ (TX7 b).2.1 := by decide +kernel
theorem tyX7_ok : ∀ k, k < 4 → parseFieldDescriptor (TX7 k).2.2.1 = some (tyX7 k) := by decide +kernel
abbrev cX7_init : ByteArray := prog_9_method_1_code
def yX7_init : MethodName := ⟨RX7, "<init>", "()V"⟩
abbrev cX7_add : ByteArray := prog_9_method_2_code
def yX7_add : MethodName := ⟨RX7, "add", "(IZ)V"⟩
abbrev cX7_isSteady : ByteArray := prog_9_method_3_code
def yX7_isSteady : MethodName := ⟨RX7, "isSteady", "()Z"⟩
abbrev cX7_sumAbsolutes : ByteArray := prog_9_method_4_code
def yX7_sumAbsolutes : MethodName := ⟨RX7, "sumAbsolutes", "()I"⟩
def RX8 : String := "Phaselock$SlipCounter"
def TX8 : u_T := fun k => match k with
  | 0 => ("Phaselock$SlipCounter", "repeated", "I", false)
  | 1 => ("Phaselock$SlipCounter", "skipped", "I", false)
  | 2 => ("Phaselock$SlipCounter", "hasStrobed", "Z", false)
  | _ => ("Phaselock$SlipCounter", "numberBefore", "I", false)
def tyX8 : Nat → FieldType := fun k => match k with
  | 0 => .int
  | 1 => .int
  | 2 => .boolean
  | _ => .int
abbrev wsX80 : List Cond := u_ws RX8 TX8 4
theorem nmX8 : ∀ a, a < 4 → ∀ b, b < 4 → a ≠ b → (TX8 a).2.1 ≠ (TX8 b).2.1 := by decide +kernel
theorem tyX8_ok : ∀ k, k < 4 → parseFieldDescriptor (TX8 k).2.2.1 = some (tyX8 k) := by decide +kernel
abbrev cX8_init : ByteArray := prog_10_method_1_code
def yX8_init : MethodName := ⟨RX8, "<init>", "()V"⟩
abbrev cX8_compare : ByteArray := prog_10_method_2_code
def yX8_compare : MethodName := ⟨RX8, "compare", "(I)Z"⟩
def RX9 : String := "Phaselock$Transmitter"
def TX9 : u_T := fun k => match k with
  | 0 => ("Phaselock$Transmitter", "phase", "I", false)
  | 1 => ("Phaselock$Transmitter", "step", "I", false)
  | 2 => ("Phaselock$Transmitter", "jitter", "I", false)
  | 3 => ("Phaselock$Transmitter", "randomState", "J", false)
  | 4 => ("Phaselock$Transmitter", "number", "I", false)
  | 5 => ("Phaselock$Transmitter", "value", "I", false)
  | _ => ("Phaselock$Transmitter", "register", "I", false)
def tyX9 : Nat → FieldType := fun k => match k with
  | 0 => .int
  | 1 => .int
  | 2 => .int
  | 3 => .long
  | 4 => .int
  | 5 => .int
  | _ => .int
abbrev wsX90 : List Cond := u_ws RX9 TX9 7
theorem nmX9 : ∀ a, a < 7 → ∀ b, b < 7 → a ≠ b → (TX9 a).2.1 ≠ (TX9 b).2.1 := by decide +kernel
theorem tyX9_ok : ∀ k, k < 7 → parseFieldDescriptor (TX9 k).2.2.1 = some (tyX9 k) := by decide +kernel
abbrev cX9_init : ByteArray := prog_11_method_1_code
def yX9_init : MethodName := ⟨RX9, "<init>", "()V"⟩
abbrev cX9_advance : ByteArray := prog_11_method_2_code
def yX9_advance : MethodName := ⟨RX9, "advance", "()V"⟩
abbrev cX9_drawDeviation : ByteArray := prog_11_method_3_code
def yX9_drawDeviation : MethodName := ⟨RX9, "drawDeviation", "()I"⟩
abbrev cX9_sendNextBit : ByteArray := prog_11_method_4_code
def yX9_sendNextBit : MethodName := ⟨RX9, "sendNextBit", "()V"⟩
abbrev cX9_shiftRegister : ByteArray := prog_11_method_5_code
def yX9_shiftRegister : MethodName := ⟨RX9, "shiftRegister", "()I"⟩
def RX10 : String := "Phaselock"
def TX10 : u_T := fun k => match k with
  | 0 => ("Phaselock", "transmitter", "LPhaselock$Transmitter;", true)
  | 1 => ("Phaselock", "memory", "LPhaselock$LineMemory;", true)
  | 2 => ("Phaselock", "edges", "LPhaselock$EdgeLog;", true)
  | 3 => ("Phaselock", "oscillator", "LPhaselock$Oscillator;", true)
  | 4 => ("Phaselock", "detector", "LPhaselock$PhaseDetector;", true)
  | 5 => ("Phaselock", "filter", "LPhaselock$LoopFilter;", true)
  | 6 => ("Phaselock", "bits", "LPhaselock$BitLog;", true)
  | 7 => ("Phaselock", "slips", "LPhaselock$SlipCounter;", true)
  | 8 => ("Phaselock", "phases", "LPhaselock$PhaseLog;", true)
  | _ => ("Phaselock", "aligner", "LPhaselock$Aligner;", true)
def tyX10 : Nat → FieldType := fun k => match k with
  | 0 => .object "Phaselock$Transmitter"
  | 1 => .object "Phaselock$LineMemory"
  | 2 => .object "Phaselock$EdgeLog"
  | 3 => .object "Phaselock$Oscillator"
  | 4 => .object "Phaselock$PhaseDetector"
  | 5 => .object "Phaselock$LoopFilter"
  | 6 => .object "Phaselock$BitLog"
  | 7 => .object "Phaselock$SlipCounter"
  | 8 => .object "Phaselock$PhaseLog"
  | _ => .object "Phaselock$Aligner"
abbrev wsX100 : List Cond := u_ws RX10 TX10 10
theorem nmX10 : ∀ a, a < 10 → ∀ b, b < 10 → a ≠ b → (TX10 a).2.1 ≠ (TX10 b).2.1 := by decide +kernel
theorem tyX10_ok : ∀ k, k < 10 → parseFieldDescriptor (TX10 k).2.2.1 = some (tyX10 k) := by decide +kernel
abbrev cX10_init : ByteArray := prog_1_method_1_code
def yX10_init : MethodName := ⟨RX10, "<init>", "()V"⟩
abbrev cX10_setOffset : ByteArray := prog_1_method_2_code
def yX10_setOffset : MethodName := ⟨RX10, "setOffset", "(I)I"⟩
abbrev cX10_setJitter : ByteArray := prog_1_method_3_code
def yX10_setJitter : MethodName := ⟨RX10, "setJitter", "(II)V"⟩
abbrev cX10_setDetector : ByteArray := prog_1_method_4_code
def yX10_setDetector : MethodName := ⟨RX10, "setDetector", "(I)I"⟩
abbrev cX10_setGains : ByteArray := prog_1_method_5_code
def yX10_setGains : MethodName := ⟨RX10, "setGains", "(II)V"⟩
abbrev cX10_setPhase : ByteArray := prog_1_method_6_code
def yX10_setPhase : MethodName := ⟨RX10, "setPhase", "(I)I"⟩
abbrev cX10_release : ByteArray := prog_1_method_7_code
def yX10_release : MethodName := ⟨RX10, "release", "()V"⟩
abbrev cX10_run : ByteArray := prog_1_method_8_code
def yX10_run : MethodName := ⟨RX10, "run", "(I)I"⟩
abbrev cX10_ticks : ByteArray := prog_1_method_9_code
def yX10_ticks : MethodName := ⟨RX10, "ticks", "()I"⟩
abbrev cX10_sent : ByteArray := prog_1_method_10_code
def yX10_sent : MethodName := ⟨RX10, "sent", "()I"⟩
abbrev cX10_line : ByteArray := prog_1_method_11_code
def yX10_line : MethodName := ⟨RX10, "line", "()I"⟩
abbrev cX10_level : ByteArray := prog_1_method_12_code
def yX10_level : MethodName := ⟨RX10, "level", "()I"⟩
abbrev cX10_sender : ByteArray := prog_1_method_13_code
def yX10_sender : MethodName := ⟨RX10, "sender", "()I"⟩
abbrev cX10_receiver : ByteArray := prog_1_method_14_code
def yX10_receiver : MethodName := ⟨RX10, "receiver", "()I"⟩
abbrev cX10_error : ByteArray := prog_1_method_15_code
def yX10_error : MethodName := ⟨RX10, "error", "()I"⟩
abbrev cX10_integral : ByteArray := prog_1_method_16_code
def yX10_integral : MethodName := ⟨RX10, "integral", "()I"⟩
abbrev cX10_control : ByteArray := prog_1_method_17_code
def yX10_control : MethodName := ⟨RX10, "control", "()I"⟩
abbrev cX10_received : ByteArray := prog_1_method_18_code
def yX10_received : MethodName := ⟨RX10, "received", "()I"⟩
abbrev cX10_bit : ByteArray := prog_1_method_19_code
def yX10_bit : MethodName := ⟨RX10, "bit", "(I)I"⟩
abbrev cX10_phase : ByteArray := prog_1_method_20_code
def yX10_phase : MethodName := ⟨RX10, "phase", "()I"⟩
abbrev cX10_repeated : ByteArray := prog_1_method_21_code
def yX10_repeated : MethodName := ⟨RX10, "repeated", "()I"⟩
abbrev cX10_skipped : ByteArray := prog_1_method_22_code
def yX10_skipped : MethodName := ⟨RX10, "skipped", "()I"⟩
abbrev cX10_isLocked : ByteArray := prog_1_method_23_code
def yX10_isLocked : MethodName := ⟨RX10, "isLocked", "()Z"⟩
abbrev cX10_wander : ByteArray := prog_1_method_24_code
def yX10_wander : MethodName := ⟨RX10, "wander", "()I"⟩
abbrev cX10_alignment : ByteArray := prog_1_method_25_code
def yX10_alignment : MethodName := ⟨RX10, "alignment", "()I"⟩
abbrev cX10_frames : ByteArray := prog_1_method_26_code
def yX10_frames : MethodName := ⟨RX10, "frames", "()I"⟩
abbrev cX10_losses : ByteArray := prog_1_method_27_code
def yX10_losses : MethodName := ⟨RX10, "losses", "()I"⟩
abbrev cX10_bestPhase : ByteArray := prog_1_method_28_code
def yX10_bestPhase : MethodName := ⟨RX10, "bestPhase", "()I"⟩
abbrev cX10_cost : ByteArray := prog_1_method_29_code
def yX10_cost : MethodName := ⟨RX10, "cost", "(I)I"⟩
abbrev cX10_passTick : ByteArray := prog_1_method_30_code
def yX10_passTick : MethodName := ⟨RX10, "passTick", "()V"⟩
abbrev cX10_actOnStrobe : ByteArray := prog_1_method_31_code
def yX10_actOnStrobe : MethodName := ⟨RX10, "actOnStrobe", "(I)V"⟩
abbrev cX10_actOnDataStrobe : ByteArray := prog_1_method_32_code
def yX10_actOnDataStrobe : MethodName := ⟨RX10, "actOnDataStrobe", "()V"⟩
abbrev cX10_isWithin : ByteArray := prog_1_method_33_code
def yX10_isWithin : MethodName := ⟨RX10, "isWithin", "(III)Z"⟩
def RX11 : String := "PhaselockModel"
def TX11 : u_T := fun k => match k with
  | 0 => ("PhaselockModel", "thrown", "I", false)
  | 1 => ("PhaselockModel", "senderPhase", "I", false)
  | 2 => ("PhaselockModel", "step", "I", false)
  | 3 => ("PhaselockModel", "jitter", "I", false)
  | 4 => ("PhaselockModel", "random", "J", false)
  | 5 => ("PhaselockModel", "sent", "I", false)
  | 6 => ("PhaselockModel", "register", "I", false)
  | 7 => ("PhaselockModel", "value", "I", false)
  | 8 => ("PhaselockModel", "memory", "I", false)
  | 9 => ("PhaselockModel", "ticks", "I", false)
  | 10 => ("PhaselockModel", "areEdges", "[Z", true)
  | 11 => ("PhaselockModel", "phase", "I", false)
  | 12 => ("PhaselockModel", "control", "I", false)
  | 13 => ("PhaselockModel", "integral", "I", false)
  | 14 => ("PhaselockModel", "error", "I", false)
  | 15 => ("PhaselockModel", "detector", "I", false)
  | 16 => ("PhaselockModel", "gainP", "I", false)
  | 17 => ("PhaselockModel", "gainI", "I", false)
  | 18 => ("PhaselockModel", "edgeError", "I", false)
  | 19 => ("PhaselockModel", "product", "I", false)
  | 20 => ("PhaselockModel", "earlyValue", "I", false)
  | 21 => ("PhaselockModel", "middleValue", "I", false)
  | 22 => ("PhaselockModel", "middleLevel", "I", false)
  | 23 => ("PhaselockModel", "keptLevel", "I", false)
  | 24 => ("PhaselockModel", "received", "I", false)
  | 25 => ("PhaselockModel", "bits", "I", false)
  | 26 => ("PhaselockModel", "sentBefore", "I", false)
  | 27 => ("PhaselockModel", "repeated", "I", false)
  | 28 => ("PhaselockModel", "skipped", "I", false)
  | 29 => ("PhaselockModel", "slips", "I", false)
  | 30 => ("PhaselockModel", "phases", "[I", true)
  | 31 => ("PhaselockModel", "alignment", "I", false)
  | 32 => ("PhaselockModel", "sinceHunt", "I", false)
  | 33 => ("PhaselockModel", "matches", "I", false)
  | 34 => ("PhaselockModel", "misses", "I", false)
  | 35 => ("PhaselockModel", "frames", "I", false)
  | _ => ("PhaselockModel", "losses", "I", false)
def tyX11 : Nat → FieldType := fun k => match k with
  | 0 => .int
  | 1 => .int
  | 2 => .int
  | 3 => .int
  | 4 => .long
  | 5 => .int
  | 6 => .int
  | 7 => .int
  | 8 => .int
  | 9 => .int
  | 10 => .array .boolean
  | 11 => .int
  | 12 => .int
  | 13 => .int
  | 14 => .int
  | 15 => .int
  | 16 => .int
  | 17 => .int
  | 18 => .int
  | 19 => .int
  | 20 => .int
  | 21 => .int
  | 22 => .int
  | 23 => .int
  | 24 => .int
  | 25 => .int
  | 26 => .int
  | 27 => .int
  | 28 => .int
  | 29 => .int
  | 30 => .array .int
  | 31 => .int
  | 32 => .int
  | 33 => .int
  | 34 => .int
  | 35 => .int
  | _ => .int
abbrev wsX110 : List Cond := u_ws RX11 TX11 37
theorem nmX11 : ∀ a, a < 37 → ∀ b, b < 37 → a ≠ b → (TX11 a).2.1 ≠ (TX11 b).2.1 := by decide +kernel
theorem tyX11_ok : ∀ k, k < 37 → parseFieldDescriptor (TX11 k).2.2.1 = some (tyX11 k) := by decide +kernel
abbrev cX11_init : ByteArray := prog_13_method_1_code
def yX11_init : MethodName := ⟨RX11, "<init>", "()V"⟩
abbrev cX11_thrown : ByteArray := prog_13_method_2_code
def yX11_thrown : MethodName := ⟨RX11, "thrown", "()I"⟩
abbrev cX11_holds : ByteArray := prog_13_method_3_code
def yX11_holds : MethodName := ⟨RX11, "holds", "(I)Z"⟩
abbrev cX11_in : ByteArray := prog_13_method_4_code
def yX11_in : MethodName := ⟨RX11, "in", "(III)Z"⟩
abbrev cX11_setOffset : ByteArray := prog_13_method_5_code
def yX11_setOffset : MethodName := ⟨RX11, "setOffset", "(I)I"⟩
abbrev cX11_setJitter : ByteArray := prog_13_method_6_code
def yX11_setJitter : MethodName := ⟨RX11, "setJitter", "(II)V"⟩
abbrev cX11_setDetector : ByteArray := prog_13_method_7_code
def yX11_setDetector : MethodName := ⟨RX11, "setDetector", "(I)I"⟩
abbrev cX11_setGains : ByteArray := prog_13_method_8_code
def yX11_setGains : MethodName := ⟨RX11, "setGains", "(II)V"⟩
abbrev cX11_setPhase : ByteArray := prog_13_method_9_code
def yX11_setPhase : MethodName := ⟨RX11, "setPhase", "(I)I"⟩
abbrev cX11_release : ByteArray := prog_13_method_10_code
def yX11_release : MethodName := ⟨RX11, "release", "()V"⟩
abbrev cX11_kept : ByteArray := prog_13_method_11_code
def yX11_kept : MethodName := ⟨RX11, "kept", "(II)I"⟩
abbrev cX11_measures : ByteArray := prog_13_method_12_code
def yX11_measures : MethodName := ⟨RX11, "measures", "(I)V"⟩
abbrev cX11_sends : ByteArray := prog_13_method_13_code
def yX11_sends : MethodName := ⟨RX11, "sends", "()V"⟩
abbrev cX11_transmits : ByteArray := prog_13_method_14_code
def yX11_transmits : MethodName := ⟨RX11, "transmits", "()V"⟩
abbrev cX11_levelNow : ByteArray := prog_13_method_15_code
def yX11_levelNow : MethodName := ⟨RX11, "levelNow", "()I"⟩
abbrev cX11_size : ByteArray := prog_13_method_16_code
def yX11_size : MethodName := ⟨RX11, "size", "(I)I"⟩
abbrev cX11_measured : ByteArray := prog_13_method_17_code
def yX11_measured : MethodName := ⟨RX11, "measured", "()I"⟩
abbrev cX11_receives : ByteArray := prog_13_method_18_code
def yX11_receives : MethodName := ⟨RX11, "receives", "()V"⟩
abbrev cX11_aligns : ByteArray := prog_13_method_19_code
def yX11_aligns : MethodName := ⟨RX11, "aligns", "()V"⟩
abbrev cX11_strobes : ByteArray := prog_13_method_20_code
def yX11_strobes : MethodName := ⟨RX11, "strobes", "(I)V"⟩
abbrev cX11_passes : ByteArray := prog_13_method_21_code
def yX11_passes : MethodName := ⟨RX11, "passes", "()V"⟩
abbrev cX11_run : ByteArray := prog_13_method_22_code
def yX11_run : MethodName := ⟨RX11, "run", "(I)I"⟩
abbrev cX11_ticks : ByteArray := prog_13_method_23_code
def yX11_ticks : MethodName := ⟨RX11, "ticks", "()I"⟩
abbrev cX11_sent : ByteArray := prog_13_method_24_code
def yX11_sent : MethodName := ⟨RX11, "sent", "()I"⟩
abbrev cX11_line : ByteArray := prog_13_method_25_code
def yX11_line : MethodName := ⟨RX11, "line", "()I"⟩
abbrev cX11_level : ByteArray := prog_13_method_26_code
def yX11_level : MethodName := ⟨RX11, "level", "()I"⟩
abbrev cX11_sender : ByteArray := prog_13_method_27_code
def yX11_sender : MethodName := ⟨RX11, "sender", "()I"⟩
abbrev cX11_receiver : ByteArray := prog_13_method_28_code
def yX11_receiver : MethodName := ⟨RX11, "receiver", "()I"⟩
abbrev cX11_error : ByteArray := prog_13_method_29_code
def yX11_error : MethodName := ⟨RX11, "error", "()I"⟩
abbrev cX11_integral : ByteArray := prog_13_method_30_code
def yX11_integral : MethodName := ⟨RX11, "integral", "()I"⟩
abbrev cX11_control : ByteArray := prog_13_method_31_code
def yX11_control : MethodName := ⟨RX11, "control", "()I"⟩
abbrev cX11_received : ByteArray := prog_13_method_32_code
def yX11_received : MethodName := ⟨RX11, "received", "()I"⟩
abbrev cX11_recent : ByteArray := prog_13_method_33_code
def yX11_recent : MethodName := ⟨RX11, "recent", "()I"⟩
abbrev cX11_bit : ByteArray := prog_13_method_34_code
def yX11_bit : MethodName := ⟨RX11, "bit", "(I)I"⟩
abbrev cX11_phase : ByteArray := prog_13_method_35_code
def yX11_phase : MethodName := ⟨RX11, "phase", "()I"⟩
abbrev cX11_repeated : ByteArray := prog_13_method_36_code
def yX11_repeated : MethodName := ⟨RX11, "repeated", "()I"⟩
abbrev cX11_skipped : ByteArray := prog_13_method_37_code
def yX11_skipped : MethodName := ⟨RX11, "skipped", "()I"⟩
abbrev cX11_isLocked : ByteArray := prog_13_method_38_code
def yX11_isLocked : MethodName := ⟨RX11, "isLocked", "()Z"⟩
abbrev cX11_wander : ByteArray := prog_13_method_39_code
def yX11_wander : MethodName := ⟨RX11, "wander", "()I"⟩
abbrev cX11_alignment : ByteArray := prog_13_method_40_code
def yX11_alignment : MethodName := ⟨RX11, "alignment", "()I"⟩
abbrev cX11_frames : ByteArray := prog_13_method_41_code
def yX11_frames : MethodName := ⟨RX11, "frames", "()I"⟩
abbrev cX11_losses : ByteArray := prog_13_method_42_code
def yX11_losses : MethodName := ⟨RX11, "losses", "()I"⟩
abbrev cX11_costOf : ByteArray := prog_13_method_43_code
def yX11_costOf : MethodName := ⟨RX11, "costOf", "(I)I"⟩
abbrev cX11_bestPhase : ByteArray := prog_13_method_44_code
def yX11_bestPhase : MethodName := ⟨RX11, "bestPhase", "()I"⟩
abbrev cX11_cost : ByteArray := prog_13_method_45_code
def yX11_cost : MethodName := ⟨RX11, "cost", "(I)I"⟩
def RJ6 : String := "java/lang/Integer"
def TJ6 : u_T := fun k => match k with
  | _ => ("", "", "", false)
def tyJ6 : Nat → FieldType := fun k => match k with
  | _ => .int
abbrev wsJ60 : List Cond := u_ws RJ6 TJ6 0
theorem nmJ6 : ∀ a, a < 0 → ∀ b, b < 0 → a ≠ b → (TJ6 a).2.1 ≠ (TJ6 b).2.1 := by decide +kernel
theorem tyJ6_ok : ∀ k, k < 0 → parseFieldDescriptor (TJ6 k).2.2.1 = some (tyJ6 k) := by decide +kernel
abbrev cJ6_bitCount_0f7a4 : ByteArray := prog_18_method_49_code
def yJ6_bitCount_0f7a4 : MethodName := ⟨RJ6, "bitCount", "(I)I"⟩
def RJ9 : String := "java/lang/Math"
def TJ9 : u_T := fun k => match k with
  | _ => ("", "", "", false)
def tyJ9 : Nat → FieldType := fun k => match k with
  | _ => .int
abbrev wsJ90 : List Cond := u_ws RJ9 TJ9 0
theorem nmJ9 : ∀ a, a < 0 → ∀ b, b < 0 → a ≠ b → (TJ9 a).2.1 ≠ (TJ9 b).2.1 := by decide +kernel
theorem tyJ9_ok : ∀ k, k < 0 → parseFieldDescriptor (TJ9 k).2.2.1 = some (tyJ9 k) := by decide +kernel
abbrev cJ9_floorDiv_7cf53 : ByteArray := prog_19_method_47_code
def yJ9_floorDiv_7cf53 : MethodName := ⟨RJ9, "floorDiv", "(II)I"⟩
abbrev cJ9_abs_0f7a4 : ByteArray := prog_19_method_59_code
def yJ9_abs_0f7a4 : MethodName := ⟨RJ9, "abs", "(I)I"⟩
abbrev cJ9_max_7cf53 : ByteArray := prog_19_method_65_code
def yJ9_max_7cf53 : MethodName := ⟨RJ9, "max", "(II)I"⟩
abbrev cJ9_min_7cf53 : ByteArray := prog_19_method_69_code
def yJ9_min_7cf53 : MethodName := ⟨RJ9, "min", "(II)I"⟩
def RJ0 : String := "java/lang/String"
def TJ0 : u_T := fun k => match k with
  | _ => ("", "", "", false)
def tyJ0 : Nat → FieldType := fun k => match k with
  | _ => .int
abbrev wsJ00 : List Cond := u_ws RJ0 TJ0 0
theorem nmJ0 : ∀ a, a < 0 → ∀ b, b < 0 → a ≠ b → (TJ0 a).2.1 ≠ (TJ0 b).2.1 := by decide +kernel
theorem tyJ0_ok : ∀ k, k < 0 → parseFieldDescriptor (TJ0 k).2.2.1 = some (tyJ0 k) := by decide +kernel
def RL : String := "PhaselockLaw"
abbrev cL_setOffset : ByteArray := method_3_code
def yL_setOffset : MethodName := ⟨RL, "setOffset", "(LPhaselock;I[J)I"⟩
abbrev cL_setJitter : ByteArray := method_4_code
def yL_setJitter : MethodName := ⟨RL, "setJitter", "(LPhaselock;II)I"⟩
abbrev cL_setDetector : ByteArray := method_5_code
def yL_setDetector : MethodName := ⟨RL, "setDetector", "(LPhaselock;I[J)I"⟩
abbrev cL_setGains : ByteArray := method_6_code
def yL_setGains : MethodName := ⟨RL, "setGains", "(LPhaselock;II)I"⟩
abbrev cL_setPhase : ByteArray := method_7_code
def yL_setPhase : MethodName := ⟨RL, "setPhase", "(LPhaselock;I[J)I"⟩
abbrev cL_run : ByteArray := method_8_code
def yL_run : MethodName := ⟨RL, "run", "(LPhaselock;I[J)I"⟩
abbrev cL_bit : ByteArray := method_9_code
def yL_bit : MethodName := ⟨RL, "bit", "(LPhaselock;I[J)I"⟩
abbrev cL_phase : ByteArray := method_10_code
def yL_phase : MethodName := ⟨RL, "phase", "(LPhaselock;[J)I"⟩
abbrev cL_cost : ByteArray := method_11_code
def yL_cost : MethodName := ⟨RL, "cost", "(LPhaselock;I[J)I"⟩
abbrev cL_law : ByteArray := code
def yL_law : MethodName := ⟨RL, "law", "([I)Z"⟩
def wsX0_init : List Cond := .code yX0_init cX0_init 1 none :: ([.methodLink RX0 3 objectInit, .instanceMethod objectInit, .code objectInit ⟨#[0xb1]⟩ 1 none, .fieldLink RX0 11 "Phaselock$Aligner" "state" "I", .fieldLink RX0 15 "Phaselock$Aligner" "frames" "I", .fieldLink RX0 18 "Phaselock$Aligner" "losses" "I", .fieldLink RX0 21 "Phaselock$Aligner" "position" "I", .fieldLink RX0 24 "Phaselock$Aligner" "matches" "I", .fieldLink RX0 27 "Phaselock$Aligner" "misses" "I"] ++ wsX00)
def wsX0_verify : List Cond := .code yX0_verify cX0_verify 2 none :: ([.fieldLink RX0 11 "Phaselock$Aligner" "state" "I", .fieldLink RX0 24 "Phaselock$Aligner" "matches" "I", .fieldLink RX0 27 "Phaselock$Aligner" "misses" "I"] ++ wsX00)
def wsX0_watchSync : List Cond := .code yX0_watchSync cX0_watchSync 2 none :: ([.fieldLink RX0 15 "Phaselock$Aligner" "frames" "I", .fieldLink RX0 27 "Phaselock$Aligner" "misses" "I", .fieldLink RX0 11 "Phaselock$Aligner" "state" "I", .fieldLink RX0 18 "Phaselock$Aligner" "losses" "I"] ++ wsX00)
def wsX0_take : List Cond := .code yX0_take cX0_take 2 none :: ([.fieldLink RX0 11 "Phaselock$Aligner" "state" "I", .fieldLink RX0 21 "Phaselock$Aligner" "position" "I", .fieldLink RX0 24 "Phaselock$Aligner" "matches" "I", .methodLink RX0 30 yX0_verify, .instanceMethod yX0_verify, .selects RX0 yX0_verify yX0_verify, .initialized RX0, .code yX0_verify cX0_verify 2 none, .fieldLink RX0 27 "Phaselock$Aligner" "misses" "I", .methodLink RX0 34 yX0_watchSync, .instanceMethod yX0_watchSync, .selects RX0 yX0_watchSync yX0_watchSync, .code yX0_watchSync cX0_watchSync 2 none, .fieldLink RX0 15 "Phaselock$Aligner" "frames" "I", .fieldLink RX0 18 "Phaselock$Aligner" "losses" "I"] ++ wsX00)
def wsX1_init : List Cond := .code yX1_init cX1_init 1 none :: ([.methodLink RX1 3 objectInit, .instanceMethod objectInit, .code objectInit ⟨#[0xb1]⟩ 1 none, .fieldLink RX1 9 "Phaselock$BitLog" "count" "I", .fieldLink RX1 15 "Phaselock$BitLog" "latest32" "I"] ++ wsX10)
def wsX1_add : List Cond := .code yX1_add cX1_add 2 none :: ([.fieldLink RX1 9 "Phaselock$BitLog" "count" "I", .fieldLink RX1 15 "Phaselock$BitLog" "latest32" "I"] ++ wsX10)
def wsX10_isWithin : List Cond := .code yX10_isWithin cX10_isWithin 3 (some .boolean) :: ([])
def wsX1_remembers : List Cond := .code yX1_remembers cX1_remembers 2 (some .boolean) :: ([.fieldLink RX1 9 "Phaselock$BitLog" "count" "I", .methodLink RX1 18 Lib.Math.min.name, .static Lib.Math.min.name, .initialized "java/lang/Math", .code Lib.Math.min.name Lib.Math.min.code 2 (some .int), .static yX10_isWithin, .initialized RX10, .code yX10_isWithin cX10_isWithin 3 (some .boolean)] ++ wsX10)
def wsX1_findBit : List Cond := .code yX1_findBit cX1_findBit 2 (some .int) :: ([.fieldLink RX1 15 "Phaselock$BitLog" "latest32" "I"] ++ wsX10)
def wsX1_endsWithSyncWord : List Cond := .code yX1_endsWithSyncWord cX1_endsWithSyncWord 1 (some .boolean) :: ([.fieldLink RX1 9 "Phaselock$BitLog" "count" "I", .fieldLink RX1 15 "Phaselock$BitLog" "latest32" "I"] ++ wsX10)
def wsX2_init : List Cond := .code yX2_init cX2_init 1 none :: ([.methodLink RX2 1 objectInit, .instanceMethod objectInit, .code objectInit ⟨#[0xb1]⟩ 1 none, .fieldLink RX2 7 "Phaselock$EdgeLog" "ticks" "I", .arrayClass .boolean, .fieldLink RX2 13 "Phaselock$EdgeLog" "changed" "[Z"] ++ wsX20)
def wsX2_add : List Cond := .code yX2_add cX2_add 2 none :: ([.fieldLink RX2 7 "Phaselock$EdgeLog" "ticks" "I", .fieldLink RX2 13 "Phaselock$EdgeLog" "changed" "[Z"] ++ wsX20)
def wsX2_findDistance : List Cond := .code yX2_findDistance cX2_findDistance 4 (some .int) :: ([.methodLink RX2 21 Lib.Math.min.name, .static Lib.Math.min.name, .initialized "java/lang/Math", .code Lib.Math.min.name Lib.Math.min.code 2 (some .int)])
def wsX2_sumCosts : List Cond := .code yX2_sumCosts cX2_sumCosts 4 (some .int) :: ([.fieldLink RX2 13 "Phaselock$EdgeLog" "changed" "[Z", .methodLink RX2 17 yX2_findDistance, .static yX2_findDistance, .initialized RX2, .code yX2_findDistance cX2_findDistance 4 (some .int), .methodLink RX2 21 Lib.Math.min.name, .static Lib.Math.min.name, .initialized "java/lang/Math", .code Lib.Math.min.name Lib.Math.min.code 2 (some .int)] ++ wsX20)
def wsX3_init : List Cond := .code yX3_init cX3_init 1 none :: ([.methodLink RX3 1 objectInit, .instanceMethod objectInit, .code objectInit ⟨#[0xb1]⟩ 1 none, .constant RX3 7 (65535), .fieldLink RX3 8 "Phaselock$LineMemory" "values" "I"] ++ wsX30)
def wsX3_remember : List Cond := .code yX3_remember cX3_remember 2 none :: ([.fieldLink RX3 8 "Phaselock$LineMemory" "values" "I", .constant RX3 7 (65535)] ++ wsX30)
def wsX3_hasChangedSince : List Cond := .code yX3_hasChangedSince cX3_hasChangedSince 2 (some .boolean) :: ([.fieldLink RX3 8 "Phaselock$LineMemory" "values" "I"] ++ wsX30)
def wsJ6_bitCount_0f7a4 : List Cond := .code yJ6_bitCount_0f7a4 cJ6_bitCount_0f7a4 1 (some .int) :: ([.constant RJ6 265 (1431655765), .constant RJ6 266 (858993459), .constant RJ6 267 (252645135)])
def wsX3_findLevel : List Cond := .code yX3_findLevel cX3_findLevel 1 (some .int) :: ([.fieldLink RX3 8 "Phaselock$LineMemory" "values" "I", .methodLink RX3 14 yJ6_bitCount_0f7a4, .static yJ6_bitCount_0f7a4, .initialized RJ6, .code yJ6_bitCount_0f7a4 cJ6_bitCount_0f7a4 1 (some .int), .constant RJ6 265 (1431655765), .constant RJ6 266 (858993459), .constant RJ6 267 (252645135)] ++ wsX30)
def wsX4_init : List Cond := .code yX4_init cX4_init 1 none :: ([.methodLink RX4 1 objectInit, .instanceMethod objectInit, .code objectInit ⟨#[0xb1]⟩ 1 none, .fieldLink RX4 7 "Phaselock$LoopFilter" "proportionalGain" "I", .fieldLink RX4 13 "Phaselock$LoopFilter" "integralGain" "I", .fieldLink RX4 16 "Phaselock$LoopFilter" "error" "I", .fieldLink RX4 19 "Phaselock$LoopFilter" "integral" "I", .fieldLink RX4 22 "Phaselock$LoopFilter" "control" "I"] ++ wsX40)
def wsX4_keepWithin : List Cond := .code yX4_keepWithin cX4_keepWithin 2 (some .int) :: ([.methodLink RX4 35 Lib.Math.min.name, .static Lib.Math.min.name, .initialized "java/lang/Math", .code Lib.Math.min.name Lib.Math.min.code 2 (some .int), .methodLink RX4 38 Lib.Math.max.name, .static Lib.Math.max.name, .code Lib.Math.max.name Lib.Math.max.code 2 (some .int)])
def wsJ9_floorDiv_7cf53 : List Cond := .code yJ9_floorDiv_7cf53 cJ9_floorDiv_7cf53 3 (some .int) :: ([])
def wsX4_takeError : List Cond := .code yX4_takeError cX4_takeError 2 none :: ([.fieldLink RX4 16 "Phaselock$LoopFilter" "error" "I", .fieldLink RX4 19 "Phaselock$LoopFilter" "integral" "I", .fieldLink RX4 13 "Phaselock$LoopFilter" "integralGain" "I", .constant RX4 25 (262144), .fieldLink RX4 7 "Phaselock$LoopFilter" "proportionalGain" "I", .fieldLink RX4 22 "Phaselock$LoopFilter" "control" "I", .methodLink RX4 26 yX4_keepWithin, .static yX4_keepWithin, .initialized RX4, .code yX4_keepWithin cX4_keepWithin 2 (some .int), .methodLink RX4 35 Lib.Math.min.name, .static Lib.Math.min.name, .initialized "java/lang/Math", .code Lib.Math.min.name Lib.Math.min.code 2 (some .int), .methodLink RX4 38 Lib.Math.max.name, .static Lib.Math.max.name, .code Lib.Math.max.name Lib.Math.max.code 2 (some .int), .methodLink RX4 30 yJ9_floorDiv_7cf53, .static yJ9_floorDiv_7cf53, .initialized RJ9, .code yJ9_floorDiv_7cf53 cJ9_floorDiv_7cf53 3 (some .int)] ++ wsX40)
def wsX5_init : List Cond := .code yX5_init cX5_init 1 none :: ([.methodLink RX5 3 objectInit, .instanceMethod objectInit, .code objectInit ⟨#[0xb1]⟩ 1 none, .fieldLink RX5 9 "Phaselock$Oscillator" "phase" "I"] ++ wsX50)
def wsX5_hasPassed : List Cond := .code yX5_hasPassed cX5_hasPassed 3 (some .boolean) :: ([.fieldLink RX5 9 "Phaselock$Oscillator" "phase" "I"] ++ wsX50)
def wsX5_advance : List Cond := .code yX5_advance cX5_advance 3 (some .int) :: ([.fieldLink RX5 9 "Phaselock$Oscillator" "phase" "I", .constant RX5 15 (65536), .constant RX5 16 (49152), .constant RX5 21 (32768), .methodLink RX5 17 yX5_hasPassed, .instanceMethod yX5_hasPassed, .selects RX5 yX5_hasPassed yX5_hasPassed, .initialized RX5, .code yX5_hasPassed cX5_hasPassed 3 (some .boolean)] ++ wsX50)
def wsX6_init : List Cond := .code yX6_init cX6_init 1 none :: ([.methodLink RX6 3 objectInit, .instanceMethod objectInit, .code objectInit ⟨#[0xb1]⟩ 1 none, .fieldLink RX6 9 "Phaselock$PhaseDetector" "kind" "I", .fieldLink RX6 15 "Phaselock$PhaseDetector" "edgeError" "I", .fieldLink RX6 18 "Phaselock$PhaseDetector" "product" "I", .fieldLink RX6 21 "Phaselock$PhaseDetector" "earlyValue" "I", .fieldLink RX6 24 "Phaselock$PhaseDetector" "middleValue" "I", .fieldLink RX6 27 "Phaselock$PhaseDetector" "middleLevel" "I", .fieldLink RX6 30 "Phaselock$PhaseDetector" "dataLevel" "I"] ++ wsX60)
def wsX6_watchLine : List Cond := .code yX6_watchLine cX6_watchLine 3 none :: ([.constant RX6 39 (32768), .fieldLink RX6 15 "Phaselock$PhaseDetector" "edgeError" "I", .fieldLink RX6 18 "Phaselock$PhaseDetector" "product" "I", .constant RX6 40 (49151), .methodLink RX6 33 yX3_hasChangedSince, .instanceMethod yX3_hasChangedSince, .selects RX3 yX3_hasChangedSince yX3_hasChangedSince, .initialized RX3, .code yX3_hasChangedSince cX3_hasChangedSince 2 (some .boolean), .fieldLink RX3 8 "Phaselock$LineMemory" "values" "I", .static yX10_isWithin, .initialized RX10, .code yX10_isWithin cX10_isWithin 3 (some .boolean)] ++ wsX60 ++ wsX30)
def wsX6_keepEarly : List Cond := .code yX6_keepEarly cX6_keepEarly 2 none :: ([.methodLink RX6 45 Lib.Math.abs.name, .static Lib.Math.abs.name, .initialized "java/lang/Math", .code Lib.Math.abs.name Lib.Math.abs.code 1 (some .int), .fieldLink RX6 21 "Phaselock$PhaseDetector" "earlyValue" "I"] ++ wsX60)
def wsX6_keepMiddle : List Cond := .code yX6_keepMiddle cX6_keepMiddle 3 none :: ([.fieldLink RX6 24 "Phaselock$PhaseDetector" "middleValue" "I", .fieldLink RX6 27 "Phaselock$PhaseDetector" "middleLevel" "I"] ++ wsX60)
def wsX6_measureLate : List Cond := .code yX6_measureLate cX6_measureLate 2 (some .int) :: ([.fieldLink RX6 21 "Phaselock$PhaseDetector" "earlyValue" "I", .methodLink RX6 45 Lib.Math.abs.name, .static Lib.Math.abs.name, .initialized "java/lang/Math", .code Lib.Math.abs.name Lib.Math.abs.code 1 (some .int)] ++ wsX60)
def wsX6_measureBangBang : List Cond := .code yX6_measureBangBang cX6_measureBangBang 4 (some .int) :: ([.fieldLink RX6 55 "Phaselock$BitLog" "count" "I", .fieldLink RX6 24 "Phaselock$PhaseDetector" "middleValue" "I", .methodLink RX6 60 yX1_findBit, .instanceMethod yX1_findBit, .selects RX1 yX1_findBit yX1_findBit, .initialized RX1, .code yX1_findBit cX1_findBit 2 (some .int), .fieldLink RX1 15 "Phaselock$BitLog" "latest32" "I"] ++ wsX10 ++ wsX60)
def wsX6_measureAtData : List Cond := .code yX6_measureAtData cX6_measureAtData 4 (some .int) :: ([.fieldLink RX6 9 "Phaselock$PhaseDetector" "kind" "I", .fieldLink RX6 15 "Phaselock$PhaseDetector" "edgeError" "I", .fieldLink RX6 18 "Phaselock$PhaseDetector" "product" "I", .fieldLink RX6 27 "Phaselock$PhaseDetector" "middleLevel" "I", .fieldLink RX6 30 "Phaselock$PhaseDetector" "dataLevel" "I", .methodLink RX6 51 yX6_measureBangBang, .instanceMethod yX6_measureBangBang, .selects RX6 yX6_measureBangBang yX6_measureBangBang, .initialized RX6, .code yX6_measureBangBang cX6_measureBangBang 4 (some .int), .fieldLink RX6 55 "Phaselock$BitLog" "count" "I", .fieldLink RX6 24 "Phaselock$PhaseDetector" "middleValue" "I", .methodLink RX6 60 yX1_findBit, .instanceMethod yX1_findBit, .selects RX1 yX1_findBit yX1_findBit, .initialized RX1, .code yX1_findBit cX1_findBit 2 (some .int), .fieldLink RX1 15 "Phaselock$BitLog" "latest32" "I"] ++ wsX60 ++ wsX10)
def wsX6_finishBit : List Cond := .code yX6_finishBit cX6_finishBit 2 none :: ([.fieldLink RX6 15 "Phaselock$PhaseDetector" "edgeError" "I", .fieldLink RX6 18 "Phaselock$PhaseDetector" "product" "I", .fieldLink RX6 30 "Phaselock$PhaseDetector" "dataLevel" "I"] ++ wsX60)
def wsX7_init : List Cond := .code yX7_init cX7_init 1 none :: ([.methodLink RX7 3 objectInit, .instanceMethod objectInit, .code objectInit ⟨#[0xb1]⟩ 1 none, .fieldLink RX7 9 "Phaselock$PhaseLog" "count" "I", .fieldLink RX7 15 "Phaselock$PhaseLog" "latest" "I", .fieldLink RX7 18 "Phaselock$PhaseLog" "steadyCount" "I", .arrayClass .int, .fieldLink RX7 21 "Phaselock$PhaseLog" "window" "[I"] ++ wsX70)
def wsX7_add : List Cond := .code yX7_add cX7_add 4 none :: ([.fieldLink RX7 21 "Phaselock$PhaseLog" "window" "[I", .fieldLink RX7 9 "Phaselock$PhaseLog" "count" "I", .fieldLink RX7 15 "Phaselock$PhaseLog" "latest" "I", .fieldLink RX7 18 "Phaselock$PhaseLog" "steadyCount" "I", .static yX10_isWithin, .initialized RX10, .code yX10_isWithin cX10_isWithin 3 (some .boolean)] ++ wsX70)
def wsX7_isSteady : List Cond := .code yX7_isSteady cX7_isSteady 1 (some .boolean) :: ([.fieldLink RX7 18 "Phaselock$PhaseLog" "steadyCount" "I"] ++ wsX70)
def wsX7_sumAbsolutes : List Cond := .code yX7_sumAbsolutes cX7_sumAbsolutes 3 (some .int) :: ([.fieldLink RX7 21 "Phaselock$PhaseLog" "window" "[I", .methodLink RX7 29 Lib.Math.abs.name, .static Lib.Math.abs.name, .initialized "java/lang/Math", .code Lib.Math.abs.name Lib.Math.abs.code 1 (some .int)] ++ wsX70)
def wsX8_init : List Cond := .code yX8_init cX8_init 1 none :: ([.methodLink RX8 1 objectInit, .instanceMethod objectInit, .code objectInit ⟨#[0xb1]⟩ 1 none, .fieldLink RX8 7 "Phaselock$SlipCounter" "repeated" "I", .fieldLink RX8 13 "Phaselock$SlipCounter" "skipped" "I", .fieldLink RX8 16 "Phaselock$SlipCounter" "hasStrobed" "Z", .fieldLink RX8 20 "Phaselock$SlipCounter" "numberBefore" "I"] ++ wsX80)
def wsX8_compare : List Cond := .code yX8_compare cX8_compare 3 (some .boolean) :: ([.fieldLink RX8 16 "Phaselock$SlipCounter" "hasStrobed" "Z", .fieldLink RX8 20 "Phaselock$SlipCounter" "numberBefore" "I", .fieldLink RX8 7 "Phaselock$SlipCounter" "repeated" "I", .fieldLink RX8 13 "Phaselock$SlipCounter" "skipped" "I"] ++ wsX80)
def wsX9_init : List Cond := .code yX9_init cX9_init 1 none :: ([.methodLink RX9 3 objectInit, .instanceMethod objectInit, .code objectInit ⟨#[0xb1]⟩ 1 none, .fieldLink RX9 9 "Phaselock$Transmitter" "phase" "I", .fieldLink RX9 15 "Phaselock$Transmitter" "step" "I", .fieldLink RX9 18 "Phaselock$Transmitter" "jitter" "I", .fieldLink RX9 21 "Phaselock$Transmitter" "randomState" "J", .fieldLink RX9 25 "Phaselock$Transmitter" "number" "I", .fieldLink RX9 28 "Phaselock$Transmitter" "value" "I", .fieldLink RX9 31 "Phaselock$Transmitter" "register" "I"] ++ wsX90)
def wsX9_drawDeviation : List Cond := .code yX9_drawDeviation cX9_drawDeviation 2 (some .int) :: ([.fieldLink RX9 18 "Phaselock$Transmitter" "jitter" "I", .constantLong RX9 42 (1103515245), .fieldLink RX9 21 "Phaselock$Transmitter" "randomState" "J", .constantLong RX9 44 (12345), .constantLong RX9 46 (2147483648), .constantLong RX9 48 (65536)] ++ wsX90)
def wsX9_shiftRegister : List Cond := .code yX9_shiftRegister cX9_shiftRegister 3 (some .int) :: ([.fieldLink RX9 31 "Phaselock$Transmitter" "register" "I"] ++ wsX90)
def wsX9_sendNextBit : List Cond := .code yX9_sendNextBit cX9_sendNextBit 2 none :: ([.fieldLink RX9 25 "Phaselock$Transmitter" "number" "I", .fieldLink RX9 28 "Phaselock$Transmitter" "value" "I", .methodLink RX9 50 yX9_shiftRegister, .instanceMethod yX9_shiftRegister, .selects RX9 yX9_shiftRegister yX9_shiftRegister, .initialized RX9, .code yX9_shiftRegister cX9_shiftRegister 3 (some .int), .fieldLink RX9 31 "Phaselock$Transmitter" "register" "I"] ++ wsX90)
def wsX9_advance_r1 : List Cond := [Cond.fieldLink RX9 9 "Phaselock$Transmitter" "phase" "I", Cond.fieldLink RX9 15 "Phaselock$Transmitter" "step" "I", Cond.constant RX9 38 (65536), Cond.methodLink RX9 34 yX9_drawDeviation, Cond.instanceMethod yX9_drawDeviation, Cond.selects RX9 yX9_drawDeviation yX9_drawDeviation, Cond.initialized RX9, Cond.code yX9_drawDeviation cX9_drawDeviation 2 (some .int), Cond.fieldLink RX9 18 "Phaselock$Transmitter" "jitter" "I", Cond.constantLong RX9 42 (1103515245), Cond.fieldLink RX9 21 "Phaselock$Transmitter" "randomState" "J", Cond.constantLong RX9 44 (12345), Cond.constantLong RX9 46 (2147483648), Cond.constantLong RX9 48 (65536), Cond.methodLink RX9 39 yX9_sendNextBit, Cond.instanceMethod yX9_sendNextBit, Cond.selects RX9 yX9_sendNextBit yX9_sendNextBit, Cond.code yX9_sendNextBit cX9_sendNextBit 2 none, Cond.fieldLink RX9 25 "Phaselock$Transmitter" "number" "I", Cond.fieldLink RX9 28 "Phaselock$Transmitter" "value" "I", Cond.methodLink RX9 50 yX9_shiftRegister, Cond.instanceMethod yX9_shiftRegister, Cond.selects RX9 yX9_shiftRegister yX9_shiftRegister, Cond.code yX9_shiftRegister cX9_shiftRegister 3 (some .int)]
def wsX9_advance_r2 : List Cond := [Cond.fieldLink RX9 31 "Phaselock$Transmitter" "register" "I"]
def wsX9_advance : List Cond := .code yX9_advance cX9_advance 1 none :: ((wsX9_advance_r1 ++ wsX9_advance_r2) ++ wsX90)
def wsX10_init_r1 : List Cond := [Cond.methodLink RX10 1 objectInit, Cond.instanceMethod objectInit, Cond.code objectInit ⟨#[0xb1]⟩ 1 none, Cond.classLink RX10 7 RX9, Cond.instantiable RX9 7, Cond.initialized RX9, Cond.fieldLink RX10 10 "Phaselock" "transmitter" "LPhaselock$Transmitter;", Cond.classLink RX10 16 RX3, Cond.instantiable RX3 1, Cond.initialized RX3, Cond.fieldLink RX10 19 "Phaselock" "memory" "LPhaselock$LineMemory;", Cond.classLink RX10 23 RX2, Cond.instantiable RX2 2, Cond.initialized RX2, Cond.fieldLink RX10 26 "Phaselock" "edges" "LPhaselock$EdgeLog;", Cond.classLink RX10 30 RX5, Cond.instantiable RX5 1, Cond.initialized RX5, Cond.fieldLink RX10 33 "Phaselock" "oscillator" "LPhaselock$Oscillator;", Cond.classLink RX10 37 RX6, Cond.instantiable RX6 7, Cond.initialized RX6, Cond.fieldLink RX10 40 "Phaselock" "detector" "LPhaselock$PhaseDetector;", Cond.classLink RX10 44 RX4]
def wsX10_init_r2 : List Cond := [Cond.instantiable RX4 5, Cond.initialized RX4, Cond.fieldLink RX10 47 "Phaselock" "filter" "LPhaselock$LoopFilter;", Cond.classLink RX10 51 RX1, Cond.instantiable RX1 2, Cond.initialized RX1, Cond.fieldLink RX10 54 "Phaselock" "bits" "LPhaselock$BitLog;", Cond.classLink RX10 58 RX8, Cond.instantiable RX8 4, Cond.initialized RX8, Cond.fieldLink RX10 61 "Phaselock" "slips" "LPhaselock$SlipCounter;", Cond.classLink RX10 65 RX7, Cond.instantiable RX7 4, Cond.initialized RX7, Cond.fieldLink RX10 68 "Phaselock" "phases" "LPhaselock$PhaseLog;", Cond.classLink RX10 72 RX0, Cond.instantiable RX0 6, Cond.initialized RX0, Cond.fieldLink RX10 75 "Phaselock" "aligner" "LPhaselock$Aligner;", Cond.instanceMethod yX9_init, Cond.code yX9_init cX9_init 1 none, Cond.methodLink RX9 3 objectInit, Cond.fieldLink RX9 9 "Phaselock$Transmitter" "phase" "I", Cond.fieldLink RX9 15 "Phaselock$Transmitter" "step" "I"]
def wsX10_init_r3 : List Cond := [Cond.fieldLink RX9 18 "Phaselock$Transmitter" "jitter" "I", Cond.fieldLink RX9 21 "Phaselock$Transmitter" "randomState" "J", Cond.fieldLink RX9 25 "Phaselock$Transmitter" "number" "I", Cond.fieldLink RX9 28 "Phaselock$Transmitter" "value" "I", Cond.fieldLink RX9 31 "Phaselock$Transmitter" "register" "I", Cond.instanceMethod yX3_init, Cond.code yX3_init cX3_init 1 none, Cond.methodLink RX3 1 objectInit, Cond.constant RX3 7 (65535), Cond.fieldLink RX3 8 "Phaselock$LineMemory" "values" "I", Cond.instanceMethod yX2_init, Cond.code yX2_init cX2_init 1 none, Cond.methodLink RX2 1 objectInit, Cond.fieldLink RX2 7 "Phaselock$EdgeLog" "ticks" "I", Cond.arrayClass .boolean, Cond.fieldLink RX2 13 "Phaselock$EdgeLog" "changed" "[Z", Cond.instanceMethod yX5_init, Cond.code yX5_init cX5_init 1 none, Cond.methodLink RX5 3 objectInit, Cond.fieldLink RX5 9 "Phaselock$Oscillator" "phase" "I", Cond.instanceMethod yX6_init, Cond.code yX6_init cX6_init 1 none, Cond.methodLink RX6 3 objectInit, Cond.fieldLink RX6 9 "Phaselock$PhaseDetector" "kind" "I"]
def wsX10_init_r4 : List Cond := [Cond.fieldLink RX6 15 "Phaselock$PhaseDetector" "edgeError" "I", Cond.fieldLink RX6 18 "Phaselock$PhaseDetector" "product" "I", Cond.fieldLink RX6 21 "Phaselock$PhaseDetector" "earlyValue" "I", Cond.fieldLink RX6 24 "Phaselock$PhaseDetector" "middleValue" "I", Cond.fieldLink RX6 27 "Phaselock$PhaseDetector" "middleLevel" "I", Cond.fieldLink RX6 30 "Phaselock$PhaseDetector" "dataLevel" "I", Cond.instanceMethod yX4_init, Cond.code yX4_init cX4_init 1 none, Cond.methodLink RX4 1 objectInit, Cond.fieldLink RX4 7 "Phaselock$LoopFilter" "proportionalGain" "I", Cond.fieldLink RX4 13 "Phaselock$LoopFilter" "integralGain" "I", Cond.fieldLink RX4 16 "Phaselock$LoopFilter" "error" "I", Cond.fieldLink RX4 19 "Phaselock$LoopFilter" "integral" "I", Cond.fieldLink RX4 22 "Phaselock$LoopFilter" "control" "I", Cond.instanceMethod yX1_init, Cond.code yX1_init cX1_init 1 none, Cond.methodLink RX1 3 objectInit, Cond.fieldLink RX1 9 "Phaselock$BitLog" "count" "I", Cond.fieldLink RX1 15 "Phaselock$BitLog" "latest32" "I", Cond.instanceMethod yX8_init, Cond.code yX8_init cX8_init 1 none, Cond.methodLink RX8 1 objectInit, Cond.fieldLink RX8 7 "Phaselock$SlipCounter" "repeated" "I", Cond.fieldLink RX8 13 "Phaselock$SlipCounter" "skipped" "I"]
def wsX10_init_r5 : List Cond := [Cond.fieldLink RX8 16 "Phaselock$SlipCounter" "hasStrobed" "Z", Cond.fieldLink RX8 20 "Phaselock$SlipCounter" "numberBefore" "I", Cond.instanceMethod yX7_init, Cond.code yX7_init cX7_init 1 none, Cond.methodLink RX7 3 objectInit, Cond.fieldLink RX7 9 "Phaselock$PhaseLog" "count" "I", Cond.fieldLink RX7 15 "Phaselock$PhaseLog" "latest" "I", Cond.fieldLink RX7 18 "Phaselock$PhaseLog" "steadyCount" "I", Cond.arrayClass .int, Cond.fieldLink RX7 21 "Phaselock$PhaseLog" "window" "[I", Cond.instanceMethod yX0_init, Cond.code yX0_init cX0_init 1 none, Cond.methodLink RX0 3 objectInit, Cond.fieldLink RX0 11 "Phaselock$Aligner" "state" "I", Cond.fieldLink RX0 15 "Phaselock$Aligner" "frames" "I", Cond.fieldLink RX0 18 "Phaselock$Aligner" "losses" "I", Cond.fieldLink RX0 21 "Phaselock$Aligner" "position" "I", Cond.fieldLink RX0 24 "Phaselock$Aligner" "matches" "I", Cond.fieldLink RX0 27 "Phaselock$Aligner" "misses" "I"]
def wsX10_init : List Cond := .code yX10_init cX10_init 1 none :: ((wsX10_init_r1 ++ (wsX10_init_r2 ++ (wsX10_init_r3 ++ (wsX10_init_r4 ++ wsX10_init_r5)))) ++ wsX90 ++ wsX100 ++ wsX30 ++ wsX20 ++ wsX50 ++ wsX60 ++ wsX40 ++ wsX10 ++ wsX80 ++ wsX70 ++ wsX00)
def wsX10_setOffset : List Cond := .code yX10_setOffset cX10_setOffset 2 (some .int) :: ([.classLink RX10 83 "java/lang/IllegalArgumentException", .initialized "java/lang/IllegalArgumentException", .fieldLink RX10 10 "Phaselock" "transmitter" "LPhaselock$Transmitter;", .fieldLink RX10 90 "Phaselock$Transmitter" "step" "I", .methodLink RX10 79 yX10_isWithin, .static yX10_isWithin, .initialized RX10, .code yX10_isWithin cX10_isWithin 3 (some .boolean)] ++ wsX100 ++ wsX90 ++ (vx_atS RX10 87 "java/lang/IllegalArgumentException" ["java/lang/RuntimeException", "java/lang/Exception"]).filter goodWord)
def wsX10_setJitter : List Cond := .code yX10_setJitter cX10_setJitter 3 none :: ([.classLink RX10 83 "java/lang/IllegalArgumentException", .initialized "java/lang/IllegalArgumentException", .fieldLink RX10 10 "Phaselock" "transmitter" "LPhaselock$Transmitter;", .fieldLink RX10 98 "Phaselock$Transmitter" "jitter" "I", .fieldLink RX10 101 "Phaselock$Transmitter" "randomState" "J", .methodLink RX10 79 yX10_isWithin, .static yX10_isWithin, .initialized RX10, .code yX10_isWithin cX10_isWithin 3 (some .boolean)] ++ wsX100 ++ wsX90 ++ (vx_atS RX10 87 "java/lang/IllegalArgumentException" ["java/lang/RuntimeException", "java/lang/Exception"]).filter goodWord)
def wsX10_setDetector : List Cond := .code yX10_setDetector cX10_setDetector 3 (some .int) :: ([.classLink RX10 83 "java/lang/IllegalArgumentException", .initialized "java/lang/IllegalArgumentException", .fieldLink RX10 40 "Phaselock" "detector" "LPhaselock$PhaseDetector;", .fieldLink RX10 107 "Phaselock$PhaseDetector" "kind" "I", .methodLink RX10 79 yX10_isWithin, .static yX10_isWithin, .initialized RX10, .code yX10_isWithin cX10_isWithin 3 (some .boolean)] ++ wsX100 ++ wsX60 ++ (vx_atS RX10 87 "java/lang/IllegalArgumentException" ["java/lang/RuntimeException", "java/lang/Exception"]).filter goodWord)
def wsX10_setGains : List Cond := .code yX10_setGains cX10_setGains 3 none :: ([.classLink RX10 83 "java/lang/IllegalArgumentException", .initialized "java/lang/IllegalArgumentException", .fieldLink RX10 47 "Phaselock" "filter" "LPhaselock$LoopFilter;", .fieldLink RX10 114 "Phaselock$LoopFilter" "proportionalGain" "I", .fieldLink RX10 117 "Phaselock$LoopFilter" "integralGain" "I", .methodLink RX10 79 yX10_isWithin, .static yX10_isWithin, .initialized RX10, .code yX10_isWithin cX10_isWithin 3 (some .boolean)] ++ wsX100 ++ wsX40 ++ (vx_atS RX10 87 "java/lang/IllegalArgumentException" ["java/lang/RuntimeException", "java/lang/Exception"]).filter goodWord)
def wsX10_setPhase : List Cond := .code yX10_setPhase cX10_setPhase 3 (some .int) :: ([.classLink RX10 83 "java/lang/IllegalArgumentException", .initialized "java/lang/IllegalArgumentException", .constant RX10 120 (65535), .fieldLink RX10 33 "Phaselock" "oscillator" "LPhaselock$Oscillator;", .fieldLink RX10 123 "Phaselock$Oscillator" "phase" "I", .methodLink RX10 79 yX10_isWithin, .static yX10_isWithin, .initialized RX10, .code yX10_isWithin cX10_isWithin 3 (some .boolean)] ++ wsX100 ++ wsX50 ++ (vx_atS RX10 87 "java/lang/IllegalArgumentException" ["java/lang/RuntimeException", "java/lang/Exception"]).filter goodWord)
def wsX10_release : List Cond := .code yX10_release cX10_release 1 none :: ([.fieldLink RX10 47 "Phaselock" "filter" "LPhaselock$LoopFilter;", .fieldLink RX10 126 "Phaselock$LoopFilter" "integral" "I", .fieldLink RX10 129 "Phaselock$LoopFilter" "control" "I"] ++ wsX100 ++ wsX40)
def wsX10_actOnDataStrobe_r1 : List Cond := [Cond.fieldLink RX10 10 "Phaselock" "transmitter" "LPhaselock$Transmitter;", Cond.fieldLink RX10 146 "Phaselock$Transmitter" "value" "I", Cond.fieldLink RX10 19 "Phaselock" "memory" "LPhaselock$LineMemory;", Cond.fieldLink RX10 40 "Phaselock" "detector" "LPhaselock$PhaseDetector;", Cond.fieldLink RX10 107 "Phaselock$PhaseDetector" "kind" "I", Cond.fieldLink RX10 47 "Phaselock" "filter" "LPhaselock$LoopFilter;", Cond.fieldLink RX10 54 "Phaselock" "bits" "LPhaselock$BitLog;", Cond.fieldLink RX10 61 "Phaselock" "slips" "LPhaselock$SlipCounter;", Cond.fieldLink RX10 143 "Phaselock$Transmitter" "number" "I", Cond.fieldLink RX10 68 "Phaselock" "phases" "LPhaselock$PhaseLog;", Cond.fieldLink RX10 153 "Phaselock$Transmitter" "phase" "I", Cond.constant RX10 257 (32768), Cond.fieldLink RX10 75 "Phaselock" "aligner" "LPhaselock$Aligner;", Cond.methodLink RX10 149 yX3_findLevel, Cond.instanceMethod yX3_findLevel, Cond.selects RX3 yX3_findLevel yX3_findLevel, Cond.initialized RX3, Cond.code yX3_findLevel cX3_findLevel 1 (some .int), Cond.fieldLink RX3 8 "Phaselock$LineMemory" "values" "I", Cond.methodLink RX3 14 yJ6_bitCount_0f7a4, Cond.static yJ6_bitCount_0f7a4, Cond.initialized RJ6, Cond.code yJ6_bitCount_0f7a4 cJ6_bitCount_0f7a4 1 (some .int), Cond.constant RJ6 265 (1431655765)]
def wsX10_actOnDataStrobe_r2 : List Cond := [Cond.constant RJ6 266 (858993459), Cond.constant RJ6 267 (252645135), Cond.methodLink RX10 245 yX6_measureAtData, Cond.instanceMethod yX6_measureAtData, Cond.selects RX6 yX6_measureAtData yX6_measureAtData, Cond.initialized RX6, Cond.code yX6_measureAtData cX6_measureAtData 4 (some .int), Cond.fieldLink RX6 9 "Phaselock$PhaseDetector" "kind" "I", Cond.fieldLink RX6 15 "Phaselock$PhaseDetector" "edgeError" "I", Cond.fieldLink RX6 18 "Phaselock$PhaseDetector" "product" "I", Cond.fieldLink RX6 27 "Phaselock$PhaseDetector" "middleLevel" "I", Cond.fieldLink RX6 30 "Phaselock$PhaseDetector" "dataLevel" "I", Cond.methodLink RX6 51 yX6_measureBangBang, Cond.instanceMethod yX6_measureBangBang, Cond.selects RX6 yX6_measureBangBang yX6_measureBangBang, Cond.code yX6_measureBangBang cX6_measureBangBang 4 (some .int), Cond.fieldLink RX6 55 "Phaselock$BitLog" "count" "I", Cond.fieldLink RX6 24 "Phaselock$PhaseDetector" "middleValue" "I", Cond.methodLink RX6 60 yX1_findBit, Cond.instanceMethod yX1_findBit, Cond.selects RX1 yX1_findBit yX1_findBit, Cond.initialized RX1, Cond.code yX1_findBit cX1_findBit 2 (some .int), Cond.fieldLink RX1 15 "Phaselock$BitLog" "latest32" "I"]
def wsX10_actOnDataStrobe_r3 : List Cond := [Cond.methodLink RX10 232 yX4_takeError, Cond.instanceMethod yX4_takeError, Cond.selects RX4 yX4_takeError yX4_takeError, Cond.initialized RX4, Cond.code yX4_takeError cX4_takeError 2 none, Cond.fieldLink RX4 16 "Phaselock$LoopFilter" "error" "I", Cond.fieldLink RX4 19 "Phaselock$LoopFilter" "integral" "I", Cond.fieldLink RX4 13 "Phaselock$LoopFilter" "integralGain" "I", Cond.constant RX4 25 (262144), Cond.fieldLink RX4 7 "Phaselock$LoopFilter" "proportionalGain" "I", Cond.fieldLink RX4 22 "Phaselock$LoopFilter" "control" "I", Cond.methodLink RX4 26 yX4_keepWithin, Cond.static yX4_keepWithin, Cond.code yX4_keepWithin cX4_keepWithin 2 (some .int), Cond.methodLink RX4 35 Lib.Math.min.name, Cond.static Lib.Math.min.name, Cond.initialized "java/lang/Math", Cond.code Lib.Math.min.name Lib.Math.min.code 2 (some .int), Cond.methodLink RX4 38 Lib.Math.max.name, Cond.static Lib.Math.max.name, Cond.code Lib.Math.max.name Lib.Math.max.code 2 (some .int), Cond.methodLink RX4 30 yJ9_floorDiv_7cf53, Cond.static yJ9_floorDiv_7cf53, Cond.initialized RJ9]
def wsX10_actOnDataStrobe_r4 : List Cond := [Cond.code yJ9_floorDiv_7cf53 cJ9_floorDiv_7cf53 3 (some .int), Cond.methodLink RX10 249 yX6_finishBit, Cond.instanceMethod yX6_finishBit, Cond.selects RX6 yX6_finishBit yX6_finishBit, Cond.code yX6_finishBit cX6_finishBit 2 none, Cond.methodLink RX10 252 yX1_add, Cond.instanceMethod yX1_add, Cond.selects RX1 yX1_add yX1_add, Cond.code yX1_add cX1_add 2 none, Cond.fieldLink RX1 9 "Phaselock$BitLog" "count" "I", Cond.methodLink RX10 254 yX8_compare, Cond.instanceMethod yX8_compare, Cond.selects RX8 yX8_compare yX8_compare, Cond.initialized RX8, Cond.code yX8_compare cX8_compare 3 (some .boolean), Cond.fieldLink RX8 16 "Phaselock$SlipCounter" "hasStrobed" "Z", Cond.fieldLink RX8 20 "Phaselock$SlipCounter" "numberBefore" "I", Cond.fieldLink RX8 7 "Phaselock$SlipCounter" "repeated" "I", Cond.fieldLink RX8 13 "Phaselock$SlipCounter" "skipped" "I", Cond.methodLink RX10 258 yX7_add, Cond.instanceMethod yX7_add, Cond.selects RX7 yX7_add yX7_add, Cond.initialized RX7, Cond.code yX7_add cX7_add 4 none]
def wsX10_actOnDataStrobe_r5 : List Cond := [Cond.fieldLink RX7 21 "Phaselock$PhaseLog" "window" "[I", Cond.fieldLink RX7 9 "Phaselock$PhaseLog" "count" "I", Cond.fieldLink RX7 15 "Phaselock$PhaseLog" "latest" "I", Cond.fieldLink RX7 18 "Phaselock$PhaseLog" "steadyCount" "I", Cond.static yX10_isWithin, Cond.initialized RX10, Cond.code yX10_isWithin cX10_isWithin 3 (some .boolean), Cond.methodLink RX10 261 yX1_endsWithSyncWord, Cond.instanceMethod yX1_endsWithSyncWord, Cond.selects RX1 yX1_endsWithSyncWord yX1_endsWithSyncWord, Cond.code yX1_endsWithSyncWord cX1_endsWithSyncWord 1 (some .boolean), Cond.methodLink RX10 264 yX0_take, Cond.instanceMethod yX0_take, Cond.selects RX0 yX0_take yX0_take, Cond.initialized RX0, Cond.code yX0_take cX0_take 2 none, Cond.fieldLink RX0 11 "Phaselock$Aligner" "state" "I", Cond.fieldLink RX0 21 "Phaselock$Aligner" "position" "I", Cond.fieldLink RX0 24 "Phaselock$Aligner" "matches" "I", Cond.methodLink RX0 30 yX0_verify, Cond.instanceMethod yX0_verify, Cond.selects RX0 yX0_verify yX0_verify, Cond.code yX0_verify cX0_verify 2 none, Cond.fieldLink RX0 27 "Phaselock$Aligner" "misses" "I"]
def wsX10_actOnDataStrobe_r6 : List Cond := [Cond.methodLink RX0 34 yX0_watchSync, Cond.instanceMethod yX0_watchSync, Cond.selects RX0 yX0_watchSync yX0_watchSync, Cond.code yX0_watchSync cX0_watchSync 2 none, Cond.fieldLink RX0 15 "Phaselock$Aligner" "frames" "I", Cond.fieldLink RX0 18 "Phaselock$Aligner" "losses" "I"]
def wsX10_actOnDataStrobe : List Cond := .code yX10_actOnDataStrobe cX10_actOnDataStrobe 4 none :: ((wsX10_actOnDataStrobe_r1 ++ (wsX10_actOnDataStrobe_r2 ++ (wsX10_actOnDataStrobe_r3 ++ (wsX10_actOnDataStrobe_r4 ++ (wsX10_actOnDataStrobe_r5 ++ wsX10_actOnDataStrobe_r6))))) ++ wsX100 ++ wsX90 ++ wsX60 ++ wsX30 ++ wsX10 ++ wsX40 ++ wsX80 ++ wsX70 ++ wsX00)
def wsX10_actOnStrobe_r1 : List Cond := [Cond.fieldLink RX10 40 "Phaselock" "detector" "LPhaselock$PhaseDetector;", Cond.fieldLink RX10 107 "Phaselock$PhaseDetector" "kind" "I", Cond.fieldLink RX10 47 "Phaselock" "filter" "LPhaselock$LoopFilter;", Cond.fieldLink RX10 19 "Phaselock" "memory" "LPhaselock$LineMemory;", Cond.fieldLink RX10 10 "Phaselock" "transmitter" "LPhaselock$Transmitter;", Cond.fieldLink RX10 146 "Phaselock$Transmitter" "value" "I", Cond.methodLink RX10 149 yX3_findLevel, Cond.instanceMethod yX3_findLevel, Cond.selects RX3 yX3_findLevel yX3_findLevel, Cond.initialized RX3, Cond.code yX3_findLevel cX3_findLevel 1 (some .int), Cond.fieldLink RX3 8 "Phaselock$LineMemory" "values" "I", Cond.methodLink RX3 14 yJ6_bitCount_0f7a4, Cond.static yJ6_bitCount_0f7a4, Cond.initialized RJ6, Cond.code yJ6_bitCount_0f7a4 cJ6_bitCount_0f7a4 1 (some .int), Cond.constant RJ6 265 (1431655765), Cond.constant RJ6 266 (858993459), Cond.constant RJ6 267 (252645135), Cond.methodLink RX10 229 yX6_measureLate, Cond.instanceMethod yX6_measureLate, Cond.selects RX6 yX6_measureLate yX6_measureLate, Cond.initialized RX6, Cond.code yX6_measureLate cX6_measureLate 2 (some .int)]
def wsX10_actOnStrobe_r2 : List Cond := [Cond.fieldLink RX6 21 "Phaselock$PhaseDetector" "earlyValue" "I", Cond.methodLink RX6 45 Lib.Math.abs.name, Cond.static Lib.Math.abs.name, Cond.initialized "java/lang/Math", Cond.code Lib.Math.abs.name Lib.Math.abs.code 1 (some .int), Cond.methodLink RX10 232 yX4_takeError, Cond.instanceMethod yX4_takeError, Cond.selects RX4 yX4_takeError yX4_takeError, Cond.initialized RX4, Cond.code yX4_takeError cX4_takeError 2 none, Cond.fieldLink RX4 16 "Phaselock$LoopFilter" "error" "I", Cond.fieldLink RX4 19 "Phaselock$LoopFilter" "integral" "I", Cond.fieldLink RX4 13 "Phaselock$LoopFilter" "integralGain" "I", Cond.constant RX4 25 (262144), Cond.fieldLink RX4 7 "Phaselock$LoopFilter" "proportionalGain" "I", Cond.fieldLink RX4 22 "Phaselock$LoopFilter" "control" "I", Cond.methodLink RX4 26 yX4_keepWithin, Cond.static yX4_keepWithin, Cond.code yX4_keepWithin cX4_keepWithin 2 (some .int), Cond.methodLink RX4 35 Lib.Math.min.name, Cond.static Lib.Math.min.name, Cond.code Lib.Math.min.name Lib.Math.min.code 2 (some .int), Cond.methodLink RX4 38 Lib.Math.max.name, Cond.static Lib.Math.max.name]
def wsX10_actOnStrobe_r3 : List Cond := [Cond.code Lib.Math.max.name Lib.Math.max.code 2 (some .int), Cond.methodLink RX4 30 yJ9_floorDiv_7cf53, Cond.static yJ9_floorDiv_7cf53, Cond.initialized RJ9, Cond.code yJ9_floorDiv_7cf53 cJ9_floorDiv_7cf53 3 (some .int), Cond.methodLink RX10 235 yX6_keepMiddle, Cond.instanceMethod yX6_keepMiddle, Cond.selects RX6 yX6_keepMiddle yX6_keepMiddle, Cond.code yX6_keepMiddle cX6_keepMiddle 3 none, Cond.fieldLink RX6 24 "Phaselock$PhaseDetector" "middleValue" "I", Cond.fieldLink RX6 27 "Phaselock$PhaseDetector" "middleLevel" "I", Cond.methodLink RX10 239 yX6_keepEarly, Cond.instanceMethod yX6_keepEarly, Cond.selects RX6 yX6_keepEarly yX6_keepEarly, Cond.code yX6_keepEarly cX6_keepEarly 2 none, Cond.methodLink RX10 242 yX10_actOnDataStrobe, Cond.instanceMethod yX10_actOnDataStrobe, Cond.selects RX10 yX10_actOnDataStrobe yX10_actOnDataStrobe, Cond.initialized RX10, Cond.code yX10_actOnDataStrobe cX10_actOnDataStrobe 4 none, Cond.fieldLink RX10 54 "Phaselock" "bits" "LPhaselock$BitLog;", Cond.fieldLink RX10 61 "Phaselock" "slips" "LPhaselock$SlipCounter;", Cond.fieldLink RX10 143 "Phaselock$Transmitter" "number" "I", Cond.fieldLink RX10 68 "Phaselock" "phases" "LPhaselock$PhaseLog;"]
def wsX10_actOnStrobe_r4 : List Cond := [Cond.fieldLink RX10 153 "Phaselock$Transmitter" "phase" "I", Cond.constant RX10 257 (32768), Cond.fieldLink RX10 75 "Phaselock" "aligner" "LPhaselock$Aligner;", Cond.methodLink RX10 245 yX6_measureAtData, Cond.instanceMethod yX6_measureAtData, Cond.selects RX6 yX6_measureAtData yX6_measureAtData, Cond.code yX6_measureAtData cX6_measureAtData 4 (some .int), Cond.fieldLink RX6 9 "Phaselock$PhaseDetector" "kind" "I", Cond.fieldLink RX6 15 "Phaselock$PhaseDetector" "edgeError" "I", Cond.fieldLink RX6 18 "Phaselock$PhaseDetector" "product" "I", Cond.fieldLink RX6 30 "Phaselock$PhaseDetector" "dataLevel" "I", Cond.methodLink RX6 51 yX6_measureBangBang, Cond.instanceMethod yX6_measureBangBang, Cond.selects RX6 yX6_measureBangBang yX6_measureBangBang, Cond.code yX6_measureBangBang cX6_measureBangBang 4 (some .int), Cond.fieldLink RX6 55 "Phaselock$BitLog" "count" "I", Cond.methodLink RX6 60 yX1_findBit, Cond.instanceMethod yX1_findBit, Cond.selects RX1 yX1_findBit yX1_findBit, Cond.initialized RX1, Cond.code yX1_findBit cX1_findBit 2 (some .int), Cond.fieldLink RX1 15 "Phaselock$BitLog" "latest32" "I", Cond.methodLink RX10 249 yX6_finishBit, Cond.instanceMethod yX6_finishBit]
def wsX10_actOnStrobe_r5 : List Cond := [Cond.selects RX6 yX6_finishBit yX6_finishBit, Cond.code yX6_finishBit cX6_finishBit 2 none, Cond.methodLink RX10 252 yX1_add, Cond.instanceMethod yX1_add, Cond.selects RX1 yX1_add yX1_add, Cond.code yX1_add cX1_add 2 none, Cond.fieldLink RX1 9 "Phaselock$BitLog" "count" "I", Cond.methodLink RX10 254 yX8_compare, Cond.instanceMethod yX8_compare, Cond.selects RX8 yX8_compare yX8_compare, Cond.initialized RX8, Cond.code yX8_compare cX8_compare 3 (some .boolean), Cond.fieldLink RX8 16 "Phaselock$SlipCounter" "hasStrobed" "Z", Cond.fieldLink RX8 20 "Phaselock$SlipCounter" "numberBefore" "I", Cond.fieldLink RX8 7 "Phaselock$SlipCounter" "repeated" "I", Cond.fieldLink RX8 13 "Phaselock$SlipCounter" "skipped" "I", Cond.methodLink RX10 258 yX7_add, Cond.instanceMethod yX7_add, Cond.selects RX7 yX7_add yX7_add, Cond.initialized RX7, Cond.code yX7_add cX7_add 4 none, Cond.fieldLink RX7 21 "Phaselock$PhaseLog" "window" "[I", Cond.fieldLink RX7 9 "Phaselock$PhaseLog" "count" "I", Cond.fieldLink RX7 15 "Phaselock$PhaseLog" "latest" "I"]
def wsX10_actOnStrobe_r6 : List Cond := [Cond.fieldLink RX7 18 "Phaselock$PhaseLog" "steadyCount" "I", Cond.static yX10_isWithin, Cond.code yX10_isWithin cX10_isWithin 3 (some .boolean), Cond.methodLink RX10 261 yX1_endsWithSyncWord, Cond.instanceMethod yX1_endsWithSyncWord, Cond.selects RX1 yX1_endsWithSyncWord yX1_endsWithSyncWord, Cond.code yX1_endsWithSyncWord cX1_endsWithSyncWord 1 (some .boolean), Cond.methodLink RX10 264 yX0_take, Cond.instanceMethod yX0_take, Cond.selects RX0 yX0_take yX0_take, Cond.initialized RX0, Cond.code yX0_take cX0_take 2 none, Cond.fieldLink RX0 11 "Phaselock$Aligner" "state" "I", Cond.fieldLink RX0 21 "Phaselock$Aligner" "position" "I", Cond.fieldLink RX0 24 "Phaselock$Aligner" "matches" "I", Cond.methodLink RX0 30 yX0_verify, Cond.instanceMethod yX0_verify, Cond.selects RX0 yX0_verify yX0_verify, Cond.code yX0_verify cX0_verify 2 none, Cond.fieldLink RX0 27 "Phaselock$Aligner" "misses" "I", Cond.methodLink RX0 34 yX0_watchSync, Cond.instanceMethod yX0_watchSync, Cond.selects RX0 yX0_watchSync yX0_watchSync, Cond.code yX0_watchSync cX0_watchSync 2 none]
def wsX10_actOnStrobe_r7 : List Cond := [Cond.fieldLink RX0 15 "Phaselock$Aligner" "frames" "I", Cond.fieldLink RX0 18 "Phaselock$Aligner" "losses" "I"]
def wsX10_actOnStrobe : List Cond := .code yX10_actOnStrobe cX10_actOnStrobe 2 none :: ((wsX10_actOnStrobe_r1 ++ (wsX10_actOnStrobe_r2 ++ (wsX10_actOnStrobe_r3 ++ (wsX10_actOnStrobe_r4 ++ (wsX10_actOnStrobe_r5 ++ (wsX10_actOnStrobe_r6 ++ wsX10_actOnStrobe_r7)))))) ++ wsX100 ++ wsX60 ++ wsX90 ++ wsX30 ++ wsX40 ++ wsX10 ++ wsX80 ++ wsX70 ++ wsX00)
def wsX10_passTick_r1 : List Cond := [Cond.fieldLink RX10 10 "Phaselock" "transmitter" "LPhaselock$Transmitter;", Cond.fieldLink RX10 19 "Phaselock" "memory" "LPhaselock$LineMemory;", Cond.fieldLink RX10 146 "Phaselock$Transmitter" "value" "I", Cond.fieldLink RX10 26 "Phaselock" "edges" "LPhaselock$EdgeLog;", Cond.fieldLink RX10 40 "Phaselock" "detector" "LPhaselock$PhaseDetector;", Cond.fieldLink RX10 33 "Phaselock" "oscillator" "LPhaselock$Oscillator;", Cond.fieldLink RX10 123 "Phaselock$Oscillator" "phase" "I", Cond.fieldLink RX10 47 "Phaselock" "filter" "LPhaselock$LoopFilter;", Cond.fieldLink RX10 129 "Phaselock$LoopFilter" "control" "I", Cond.methodLink RX10 206 yX9_advance, Cond.instanceMethod yX9_advance, Cond.selects RX9 yX9_advance yX9_advance, Cond.initialized RX9, Cond.code yX9_advance cX9_advance 1 none, Cond.fieldLink RX9 9 "Phaselock$Transmitter" "phase" "I", Cond.fieldLink RX9 15 "Phaselock$Transmitter" "step" "I", Cond.constant RX9 38 (65536), Cond.methodLink RX9 34 yX9_drawDeviation, Cond.instanceMethod yX9_drawDeviation, Cond.selects RX9 yX9_drawDeviation yX9_drawDeviation, Cond.code yX9_drawDeviation cX9_drawDeviation 2 (some .int), Cond.fieldLink RX9 18 "Phaselock$Transmitter" "jitter" "I", Cond.constantLong RX9 42 (1103515245), Cond.fieldLink RX9 21 "Phaselock$Transmitter" "randomState" "J"]
def wsX10_passTick_r2 : List Cond := [Cond.constantLong RX9 44 (12345), Cond.constantLong RX9 46 (2147483648), Cond.constantLong RX9 48 (65536), Cond.methodLink RX9 39 yX9_sendNextBit, Cond.instanceMethod yX9_sendNextBit, Cond.selects RX9 yX9_sendNextBit yX9_sendNextBit, Cond.code yX9_sendNextBit cX9_sendNextBit 2 none, Cond.fieldLink RX9 25 "Phaselock$Transmitter" "number" "I", Cond.fieldLink RX9 28 "Phaselock$Transmitter" "value" "I", Cond.methodLink RX9 50 yX9_shiftRegister, Cond.instanceMethod yX9_shiftRegister, Cond.selects RX9 yX9_shiftRegister yX9_shiftRegister, Cond.code yX9_shiftRegister cX9_shiftRegister 3 (some .int), Cond.fieldLink RX9 31 "Phaselock$Transmitter" "register" "I", Cond.methodLink RX10 209 yX3_remember, Cond.instanceMethod yX3_remember, Cond.selects RX3 yX3_remember yX3_remember, Cond.initialized RX3, Cond.code yX3_remember cX3_remember 2 none, Cond.fieldLink RX3 8 "Phaselock$LineMemory" "values" "I", Cond.constant RX3 7 (65535), Cond.methodLink RX10 213 yX3_hasChangedSince, Cond.instanceMethod yX3_hasChangedSince, Cond.selects RX3 yX3_hasChangedSince yX3_hasChangedSince]
def wsX10_passTick_r3 : List Cond := [Cond.code yX3_hasChangedSince cX3_hasChangedSince 2 (some .boolean), Cond.methodLink RX10 216 yX2_add, Cond.instanceMethod yX2_add, Cond.selects RX2 yX2_add yX2_add, Cond.initialized RX2, Cond.code yX2_add cX2_add 2 none, Cond.fieldLink RX2 7 "Phaselock$EdgeLog" "ticks" "I", Cond.fieldLink RX2 13 "Phaselock$EdgeLog" "changed" "[Z", Cond.methodLink RX10 220 yX6_watchLine, Cond.instanceMethod yX6_watchLine, Cond.selects RX6 yX6_watchLine yX6_watchLine, Cond.initialized RX6, Cond.code yX6_watchLine cX6_watchLine 3 none, Cond.constant RX6 39 (32768), Cond.fieldLink RX6 15 "Phaselock$PhaseDetector" "edgeError" "I", Cond.fieldLink RX6 18 "Phaselock$PhaseDetector" "product" "I", Cond.constant RX6 40 (49151), Cond.methodLink RX6 33 yX3_hasChangedSince, Cond.static yX10_isWithin, Cond.initialized RX10, Cond.code yX10_isWithin cX10_isWithin 3 (some .boolean), Cond.methodLink RX10 224 yX5_advance, Cond.instanceMethod yX5_advance, Cond.selects RX5 yX5_advance yX5_advance]
def wsX10_passTick_r4 : List Cond := [Cond.initialized RX5, Cond.code yX5_advance cX5_advance 3 (some .int), Cond.fieldLink RX5 9 "Phaselock$Oscillator" "phase" "I", Cond.constant RX5 15 (65536), Cond.constant RX5 16 (49152), Cond.constant RX5 21 (32768), Cond.methodLink RX5 17 yX5_hasPassed, Cond.instanceMethod yX5_hasPassed, Cond.selects RX5 yX5_hasPassed yX5_hasPassed, Cond.code yX5_hasPassed cX5_hasPassed 3 (some .boolean), Cond.methodLink RX10 226 yX10_actOnStrobe, Cond.instanceMethod yX10_actOnStrobe, Cond.selects RX10 yX10_actOnStrobe yX10_actOnStrobe, Cond.code yX10_actOnStrobe cX10_actOnStrobe 2 none, Cond.fieldLink RX10 107 "Phaselock$PhaseDetector" "kind" "I", Cond.methodLink RX10 149 yX3_findLevel, Cond.instanceMethod yX3_findLevel, Cond.selects RX3 yX3_findLevel yX3_findLevel, Cond.code yX3_findLevel cX3_findLevel 1 (some .int), Cond.methodLink RX3 14 yJ6_bitCount_0f7a4, Cond.static yJ6_bitCount_0f7a4, Cond.initialized RJ6, Cond.code yJ6_bitCount_0f7a4 cJ6_bitCount_0f7a4 1 (some .int), Cond.constant RJ6 265 (1431655765)]
def wsX10_passTick_r5 : List Cond := [Cond.constant RJ6 266 (858993459), Cond.constant RJ6 267 (252645135), Cond.methodLink RX10 229 yX6_measureLate, Cond.instanceMethod yX6_measureLate, Cond.selects RX6 yX6_measureLate yX6_measureLate, Cond.code yX6_measureLate cX6_measureLate 2 (some .int), Cond.fieldLink RX6 21 "Phaselock$PhaseDetector" "earlyValue" "I", Cond.methodLink RX6 45 Lib.Math.abs.name, Cond.static Lib.Math.abs.name, Cond.initialized "java/lang/Math", Cond.code Lib.Math.abs.name Lib.Math.abs.code 1 (some .int), Cond.methodLink RX10 232 yX4_takeError, Cond.instanceMethod yX4_takeError, Cond.selects RX4 yX4_takeError yX4_takeError, Cond.initialized RX4, Cond.code yX4_takeError cX4_takeError 2 none, Cond.fieldLink RX4 16 "Phaselock$LoopFilter" "error" "I", Cond.fieldLink RX4 19 "Phaselock$LoopFilter" "integral" "I", Cond.fieldLink RX4 13 "Phaselock$LoopFilter" "integralGain" "I", Cond.constant RX4 25 (262144), Cond.fieldLink RX4 7 "Phaselock$LoopFilter" "proportionalGain" "I", Cond.fieldLink RX4 22 "Phaselock$LoopFilter" "control" "I", Cond.methodLink RX4 26 yX4_keepWithin, Cond.static yX4_keepWithin]
def wsX10_passTick_r6 : List Cond := [Cond.code yX4_keepWithin cX4_keepWithin 2 (some .int), Cond.methodLink RX4 35 Lib.Math.min.name, Cond.static Lib.Math.min.name, Cond.code Lib.Math.min.name Lib.Math.min.code 2 (some .int), Cond.methodLink RX4 38 Lib.Math.max.name, Cond.static Lib.Math.max.name, Cond.code Lib.Math.max.name Lib.Math.max.code 2 (some .int), Cond.methodLink RX4 30 yJ9_floorDiv_7cf53, Cond.static yJ9_floorDiv_7cf53, Cond.initialized RJ9, Cond.code yJ9_floorDiv_7cf53 cJ9_floorDiv_7cf53 3 (some .int), Cond.methodLink RX10 235 yX6_keepMiddle, Cond.instanceMethod yX6_keepMiddle, Cond.selects RX6 yX6_keepMiddle yX6_keepMiddle, Cond.code yX6_keepMiddle cX6_keepMiddle 3 none, Cond.fieldLink RX6 24 "Phaselock$PhaseDetector" "middleValue" "I", Cond.fieldLink RX6 27 "Phaselock$PhaseDetector" "middleLevel" "I", Cond.methodLink RX10 239 yX6_keepEarly, Cond.instanceMethod yX6_keepEarly, Cond.selects RX6 yX6_keepEarly yX6_keepEarly, Cond.code yX6_keepEarly cX6_keepEarly 2 none, Cond.methodLink RX10 242 yX10_actOnDataStrobe, Cond.instanceMethod yX10_actOnDataStrobe, Cond.selects RX10 yX10_actOnDataStrobe yX10_actOnDataStrobe]
def wsX10_passTick_r7 : List Cond := [Cond.code yX10_actOnDataStrobe cX10_actOnDataStrobe 4 none, Cond.fieldLink RX10 54 "Phaselock" "bits" "LPhaselock$BitLog;", Cond.fieldLink RX10 61 "Phaselock" "slips" "LPhaselock$SlipCounter;", Cond.fieldLink RX10 143 "Phaselock$Transmitter" "number" "I", Cond.fieldLink RX10 68 "Phaselock" "phases" "LPhaselock$PhaseLog;", Cond.fieldLink RX10 153 "Phaselock$Transmitter" "phase" "I", Cond.constant RX10 257 (32768), Cond.fieldLink RX10 75 "Phaselock" "aligner" "LPhaselock$Aligner;", Cond.methodLink RX10 245 yX6_measureAtData, Cond.instanceMethod yX6_measureAtData, Cond.selects RX6 yX6_measureAtData yX6_measureAtData, Cond.code yX6_measureAtData cX6_measureAtData 4 (some .int), Cond.fieldLink RX6 9 "Phaselock$PhaseDetector" "kind" "I", Cond.fieldLink RX6 30 "Phaselock$PhaseDetector" "dataLevel" "I", Cond.methodLink RX6 51 yX6_measureBangBang, Cond.instanceMethod yX6_measureBangBang, Cond.selects RX6 yX6_measureBangBang yX6_measureBangBang, Cond.code yX6_measureBangBang cX6_measureBangBang 4 (some .int), Cond.fieldLink RX6 55 "Phaselock$BitLog" "count" "I", Cond.methodLink RX6 60 yX1_findBit, Cond.instanceMethod yX1_findBit, Cond.selects RX1 yX1_findBit yX1_findBit, Cond.initialized RX1, Cond.code yX1_findBit cX1_findBit 2 (some .int)]
def wsX10_passTick_r8 : List Cond := [Cond.fieldLink RX1 15 "Phaselock$BitLog" "latest32" "I", Cond.methodLink RX10 249 yX6_finishBit, Cond.instanceMethod yX6_finishBit, Cond.selects RX6 yX6_finishBit yX6_finishBit, Cond.code yX6_finishBit cX6_finishBit 2 none, Cond.methodLink RX10 252 yX1_add, Cond.instanceMethod yX1_add, Cond.selects RX1 yX1_add yX1_add, Cond.code yX1_add cX1_add 2 none, Cond.fieldLink RX1 9 "Phaselock$BitLog" "count" "I", Cond.methodLink RX10 254 yX8_compare, Cond.instanceMethod yX8_compare, Cond.selects RX8 yX8_compare yX8_compare, Cond.initialized RX8, Cond.code yX8_compare cX8_compare 3 (some .boolean), Cond.fieldLink RX8 16 "Phaselock$SlipCounter" "hasStrobed" "Z", Cond.fieldLink RX8 20 "Phaselock$SlipCounter" "numberBefore" "I", Cond.fieldLink RX8 7 "Phaselock$SlipCounter" "repeated" "I", Cond.fieldLink RX8 13 "Phaselock$SlipCounter" "skipped" "I", Cond.methodLink RX10 258 yX7_add, Cond.instanceMethod yX7_add, Cond.selects RX7 yX7_add yX7_add, Cond.initialized RX7, Cond.code yX7_add cX7_add 4 none]
def wsX10_passTick_r9 : List Cond := [Cond.fieldLink RX7 21 "Phaselock$PhaseLog" "window" "[I", Cond.fieldLink RX7 9 "Phaselock$PhaseLog" "count" "I", Cond.fieldLink RX7 15 "Phaselock$PhaseLog" "latest" "I", Cond.fieldLink RX7 18 "Phaselock$PhaseLog" "steadyCount" "I", Cond.methodLink RX10 261 yX1_endsWithSyncWord, Cond.instanceMethod yX1_endsWithSyncWord, Cond.selects RX1 yX1_endsWithSyncWord yX1_endsWithSyncWord, Cond.code yX1_endsWithSyncWord cX1_endsWithSyncWord 1 (some .boolean), Cond.methodLink RX10 264 yX0_take, Cond.instanceMethod yX0_take, Cond.selects RX0 yX0_take yX0_take, Cond.initialized RX0, Cond.code yX0_take cX0_take 2 none, Cond.fieldLink RX0 11 "Phaselock$Aligner" "state" "I", Cond.fieldLink RX0 21 "Phaselock$Aligner" "position" "I", Cond.fieldLink RX0 24 "Phaselock$Aligner" "matches" "I", Cond.methodLink RX0 30 yX0_verify, Cond.instanceMethod yX0_verify, Cond.selects RX0 yX0_verify yX0_verify, Cond.code yX0_verify cX0_verify 2 none, Cond.fieldLink RX0 27 "Phaselock$Aligner" "misses" "I", Cond.methodLink RX0 34 yX0_watchSync, Cond.instanceMethod yX0_watchSync, Cond.selects RX0 yX0_watchSync yX0_watchSync]
def wsX10_passTick_r10 : List Cond := [Cond.code yX0_watchSync cX0_watchSync 2 none, Cond.fieldLink RX0 15 "Phaselock$Aligner" "frames" "I", Cond.fieldLink RX0 18 "Phaselock$Aligner" "losses" "I"]
def wsX10_passTick : List Cond := .code yX10_passTick cX10_passTick 1 none :: ((wsX10_passTick_r1 ++ (wsX10_passTick_r2 ++ (wsX10_passTick_r3 ++ (wsX10_passTick_r4 ++ (wsX10_passTick_r5 ++ (wsX10_passTick_r6 ++ (wsX10_passTick_r7 ++ (wsX10_passTick_r8 ++ (wsX10_passTick_r9 ++ wsX10_passTick_r10))))))))) ++ wsX100 ++ wsX90 ++ wsX50 ++ wsX40 ++ wsX30 ++ wsX20 ++ wsX60 ++ wsX10 ++ wsX80 ++ wsX70 ++ wsX00)
def wsX10_run_r1 : List Cond := [Cond.classLink RX10 83 "java/lang/IllegalArgumentException", Cond.initialized "java/lang/IllegalArgumentException", Cond.fieldLink RX10 54 "Phaselock" "bits" "LPhaselock$BitLog;", Cond.fieldLink RX10 134 "Phaselock$BitLog" "count" "I", Cond.methodLink RX10 79 yX10_isWithin, Cond.static yX10_isWithin, Cond.initialized RX10, Cond.code yX10_isWithin cX10_isWithin 3 (some .boolean), Cond.methodLink RX10 137 yX10_passTick, Cond.instanceMethod yX10_passTick, Cond.selects RX10 yX10_passTick yX10_passTick, Cond.code yX10_passTick cX10_passTick 1 none, Cond.fieldLink RX10 10 "Phaselock" "transmitter" "LPhaselock$Transmitter;", Cond.fieldLink RX10 19 "Phaselock" "memory" "LPhaselock$LineMemory;", Cond.fieldLink RX10 146 "Phaselock$Transmitter" "value" "I", Cond.fieldLink RX10 26 "Phaselock" "edges" "LPhaselock$EdgeLog;", Cond.fieldLink RX10 40 "Phaselock" "detector" "LPhaselock$PhaseDetector;", Cond.fieldLink RX10 33 "Phaselock" "oscillator" "LPhaselock$Oscillator;", Cond.fieldLink RX10 123 "Phaselock$Oscillator" "phase" "I", Cond.fieldLink RX10 47 "Phaselock" "filter" "LPhaselock$LoopFilter;", Cond.fieldLink RX10 129 "Phaselock$LoopFilter" "control" "I", Cond.methodLink RX10 206 yX9_advance, Cond.instanceMethod yX9_advance, Cond.selects RX9 yX9_advance yX9_advance]
def wsX10_run_r2 : List Cond := [Cond.initialized RX9, Cond.code yX9_advance cX9_advance 1 none, Cond.fieldLink RX9 9 "Phaselock$Transmitter" "phase" "I", Cond.fieldLink RX9 15 "Phaselock$Transmitter" "step" "I", Cond.constant RX9 38 (65536), Cond.methodLink RX9 34 yX9_drawDeviation, Cond.instanceMethod yX9_drawDeviation, Cond.selects RX9 yX9_drawDeviation yX9_drawDeviation, Cond.code yX9_drawDeviation cX9_drawDeviation 2 (some .int), Cond.fieldLink RX9 18 "Phaselock$Transmitter" "jitter" "I", Cond.constantLong RX9 42 (1103515245), Cond.fieldLink RX9 21 "Phaselock$Transmitter" "randomState" "J", Cond.constantLong RX9 44 (12345), Cond.constantLong RX9 46 (2147483648), Cond.constantLong RX9 48 (65536), Cond.methodLink RX9 39 yX9_sendNextBit, Cond.instanceMethod yX9_sendNextBit, Cond.selects RX9 yX9_sendNextBit yX9_sendNextBit, Cond.code yX9_sendNextBit cX9_sendNextBit 2 none, Cond.fieldLink RX9 25 "Phaselock$Transmitter" "number" "I", Cond.fieldLink RX9 28 "Phaselock$Transmitter" "value" "I", Cond.methodLink RX9 50 yX9_shiftRegister, Cond.instanceMethod yX9_shiftRegister, Cond.selects RX9 yX9_shiftRegister yX9_shiftRegister]
def wsX10_run_r3 : List Cond := [Cond.code yX9_shiftRegister cX9_shiftRegister 3 (some .int), Cond.fieldLink RX9 31 "Phaselock$Transmitter" "register" "I", Cond.methodLink RX10 209 yX3_remember, Cond.instanceMethod yX3_remember, Cond.selects RX3 yX3_remember yX3_remember, Cond.initialized RX3, Cond.code yX3_remember cX3_remember 2 none, Cond.fieldLink RX3 8 "Phaselock$LineMemory" "values" "I", Cond.constant RX3 7 (65535), Cond.methodLink RX10 213 yX3_hasChangedSince, Cond.instanceMethod yX3_hasChangedSince, Cond.selects RX3 yX3_hasChangedSince yX3_hasChangedSince, Cond.code yX3_hasChangedSince cX3_hasChangedSince 2 (some .boolean), Cond.methodLink RX10 216 yX2_add, Cond.instanceMethod yX2_add, Cond.selects RX2 yX2_add yX2_add, Cond.initialized RX2, Cond.code yX2_add cX2_add 2 none, Cond.fieldLink RX2 7 "Phaselock$EdgeLog" "ticks" "I", Cond.fieldLink RX2 13 "Phaselock$EdgeLog" "changed" "[Z", Cond.methodLink RX10 220 yX6_watchLine, Cond.instanceMethod yX6_watchLine, Cond.selects RX6 yX6_watchLine yX6_watchLine, Cond.initialized RX6]
def wsX10_run_r4 : List Cond := [Cond.code yX6_watchLine cX6_watchLine 3 none, Cond.constant RX6 39 (32768), Cond.fieldLink RX6 15 "Phaselock$PhaseDetector" "edgeError" "I", Cond.fieldLink RX6 18 "Phaselock$PhaseDetector" "product" "I", Cond.constant RX6 40 (49151), Cond.methodLink RX6 33 yX3_hasChangedSince, Cond.methodLink RX10 224 yX5_advance, Cond.instanceMethod yX5_advance, Cond.selects RX5 yX5_advance yX5_advance, Cond.initialized RX5, Cond.code yX5_advance cX5_advance 3 (some .int), Cond.fieldLink RX5 9 "Phaselock$Oscillator" "phase" "I", Cond.constant RX5 15 (65536), Cond.constant RX5 16 (49152), Cond.constant RX5 21 (32768), Cond.methodLink RX5 17 yX5_hasPassed, Cond.instanceMethod yX5_hasPassed, Cond.selects RX5 yX5_hasPassed yX5_hasPassed, Cond.code yX5_hasPassed cX5_hasPassed 3 (some .boolean), Cond.methodLink RX10 226 yX10_actOnStrobe, Cond.instanceMethod yX10_actOnStrobe, Cond.selects RX10 yX10_actOnStrobe yX10_actOnStrobe, Cond.code yX10_actOnStrobe cX10_actOnStrobe 2 none, Cond.fieldLink RX10 107 "Phaselock$PhaseDetector" "kind" "I"]
def wsX10_run_r5 : List Cond := [Cond.methodLink RX10 149 yX3_findLevel, Cond.instanceMethod yX3_findLevel, Cond.selects RX3 yX3_findLevel yX3_findLevel, Cond.code yX3_findLevel cX3_findLevel 1 (some .int), Cond.methodLink RX3 14 yJ6_bitCount_0f7a4, Cond.static yJ6_bitCount_0f7a4, Cond.initialized RJ6, Cond.code yJ6_bitCount_0f7a4 cJ6_bitCount_0f7a4 1 (some .int), Cond.constant RJ6 265 (1431655765), Cond.constant RJ6 266 (858993459), Cond.constant RJ6 267 (252645135), Cond.methodLink RX10 229 yX6_measureLate, Cond.instanceMethod yX6_measureLate, Cond.selects RX6 yX6_measureLate yX6_measureLate, Cond.code yX6_measureLate cX6_measureLate 2 (some .int), Cond.fieldLink RX6 21 "Phaselock$PhaseDetector" "earlyValue" "I", Cond.methodLink RX6 45 Lib.Math.abs.name, Cond.static Lib.Math.abs.name, Cond.initialized "java/lang/Math", Cond.code Lib.Math.abs.name Lib.Math.abs.code 1 (some .int), Cond.methodLink RX10 232 yX4_takeError, Cond.instanceMethod yX4_takeError, Cond.selects RX4 yX4_takeError yX4_takeError, Cond.initialized RX4]
def wsX10_run_r6 : List Cond := [Cond.code yX4_takeError cX4_takeError 2 none, Cond.fieldLink RX4 16 "Phaselock$LoopFilter" "error" "I", Cond.fieldLink RX4 19 "Phaselock$LoopFilter" "integral" "I", Cond.fieldLink RX4 13 "Phaselock$LoopFilter" "integralGain" "I", Cond.constant RX4 25 (262144), Cond.fieldLink RX4 7 "Phaselock$LoopFilter" "proportionalGain" "I", Cond.fieldLink RX4 22 "Phaselock$LoopFilter" "control" "I", Cond.methodLink RX4 26 yX4_keepWithin, Cond.static yX4_keepWithin, Cond.code yX4_keepWithin cX4_keepWithin 2 (some .int), Cond.methodLink RX4 35 Lib.Math.min.name, Cond.static Lib.Math.min.name, Cond.code Lib.Math.min.name Lib.Math.min.code 2 (some .int), Cond.methodLink RX4 38 Lib.Math.max.name, Cond.static Lib.Math.max.name, Cond.code Lib.Math.max.name Lib.Math.max.code 2 (some .int), Cond.methodLink RX4 30 yJ9_floorDiv_7cf53, Cond.static yJ9_floorDiv_7cf53, Cond.initialized RJ9, Cond.code yJ9_floorDiv_7cf53 cJ9_floorDiv_7cf53 3 (some .int), Cond.methodLink RX10 235 yX6_keepMiddle, Cond.instanceMethod yX6_keepMiddle, Cond.selects RX6 yX6_keepMiddle yX6_keepMiddle, Cond.code yX6_keepMiddle cX6_keepMiddle 3 none]
def wsX10_run_r7 : List Cond := [Cond.fieldLink RX6 24 "Phaselock$PhaseDetector" "middleValue" "I", Cond.fieldLink RX6 27 "Phaselock$PhaseDetector" "middleLevel" "I", Cond.methodLink RX10 239 yX6_keepEarly, Cond.instanceMethod yX6_keepEarly, Cond.selects RX6 yX6_keepEarly yX6_keepEarly, Cond.code yX6_keepEarly cX6_keepEarly 2 none, Cond.methodLink RX10 242 yX10_actOnDataStrobe, Cond.instanceMethod yX10_actOnDataStrobe, Cond.selects RX10 yX10_actOnDataStrobe yX10_actOnDataStrobe, Cond.code yX10_actOnDataStrobe cX10_actOnDataStrobe 4 none, Cond.fieldLink RX10 61 "Phaselock" "slips" "LPhaselock$SlipCounter;", Cond.fieldLink RX10 143 "Phaselock$Transmitter" "number" "I", Cond.fieldLink RX10 68 "Phaselock" "phases" "LPhaselock$PhaseLog;", Cond.fieldLink RX10 153 "Phaselock$Transmitter" "phase" "I", Cond.constant RX10 257 (32768), Cond.fieldLink RX10 75 "Phaselock" "aligner" "LPhaselock$Aligner;", Cond.methodLink RX10 245 yX6_measureAtData, Cond.instanceMethod yX6_measureAtData, Cond.selects RX6 yX6_measureAtData yX6_measureAtData, Cond.code yX6_measureAtData cX6_measureAtData 4 (some .int), Cond.fieldLink RX6 9 "Phaselock$PhaseDetector" "kind" "I", Cond.fieldLink RX6 30 "Phaselock$PhaseDetector" "dataLevel" "I", Cond.methodLink RX6 51 yX6_measureBangBang, Cond.instanceMethod yX6_measureBangBang]
def wsX10_run_r8 : List Cond := [Cond.selects RX6 yX6_measureBangBang yX6_measureBangBang, Cond.code yX6_measureBangBang cX6_measureBangBang 4 (some .int), Cond.fieldLink RX6 55 "Phaselock$BitLog" "count" "I", Cond.methodLink RX6 60 yX1_findBit, Cond.instanceMethod yX1_findBit, Cond.selects RX1 yX1_findBit yX1_findBit, Cond.initialized RX1, Cond.code yX1_findBit cX1_findBit 2 (some .int), Cond.fieldLink RX1 15 "Phaselock$BitLog" "latest32" "I", Cond.methodLink RX10 249 yX6_finishBit, Cond.instanceMethod yX6_finishBit, Cond.selects RX6 yX6_finishBit yX6_finishBit, Cond.code yX6_finishBit cX6_finishBit 2 none, Cond.methodLink RX10 252 yX1_add, Cond.instanceMethod yX1_add, Cond.selects RX1 yX1_add yX1_add, Cond.code yX1_add cX1_add 2 none, Cond.fieldLink RX1 9 "Phaselock$BitLog" "count" "I", Cond.methodLink RX10 254 yX8_compare, Cond.instanceMethod yX8_compare, Cond.selects RX8 yX8_compare yX8_compare, Cond.initialized RX8, Cond.code yX8_compare cX8_compare 3 (some .boolean), Cond.fieldLink RX8 16 "Phaselock$SlipCounter" "hasStrobed" "Z"]
def wsX10_run_r9 : List Cond := [Cond.fieldLink RX8 20 "Phaselock$SlipCounter" "numberBefore" "I", Cond.fieldLink RX8 7 "Phaselock$SlipCounter" "repeated" "I", Cond.fieldLink RX8 13 "Phaselock$SlipCounter" "skipped" "I", Cond.methodLink RX10 258 yX7_add, Cond.instanceMethod yX7_add, Cond.selects RX7 yX7_add yX7_add, Cond.initialized RX7, Cond.code yX7_add cX7_add 4 none, Cond.fieldLink RX7 21 "Phaselock$PhaseLog" "window" "[I", Cond.fieldLink RX7 9 "Phaselock$PhaseLog" "count" "I", Cond.fieldLink RX7 15 "Phaselock$PhaseLog" "latest" "I", Cond.fieldLink RX7 18 "Phaselock$PhaseLog" "steadyCount" "I", Cond.methodLink RX10 261 yX1_endsWithSyncWord, Cond.instanceMethod yX1_endsWithSyncWord, Cond.selects RX1 yX1_endsWithSyncWord yX1_endsWithSyncWord, Cond.code yX1_endsWithSyncWord cX1_endsWithSyncWord 1 (some .boolean), Cond.methodLink RX10 264 yX0_take, Cond.instanceMethod yX0_take, Cond.selects RX0 yX0_take yX0_take, Cond.initialized RX0, Cond.code yX0_take cX0_take 2 none, Cond.fieldLink RX0 11 "Phaselock$Aligner" "state" "I", Cond.fieldLink RX0 21 "Phaselock$Aligner" "position" "I", Cond.fieldLink RX0 24 "Phaselock$Aligner" "matches" "I"]
def wsX10_run_r10 : List Cond := [Cond.methodLink RX0 30 yX0_verify, Cond.instanceMethod yX0_verify, Cond.selects RX0 yX0_verify yX0_verify, Cond.code yX0_verify cX0_verify 2 none, Cond.fieldLink RX0 27 "Phaselock$Aligner" "misses" "I", Cond.methodLink RX0 34 yX0_watchSync, Cond.instanceMethod yX0_watchSync, Cond.selects RX0 yX0_watchSync yX0_watchSync, Cond.code yX0_watchSync cX0_watchSync 2 none, Cond.fieldLink RX0 15 "Phaselock$Aligner" "frames" "I", Cond.fieldLink RX0 18 "Phaselock$Aligner" "losses" "I"]
def wsX10_run : List Cond := .code yX10_run cX10_run 4 (some .int) :: ((wsX10_run_r1 ++ (wsX10_run_r2 ++ (wsX10_run_r3 ++ (wsX10_run_r4 ++ (wsX10_run_r5 ++ (wsX10_run_r6 ++ (wsX10_run_r7 ++ (wsX10_run_r8 ++ (wsX10_run_r9 ++ wsX10_run_r10))))))))) ++ wsX100 ++ wsX10 ++ wsX90 ++ wsX50 ++ wsX40 ++ wsX30 ++ wsX20 ++ wsX60 ++ wsX80 ++ wsX70 ++ wsX00 ++ (vx_atS RX10 87 "java/lang/IllegalArgumentException" ["java/lang/RuntimeException", "java/lang/Exception"]).filter goodWord)
def wsX10_ticks : List Cond := .code yX10_ticks cX10_ticks 1 (some .int) :: ([.fieldLink RX10 26 "Phaselock" "edges" "LPhaselock$EdgeLog;", .fieldLink RX10 140 "Phaselock$EdgeLog" "ticks" "I"] ++ wsX100 ++ wsX20)
def wsX10_sent : List Cond := .code yX10_sent cX10_sent 1 (some .int) :: ([.fieldLink RX10 10 "Phaselock" "transmitter" "LPhaselock$Transmitter;", .fieldLink RX10 143 "Phaselock$Transmitter" "number" "I"] ++ wsX100 ++ wsX90)
def wsX10_line : List Cond := .code yX10_line cX10_line 1 (some .int) :: ([.fieldLink RX10 10 "Phaselock" "transmitter" "LPhaselock$Transmitter;", .fieldLink RX10 146 "Phaselock$Transmitter" "value" "I"] ++ wsX100 ++ wsX90)
def wsX10_level : List Cond := .code yX10_level cX10_level 1 (some .int) :: ([.fieldLink RX10 19 "Phaselock" "memory" "LPhaselock$LineMemory;", .methodLink RX10 149 yX3_findLevel, .instanceMethod yX3_findLevel, .selects RX3 yX3_findLevel yX3_findLevel, .initialized RX3, .code yX3_findLevel cX3_findLevel 1 (some .int), .fieldLink RX3 8 "Phaselock$LineMemory" "values" "I", .methodLink RX3 14 yJ6_bitCount_0f7a4, .static yJ6_bitCount_0f7a4, .initialized RJ6, .code yJ6_bitCount_0f7a4 cJ6_bitCount_0f7a4 1 (some .int), .constant RJ6 265 (1431655765), .constant RJ6 266 (858993459), .constant RJ6 267 (252645135)] ++ wsX100 ++ wsX30)
def wsX10_sender : List Cond := .code yX10_sender cX10_sender 1 (some .int) :: ([.fieldLink RX10 10 "Phaselock" "transmitter" "LPhaselock$Transmitter;", .fieldLink RX10 153 "Phaselock$Transmitter" "phase" "I"] ++ wsX100 ++ wsX90)
def wsX10_receiver : List Cond := .code yX10_receiver cX10_receiver 1 (some .int) :: ([.fieldLink RX10 33 "Phaselock" "oscillator" "LPhaselock$Oscillator;", .fieldLink RX10 123 "Phaselock$Oscillator" "phase" "I"] ++ wsX100 ++ wsX50)
def wsX10_error : List Cond := .code yX10_error cX10_error 1 (some .int) :: ([.fieldLink RX10 47 "Phaselock" "filter" "LPhaselock$LoopFilter;", .fieldLink RX10 154 "Phaselock$LoopFilter" "error" "I"] ++ wsX100 ++ wsX40)
def wsX10_integral : List Cond := .code yX10_integral cX10_integral 1 (some .int) :: ([.fieldLink RX10 47 "Phaselock" "filter" "LPhaselock$LoopFilter;", .fieldLink RX10 126 "Phaselock$LoopFilter" "integral" "I"] ++ wsX100 ++ wsX40)
def wsX10_control : List Cond := .code yX10_control cX10_control 1 (some .int) :: ([.fieldLink RX10 47 "Phaselock" "filter" "LPhaselock$LoopFilter;", .fieldLink RX10 129 "Phaselock$LoopFilter" "control" "I"] ++ wsX100 ++ wsX40)
def wsX10_received : List Cond := .code yX10_received cX10_received 1 (some .int) :: ([.fieldLink RX10 54 "Phaselock" "bits" "LPhaselock$BitLog;", .fieldLink RX10 134 "Phaselock$BitLog" "count" "I"] ++ wsX100 ++ wsX10)
def wsX10_bit : List Cond := .code yX10_bit cX10_bit 2 (some .int) :: ([.classLink RX10 161 "java/lang/IndexOutOfBoundsException", .initialized "java/lang/IndexOutOfBoundsException", .fieldLink RX10 54 "Phaselock" "bits" "LPhaselock$BitLog;", .methodLink RX10 157 yX1_remembers, .instanceMethod yX1_remembers, .selects RX1 yX1_remembers yX1_remembers, .initialized RX1, .code yX1_remembers cX1_remembers 2 (some .boolean), .fieldLink RX1 9 "Phaselock$BitLog" "count" "I", .methodLink RX1 18 Lib.Math.min.name, .static Lib.Math.min.name, .initialized "java/lang/Math", .code Lib.Math.min.name Lib.Math.min.code 2 (some .int), .static yX10_isWithin, .initialized RX10, .code yX10_isWithin cX10_isWithin 3 (some .boolean), .methodLink RX10 166 yX1_findBit, .instanceMethod yX1_findBit, .selects RX1 yX1_findBit yX1_findBit, .code yX1_findBit cX1_findBit 2 (some .int), .fieldLink RX1 15 "Phaselock$BitLog" "latest32" "I"] ++ wsX100 ++ wsX10 ++ (vx_atS RX10 165 "java/lang/IndexOutOfBoundsException" ["java/lang/RuntimeException", "java/lang/Exception"]).filter goodWord)
def wsX10_phase : List Cond := .code yX10_phase cX10_phase 1 (some .int) :: ([.classLink RX10 171 "java/lang/IllegalStateException", .initialized "java/lang/IllegalStateException", .fieldLink RX10 68 "Phaselock" "phases" "LPhaselock$PhaseLog;", .fieldLink RX10 170 "Phaselock$PhaseLog" "count" "I", .fieldLink RX10 176 "Phaselock$PhaseLog" "latest" "I"] ++ wsX100 ++ wsX70 ++ (vx_atS RX10 175 "java/lang/IllegalStateException" ["java/lang/RuntimeException", "java/lang/Exception"]).filter goodWord)
def wsX10_repeated : List Cond := .code yX10_repeated cX10_repeated 1 (some .int) :: ([.fieldLink RX10 61 "Phaselock" "slips" "LPhaselock$SlipCounter;", .fieldLink RX10 179 "Phaselock$SlipCounter" "repeated" "I"] ++ wsX100 ++ wsX80)
def wsX10_skipped : List Cond := .code yX10_skipped cX10_skipped 1 (some .int) :: ([.fieldLink RX10 61 "Phaselock" "slips" "LPhaselock$SlipCounter;", .fieldLink RX10 182 "Phaselock$SlipCounter" "skipped" "I"] ++ wsX100 ++ wsX80)
def wsX10_isLocked : List Cond := .code yX10_isLocked cX10_isLocked 1 (some .boolean) :: ([.fieldLink RX10 68 "Phaselock" "phases" "LPhaselock$PhaseLog;", .methodLink RX10 185 yX7_isSteady, .instanceMethod yX7_isSteady, .selects RX7 yX7_isSteady yX7_isSteady, .initialized RX7, .code yX7_isSteady cX7_isSteady 1 (some .boolean), .fieldLink RX7 18 "Phaselock$PhaseLog" "steadyCount" "I"] ++ wsX100 ++ wsX70)
def wsX10_wander : List Cond := .code yX10_wander cX10_wander 1 (some .int) :: ([.fieldLink RX10 68 "Phaselock" "phases" "LPhaselock$PhaseLog;", .methodLink RX10 189 yX7_sumAbsolutes, .instanceMethod yX7_sumAbsolutes, .selects RX7 yX7_sumAbsolutes yX7_sumAbsolutes, .initialized RX7, .code yX7_sumAbsolutes cX7_sumAbsolutes 3 (some .int), .fieldLink RX7 21 "Phaselock$PhaseLog" "window" "[I", .methodLink RX7 29 Lib.Math.abs.name, .static Lib.Math.abs.name, .initialized "java/lang/Math", .code Lib.Math.abs.name Lib.Math.abs.code 1 (some .int)] ++ wsX100 ++ wsX70)
def wsX10_alignment : List Cond := .code yX10_alignment cX10_alignment 1 (some .int) :: ([.fieldLink RX10 75 "Phaselock" "aligner" "LPhaselock$Aligner;", .fieldLink RX10 192 "Phaselock$Aligner" "state" "I"] ++ wsX100 ++ wsX00)
def wsX10_frames : List Cond := .code yX10_frames cX10_frames 1 (some .int) :: ([.fieldLink RX10 75 "Phaselock" "aligner" "LPhaselock$Aligner;", .fieldLink RX10 195 "Phaselock$Aligner" "frames" "I"] ++ wsX100 ++ wsX00)
def wsX10_losses : List Cond := .code yX10_losses cX10_losses 1 (some .int) :: ([.fieldLink RX10 75 "Phaselock" "aligner" "LPhaselock$Aligner;", .fieldLink RX10 198 "Phaselock$Aligner" "losses" "I"] ++ wsX100 ++ wsX00)
def wsX10_bestPhase : List Cond := .code yX10_bestPhase cX10_bestPhase 5 (some .int) :: ([.fieldLink RX10 26 "Phaselock" "edges" "LPhaselock$EdgeLog;", .methodLink RX10 201 yX2_sumCosts, .instanceMethod yX2_sumCosts, .selects RX2 yX2_sumCosts yX2_sumCosts, .initialized RX2, .code yX2_sumCosts cX2_sumCosts 4 (some .int), .fieldLink RX2 13 "Phaselock$EdgeLog" "changed" "[Z", .methodLink RX2 17 yX2_findDistance, .static yX2_findDistance, .code yX2_findDistance cX2_findDistance 4 (some .int), .methodLink RX2 21 Lib.Math.min.name, .static Lib.Math.min.name, .initialized "java/lang/Math", .code Lib.Math.min.name Lib.Math.min.code 2 (some .int)] ++ wsX100 ++ wsX20)
def wsX10_cost : List Cond := .code yX10_cost cX10_cost 2 (some .int) :: ([.classLink RX10 83 "java/lang/IllegalArgumentException", .initialized "java/lang/IllegalArgumentException", .fieldLink RX10 26 "Phaselock" "edges" "LPhaselock$EdgeLog;", .methodLink RX10 79 yX10_isWithin, .static yX10_isWithin, .initialized RX10, .code yX10_isWithin cX10_isWithin 3 (some .boolean), .methodLink RX10 201 yX2_sumCosts, .instanceMethod yX2_sumCosts, .selects RX2 yX2_sumCosts yX2_sumCosts, .initialized RX2, .code yX2_sumCosts cX2_sumCosts 4 (some .int), .fieldLink RX2 13 "Phaselock$EdgeLog" "changed" "[Z", .methodLink RX2 17 yX2_findDistance, .static yX2_findDistance, .code yX2_findDistance cX2_findDistance 4 (some .int), .methodLink RX2 21 Lib.Math.min.name, .static Lib.Math.min.name, .initialized "java/lang/Math", .code Lib.Math.min.name Lib.Math.min.code 2 (some .int)] ++ wsX100 ++ wsX20 ++ (vx_atS RX10 87 "java/lang/IllegalArgumentException" ["java/lang/RuntimeException", "java/lang/Exception"]).filter goodWord)
def wsX11_init : List Cond := .code yX11_init cX11_init 1 none :: ([.methodLink RX11 1 objectInit, .instanceMethod objectInit, .code objectInit ⟨#[0xb1]⟩ 1 none, .fieldLink RX11 9 "PhaselockModel" "step" "I", .fieldLink RX11 13 "PhaselockModel" "random" "J", .fieldLink RX11 17 "PhaselockModel" "register" "I", .fieldLink RX11 20 "PhaselockModel" "value" "I", .constant RX11 23 (65535), .fieldLink RX11 24 "PhaselockModel" "memory" "I", .arrayClass .boolean, .fieldLink RX11 27 "PhaselockModel" "areEdges" "[Z", .fieldLink RX11 31 "PhaselockModel" "gainP" "I", .fieldLink RX11 34 "PhaselockModel" "gainI" "I", .arrayClass .int, .fieldLink RX11 37 "PhaselockModel" "phases" "[I"] ++ wsX110)
def wsX11_thrown : List Cond := .code yX11_thrown cX11_thrown 1 (some .int) :: ([.fieldLink RX11 41 "PhaselockModel" "thrown" "I"] ++ wsX110)
def wsX11_holds : List Cond := .code yX11_holds cX11_holds 2 (some .boolean) :: ([.fieldLink RX11 41 "PhaselockModel" "thrown" "I"] ++ wsX110)
def wsX11_in : List Cond := .code yX11_in cX11_in 3 (some .boolean) :: ([])
def wsX11_setOffset : List Cond := .code yX11_setOffset cX11_setOffset 2 (some .int) :: ([.fieldLink RX11 9 "PhaselockModel" "step" "I", .methodLink RX11 44 yX11_in, .static yX11_in, .initialized RX11, .code yX11_in cX11_in 3 (some .boolean), .methodLink RX11 48 yX11_holds, .instanceMethod yX11_holds, .selects RX11 yX11_holds yX11_holds, .code yX11_holds cX11_holds 2 (some .boolean), .fieldLink RX11 41 "PhaselockModel" "thrown" "I"] ++ wsX110)
def wsX11_setJitter : List Cond := .code yX11_setJitter cX11_setJitter 3 none :: ([.fieldLink RX11 52 "PhaselockModel" "jitter" "I", .fieldLink RX11 13 "PhaselockModel" "random" "J", .methodLink RX11 44 yX11_in, .static yX11_in, .initialized RX11, .code yX11_in cX11_in 3 (some .boolean), .methodLink RX11 48 yX11_holds, .instanceMethod yX11_holds, .selects RX11 yX11_holds yX11_holds, .code yX11_holds cX11_holds 2 (some .boolean), .fieldLink RX11 41 "PhaselockModel" "thrown" "I"] ++ wsX110)
def wsX11_setDetector : List Cond := .code yX11_setDetector cX11_setDetector 3 (some .int) :: ([.fieldLink RX11 55 "PhaselockModel" "detector" "I", .methodLink RX11 44 yX11_in, .static yX11_in, .initialized RX11, .code yX11_in cX11_in 3 (some .boolean), .methodLink RX11 48 yX11_holds, .instanceMethod yX11_holds, .selects RX11 yX11_holds yX11_holds, .code yX11_holds cX11_holds 2 (some .boolean), .fieldLink RX11 41 "PhaselockModel" "thrown" "I"] ++ wsX110)
def wsX11_setGains : List Cond := .code yX11_setGains cX11_setGains 3 none :: ([.fieldLink RX11 31 "PhaselockModel" "gainP" "I", .fieldLink RX11 34 "PhaselockModel" "gainI" "I", .methodLink RX11 44 yX11_in, .static yX11_in, .initialized RX11, .code yX11_in cX11_in 3 (some .boolean), .methodLink RX11 48 yX11_holds, .instanceMethod yX11_holds, .selects RX11 yX11_holds yX11_holds, .code yX11_holds cX11_holds 2 (some .boolean), .fieldLink RX11 41 "PhaselockModel" "thrown" "I"] ++ wsX110)
def wsX11_setPhase : List Cond := .code yX11_setPhase cX11_setPhase 3 (some .int) :: ([.constant RX11 23 (65535), .fieldLink RX11 58 "PhaselockModel" "phase" "I", .methodLink RX11 44 yX11_in, .static yX11_in, .initialized RX11, .code yX11_in cX11_in 3 (some .boolean), .methodLink RX11 48 yX11_holds, .instanceMethod yX11_holds, .selects RX11 yX11_holds yX11_holds, .code yX11_holds cX11_holds 2 (some .boolean), .fieldLink RX11 41 "PhaselockModel" "thrown" "I"] ++ wsX110)
def wsX11_release : List Cond := .code yX11_release cX11_release 1 none :: ([.fieldLink RX11 41 "PhaselockModel" "thrown" "I", .fieldLink RX11 61 "PhaselockModel" "integral" "I", .fieldLink RX11 64 "PhaselockModel" "control" "I"] ++ wsX110)
def wsX11_kept : List Cond := .code yX11_kept cX11_kept 2 (some .int) :: ([])
def wsX11_measures : List Cond := .code yX11_measures cX11_measures 2 none :: ([.fieldLink RX11 67 "PhaselockModel" "error" "I", .fieldLink RX11 61 "PhaselockModel" "integral" "I", .fieldLink RX11 34 "PhaselockModel" "gainI" "I", .constant RX11 70 (262144), .fieldLink RX11 31 "PhaselockModel" "gainP" "I", .fieldLink RX11 64 "PhaselockModel" "control" "I", .methodLink RX11 71 yX11_kept, .static yX11_kept, .initialized RX11, .code yX11_kept cX11_kept 2 (some .int)] ++ wsX110)
def wsX11_sends : List Cond := .code yX11_sends cX11_sends 2 none :: ([.fieldLink RX11 75 "PhaselockModel" "sent" "I", .fieldLink RX11 20 "PhaselockModel" "value" "I", .fieldLink RX11 17 "PhaselockModel" "register" "I"] ++ wsX110)
def wsX11_transmits : List Cond := .code yX11_transmits cX11_transmits 2 none :: ([.fieldLink RX11 52 "PhaselockModel" "jitter" "I", .constantLong RX11 78 (1103515245), .fieldLink RX11 13 "PhaselockModel" "random" "J", .constantLong RX11 80 (12345), .constantLong RX11 82 (2147483648), .constantLong RX11 84 (65536), .fieldLink RX11 86 "PhaselockModel" "senderPhase" "I", .fieldLink RX11 9 "PhaselockModel" "step" "I", .constant RX11 89 (65536), .fieldLink RX11 93 "PhaselockModel" "ticks" "I", .fieldLink RX11 24 "PhaselockModel" "memory" "I", .constant RX11 23 (65535), .fieldLink RX11 20 "PhaselockModel" "value" "I", .fieldLink RX11 27 "PhaselockModel" "areEdges" "[Z", .methodLink RX11 90 yX11_sends, .instanceMethod yX11_sends, .selects RX11 yX11_sends yX11_sends, .initialized RX11, .code yX11_sends cX11_sends 2 none, .fieldLink RX11 75 "PhaselockModel" "sent" "I", .fieldLink RX11 17 "PhaselockModel" "register" "I"] ++ wsX110)
def wsX11_levelNow : List Cond := .code yX11_levelNow cX11_levelNow 3 (some .int) :: ([.fieldLink RX11 24 "PhaselockModel" "memory" "I"] ++ wsX110)
def wsX11_size : List Cond := .code yX11_size cX11_size 1 (some .int) :: ([])
def wsX11_measured : List Cond := .code yX11_measured cX11_measured 2 (some .int) :: ([.fieldLink RX11 96 "PhaselockModel" "bits" "I", .fieldLink RX11 55 "PhaselockModel" "detector" "I", .fieldLink RX11 99 "PhaselockModel" "received" "I", .fieldLink RX11 102 "PhaselockModel" "middleValue" "I", .fieldLink RX11 105 "PhaselockModel" "edgeError" "I", .fieldLink RX11 108 "PhaselockModel" "product" "I", .fieldLink RX11 111 "PhaselockModel" "middleLevel" "I", .fieldLink RX11 118 "PhaselockModel" "keptLevel" "I", .methodLink RX11 114 yX11_levelNow, .instanceMethod yX11_levelNow, .selects RX11 yX11_levelNow yX11_levelNow, .initialized RX11, .code yX11_levelNow cX11_levelNow 3 (some .int), .fieldLink RX11 24 "PhaselockModel" "memory" "I"] ++ wsX110)
def wsX11_aligns : List Cond := .code yX11_aligns cX11_aligns 2 none :: ([.fieldLink RX11 99 "PhaselockModel" "received" "I", .fieldLink RX11 96 "PhaselockModel" "bits" "I", .fieldLink RX11 144 "PhaselockModel" "sinceHunt" "I", .fieldLink RX11 147 "PhaselockModel" "alignment" "I", .fieldLink RX11 150 "PhaselockModel" "matches" "I", .fieldLink RX11 153 "PhaselockModel" "misses" "I", .fieldLink RX11 156 "PhaselockModel" "frames" "I", .fieldLink RX11 159 "PhaselockModel" "losses" "I"] ++ wsX110)
def wsX11_receives_r1 : List Cond := [Cond.fieldLink RX11 75 "PhaselockModel" "sent" "I", Cond.fieldLink RX11 121 "PhaselockModel" "sentBefore" "I", Cond.fieldLink RX11 99 "PhaselockModel" "received" "I", Cond.fieldLink RX11 124 "PhaselockModel" "repeated" "I", Cond.fieldLink RX11 127 "PhaselockModel" "skipped" "I", Cond.fieldLink RX11 130 "PhaselockModel" "slips" "I", Cond.fieldLink RX11 37 "PhaselockModel" "phases" "[I", Cond.fieldLink RX11 86 "PhaselockModel" "senderPhase" "I", Cond.constant RX11 133 (32768), Cond.fieldLink RX11 96 "PhaselockModel" "bits" "I", Cond.fieldLink RX11 20 "PhaselockModel" "value" "I", Cond.fieldLink RX11 55 "PhaselockModel" "detector" "I", Cond.fieldLink RX11 105 "PhaselockModel" "edgeError" "I", Cond.fieldLink RX11 108 "PhaselockModel" "product" "I", Cond.fieldLink RX11 118 "PhaselockModel" "keptLevel" "I", Cond.methodLink RX11 134 yX11_measured, Cond.instanceMethod yX11_measured, Cond.selects RX11 yX11_measured yX11_measured, Cond.initialized RX11, Cond.code yX11_measured cX11_measured 2 (some .int), Cond.fieldLink RX11 102 "PhaselockModel" "middleValue" "I", Cond.fieldLink RX11 111 "PhaselockModel" "middleLevel" "I", Cond.methodLink RX11 114 yX11_levelNow, Cond.instanceMethod yX11_levelNow]
def wsX11_receives_r2 : List Cond := [Cond.selects RX11 yX11_levelNow yX11_levelNow, Cond.code yX11_levelNow cX11_levelNow 3 (some .int), Cond.fieldLink RX11 24 "PhaselockModel" "memory" "I", Cond.methodLink RX11 137 yX11_measures, Cond.instanceMethod yX11_measures, Cond.selects RX11 yX11_measures yX11_measures, Cond.code yX11_measures cX11_measures 2 none, Cond.fieldLink RX11 67 "PhaselockModel" "error" "I", Cond.fieldLink RX11 61 "PhaselockModel" "integral" "I", Cond.fieldLink RX11 34 "PhaselockModel" "gainI" "I", Cond.constant RX11 70 (262144), Cond.fieldLink RX11 31 "PhaselockModel" "gainP" "I", Cond.fieldLink RX11 64 "PhaselockModel" "control" "I", Cond.methodLink RX11 71 yX11_kept, Cond.static yX11_kept, Cond.code yX11_kept cX11_kept 2 (some .int), Cond.methodLink RX11 141 yX11_aligns, Cond.instanceMethod yX11_aligns, Cond.selects RX11 yX11_aligns yX11_aligns, Cond.code yX11_aligns cX11_aligns 2 none, Cond.fieldLink RX11 144 "PhaselockModel" "sinceHunt" "I", Cond.fieldLink RX11 147 "PhaselockModel" "alignment" "I", Cond.fieldLink RX11 150 "PhaselockModel" "matches" "I", Cond.fieldLink RX11 153 "PhaselockModel" "misses" "I"]
def wsX11_receives_r3 : List Cond := [Cond.fieldLink RX11 156 "PhaselockModel" "frames" "I", Cond.fieldLink RX11 159 "PhaselockModel" "losses" "I"]
def wsX11_receives : List Cond := .code yX11_receives cX11_receives 3 none :: ((wsX11_receives_r1 ++ (wsX11_receives_r2 ++ wsX11_receives_r3)) ++ wsX110)
def wsX11_strobes_r1 : List Cond := [Cond.fieldLink RX11 58 "PhaselockModel" "phase" "I", Cond.fieldLink RX11 55 "PhaselockModel" "detector" "I", Cond.fieldLink RX11 162 "PhaselockModel" "earlyValue" "I", Cond.constant RX11 133 (32768), Cond.fieldLink RX11 20 "PhaselockModel" "value" "I", Cond.fieldLink RX11 102 "PhaselockModel" "middleValue" "I", Cond.fieldLink RX11 111 "PhaselockModel" "middleLevel" "I", Cond.constant RX11 169 (49152), Cond.constant RX11 89 (65536), Cond.methodLink RX11 114 yX11_levelNow, Cond.instanceMethod yX11_levelNow, Cond.selects RX11 yX11_levelNow yX11_levelNow, Cond.initialized RX11, Cond.code yX11_levelNow cX11_levelNow 3 (some .int), Cond.fieldLink RX11 24 "PhaselockModel" "memory" "I", Cond.methodLink RX11 165 yX11_size, Cond.static yX11_size, Cond.code yX11_size cX11_size 1 (some .int), Cond.methodLink RX11 137 yX11_measures, Cond.instanceMethod yX11_measures, Cond.selects RX11 yX11_measures yX11_measures, Cond.code yX11_measures cX11_measures 2 none, Cond.fieldLink RX11 67 "PhaselockModel" "error" "I", Cond.fieldLink RX11 61 "PhaselockModel" "integral" "I"]
def wsX11_strobes_r2 : List Cond := [Cond.fieldLink RX11 34 "PhaselockModel" "gainI" "I", Cond.constant RX11 70 (262144), Cond.fieldLink RX11 31 "PhaselockModel" "gainP" "I", Cond.fieldLink RX11 64 "PhaselockModel" "control" "I", Cond.methodLink RX11 71 yX11_kept, Cond.static yX11_kept, Cond.code yX11_kept cX11_kept 2 (some .int), Cond.methodLink RX11 170 yX11_receives, Cond.instanceMethod yX11_receives, Cond.selects RX11 yX11_receives yX11_receives, Cond.code yX11_receives cX11_receives 3 none, Cond.fieldLink RX11 75 "PhaselockModel" "sent" "I", Cond.fieldLink RX11 121 "PhaselockModel" "sentBefore" "I", Cond.fieldLink RX11 99 "PhaselockModel" "received" "I", Cond.fieldLink RX11 124 "PhaselockModel" "repeated" "I", Cond.fieldLink RX11 127 "PhaselockModel" "skipped" "I", Cond.fieldLink RX11 130 "PhaselockModel" "slips" "I", Cond.fieldLink RX11 37 "PhaselockModel" "phases" "[I", Cond.fieldLink RX11 86 "PhaselockModel" "senderPhase" "I", Cond.fieldLink RX11 96 "PhaselockModel" "bits" "I", Cond.fieldLink RX11 105 "PhaselockModel" "edgeError" "I", Cond.fieldLink RX11 108 "PhaselockModel" "product" "I", Cond.fieldLink RX11 118 "PhaselockModel" "keptLevel" "I", Cond.methodLink RX11 134 yX11_measured]
def wsX11_strobes_r3 : List Cond := [Cond.instanceMethod yX11_measured, Cond.selects RX11 yX11_measured yX11_measured, Cond.code yX11_measured cX11_measured 2 (some .int), Cond.methodLink RX11 141 yX11_aligns, Cond.instanceMethod yX11_aligns, Cond.selects RX11 yX11_aligns yX11_aligns, Cond.code yX11_aligns cX11_aligns 2 none, Cond.fieldLink RX11 144 "PhaselockModel" "sinceHunt" "I", Cond.fieldLink RX11 147 "PhaselockModel" "alignment" "I", Cond.fieldLink RX11 150 "PhaselockModel" "matches" "I", Cond.fieldLink RX11 153 "PhaselockModel" "misses" "I", Cond.fieldLink RX11 156 "PhaselockModel" "frames" "I", Cond.fieldLink RX11 159 "PhaselockModel" "losses" "I"]
def wsX11_strobes : List Cond := .code yX11_strobes cX11_strobes 2 none :: ((wsX11_strobes_r1 ++ (wsX11_strobes_r2 ++ wsX11_strobes_r3)) ++ wsX110)
def wsX11_passes_r1 : List Cond := [Cond.fieldLink RX11 27 "PhaselockModel" "areEdges" "[Z", Cond.fieldLink RX11 93 "PhaselockModel" "ticks" "I", Cond.constant RX11 133 (32768), Cond.fieldLink RX11 58 "PhaselockModel" "phase" "I", Cond.fieldLink RX11 105 "PhaselockModel" "edgeError" "I", Cond.fieldLink RX11 24 "PhaselockModel" "memory" "I", Cond.fieldLink RX11 108 "PhaselockModel" "product" "I", Cond.constant RX11 176 (49151), Cond.fieldLink RX11 64 "PhaselockModel" "control" "I", Cond.methodLink RX11 173 yX11_transmits, Cond.instanceMethod yX11_transmits, Cond.selects RX11 yX11_transmits yX11_transmits, Cond.initialized RX11, Cond.code yX11_transmits cX11_transmits 2 none, Cond.fieldLink RX11 52 "PhaselockModel" "jitter" "I", Cond.constantLong RX11 78 (1103515245), Cond.fieldLink RX11 13 "PhaselockModel" "random" "J", Cond.constantLong RX11 80 (12345), Cond.constantLong RX11 82 (2147483648), Cond.constantLong RX11 84 (65536), Cond.fieldLink RX11 86 "PhaselockModel" "senderPhase" "I", Cond.fieldLink RX11 9 "PhaselockModel" "step" "I", Cond.constant RX11 89 (65536), Cond.constant RX11 23 (65535)]
def wsX11_passes_r2 : List Cond := [Cond.fieldLink RX11 20 "PhaselockModel" "value" "I", Cond.methodLink RX11 90 yX11_sends, Cond.instanceMethod yX11_sends, Cond.selects RX11 yX11_sends yX11_sends, Cond.code yX11_sends cX11_sends 2 none, Cond.fieldLink RX11 75 "PhaselockModel" "sent" "I", Cond.fieldLink RX11 17 "PhaselockModel" "register" "I", Cond.methodLink RX11 44 yX11_in, Cond.static yX11_in, Cond.code yX11_in cX11_in 3 (some .boolean), Cond.methodLink RX11 177 yX11_strobes, Cond.instanceMethod yX11_strobes, Cond.selects RX11 yX11_strobes yX11_strobes, Cond.code yX11_strobes cX11_strobes 2 none, Cond.fieldLink RX11 55 "PhaselockModel" "detector" "I", Cond.fieldLink RX11 162 "PhaselockModel" "earlyValue" "I", Cond.fieldLink RX11 102 "PhaselockModel" "middleValue" "I", Cond.fieldLink RX11 111 "PhaselockModel" "middleLevel" "I", Cond.constant RX11 169 (49152), Cond.methodLink RX11 114 yX11_levelNow, Cond.instanceMethod yX11_levelNow, Cond.selects RX11 yX11_levelNow yX11_levelNow, Cond.code yX11_levelNow cX11_levelNow 3 (some .int), Cond.methodLink RX11 165 yX11_size]
def wsX11_passes_r3 : List Cond := [Cond.static yX11_size, Cond.code yX11_size cX11_size 1 (some .int), Cond.methodLink RX11 137 yX11_measures, Cond.instanceMethod yX11_measures, Cond.selects RX11 yX11_measures yX11_measures, Cond.code yX11_measures cX11_measures 2 none, Cond.fieldLink RX11 67 "PhaselockModel" "error" "I", Cond.fieldLink RX11 61 "PhaselockModel" "integral" "I", Cond.fieldLink RX11 34 "PhaselockModel" "gainI" "I", Cond.constant RX11 70 (262144), Cond.fieldLink RX11 31 "PhaselockModel" "gainP" "I", Cond.methodLink RX11 71 yX11_kept, Cond.static yX11_kept, Cond.code yX11_kept cX11_kept 2 (some .int), Cond.methodLink RX11 170 yX11_receives, Cond.instanceMethod yX11_receives, Cond.selects RX11 yX11_receives yX11_receives, Cond.code yX11_receives cX11_receives 3 none, Cond.fieldLink RX11 121 "PhaselockModel" "sentBefore" "I", Cond.fieldLink RX11 99 "PhaselockModel" "received" "I", Cond.fieldLink RX11 124 "PhaselockModel" "repeated" "I", Cond.fieldLink RX11 127 "PhaselockModel" "skipped" "I", Cond.fieldLink RX11 130 "PhaselockModel" "slips" "I", Cond.fieldLink RX11 37 "PhaselockModel" "phases" "[I"]
def wsX11_passes_r4 : List Cond := [Cond.fieldLink RX11 96 "PhaselockModel" "bits" "I", Cond.fieldLink RX11 118 "PhaselockModel" "keptLevel" "I", Cond.methodLink RX11 134 yX11_measured, Cond.instanceMethod yX11_measured, Cond.selects RX11 yX11_measured yX11_measured, Cond.code yX11_measured cX11_measured 2 (some .int), Cond.methodLink RX11 141 yX11_aligns, Cond.instanceMethod yX11_aligns, Cond.selects RX11 yX11_aligns yX11_aligns, Cond.code yX11_aligns cX11_aligns 2 none, Cond.fieldLink RX11 144 "PhaselockModel" "sinceHunt" "I", Cond.fieldLink RX11 147 "PhaselockModel" "alignment" "I", Cond.fieldLink RX11 150 "PhaselockModel" "matches" "I", Cond.fieldLink RX11 153 "PhaselockModel" "misses" "I", Cond.fieldLink RX11 156 "PhaselockModel" "frames" "I", Cond.fieldLink RX11 159 "PhaselockModel" "losses" "I"]
def wsX11_passes : List Cond := .code yX11_passes cX11_passes 2 none :: ((wsX11_passes_r1 ++ (wsX11_passes_r2 ++ (wsX11_passes_r3 ++ wsX11_passes_r4))) ++ wsX110)
def wsX11_run_r1 : List Cond := [Cond.fieldLink RX11 99 "PhaselockModel" "received" "I", Cond.methodLink RX11 44 yX11_in, Cond.static yX11_in, Cond.initialized RX11, Cond.code yX11_in cX11_in 3 (some .boolean), Cond.methodLink RX11 48 yX11_holds, Cond.instanceMethod yX11_holds, Cond.selects RX11 yX11_holds yX11_holds, Cond.code yX11_holds cX11_holds 2 (some .boolean), Cond.fieldLink RX11 41 "PhaselockModel" "thrown" "I", Cond.methodLink RX11 180 yX11_passes, Cond.instanceMethod yX11_passes, Cond.selects RX11 yX11_passes yX11_passes, Cond.code yX11_passes cX11_passes 2 none, Cond.fieldLink RX11 27 "PhaselockModel" "areEdges" "[Z", Cond.fieldLink RX11 93 "PhaselockModel" "ticks" "I", Cond.constant RX11 133 (32768), Cond.fieldLink RX11 58 "PhaselockModel" "phase" "I", Cond.fieldLink RX11 105 "PhaselockModel" "edgeError" "I", Cond.fieldLink RX11 24 "PhaselockModel" "memory" "I", Cond.fieldLink RX11 108 "PhaselockModel" "product" "I", Cond.constant RX11 176 (49151), Cond.fieldLink RX11 64 "PhaselockModel" "control" "I", Cond.methodLink RX11 173 yX11_transmits]
def wsX11_run_r2 : List Cond := [Cond.instanceMethod yX11_transmits, Cond.selects RX11 yX11_transmits yX11_transmits, Cond.code yX11_transmits cX11_transmits 2 none, Cond.fieldLink RX11 52 "PhaselockModel" "jitter" "I", Cond.constantLong RX11 78 (1103515245), Cond.fieldLink RX11 13 "PhaselockModel" "random" "J", Cond.constantLong RX11 80 (12345), Cond.constantLong RX11 82 (2147483648), Cond.constantLong RX11 84 (65536), Cond.fieldLink RX11 86 "PhaselockModel" "senderPhase" "I", Cond.fieldLink RX11 9 "PhaselockModel" "step" "I", Cond.constant RX11 89 (65536), Cond.constant RX11 23 (65535), Cond.fieldLink RX11 20 "PhaselockModel" "value" "I", Cond.methodLink RX11 90 yX11_sends, Cond.instanceMethod yX11_sends, Cond.selects RX11 yX11_sends yX11_sends, Cond.code yX11_sends cX11_sends 2 none, Cond.fieldLink RX11 75 "PhaselockModel" "sent" "I", Cond.fieldLink RX11 17 "PhaselockModel" "register" "I", Cond.methodLink RX11 177 yX11_strobes, Cond.instanceMethod yX11_strobes, Cond.selects RX11 yX11_strobes yX11_strobes, Cond.code yX11_strobes cX11_strobes 2 none]
def wsX11_run_r3 : List Cond := [Cond.fieldLink RX11 55 "PhaselockModel" "detector" "I", Cond.fieldLink RX11 162 "PhaselockModel" "earlyValue" "I", Cond.fieldLink RX11 102 "PhaselockModel" "middleValue" "I", Cond.fieldLink RX11 111 "PhaselockModel" "middleLevel" "I", Cond.constant RX11 169 (49152), Cond.methodLink RX11 114 yX11_levelNow, Cond.instanceMethod yX11_levelNow, Cond.selects RX11 yX11_levelNow yX11_levelNow, Cond.code yX11_levelNow cX11_levelNow 3 (some .int), Cond.methodLink RX11 165 yX11_size, Cond.static yX11_size, Cond.code yX11_size cX11_size 1 (some .int), Cond.methodLink RX11 137 yX11_measures, Cond.instanceMethod yX11_measures, Cond.selects RX11 yX11_measures yX11_measures, Cond.code yX11_measures cX11_measures 2 none, Cond.fieldLink RX11 67 "PhaselockModel" "error" "I", Cond.fieldLink RX11 61 "PhaselockModel" "integral" "I", Cond.fieldLink RX11 34 "PhaselockModel" "gainI" "I", Cond.constant RX11 70 (262144), Cond.fieldLink RX11 31 "PhaselockModel" "gainP" "I", Cond.methodLink RX11 71 yX11_kept, Cond.static yX11_kept, Cond.code yX11_kept cX11_kept 2 (some .int)]
def wsX11_run_r4 : List Cond := [Cond.methodLink RX11 170 yX11_receives, Cond.instanceMethod yX11_receives, Cond.selects RX11 yX11_receives yX11_receives, Cond.code yX11_receives cX11_receives 3 none, Cond.fieldLink RX11 121 "PhaselockModel" "sentBefore" "I", Cond.fieldLink RX11 124 "PhaselockModel" "repeated" "I", Cond.fieldLink RX11 127 "PhaselockModel" "skipped" "I", Cond.fieldLink RX11 130 "PhaselockModel" "slips" "I", Cond.fieldLink RX11 37 "PhaselockModel" "phases" "[I", Cond.fieldLink RX11 96 "PhaselockModel" "bits" "I", Cond.fieldLink RX11 118 "PhaselockModel" "keptLevel" "I", Cond.methodLink RX11 134 yX11_measured, Cond.instanceMethod yX11_measured, Cond.selects RX11 yX11_measured yX11_measured, Cond.code yX11_measured cX11_measured 2 (some .int), Cond.methodLink RX11 141 yX11_aligns, Cond.instanceMethod yX11_aligns, Cond.selects RX11 yX11_aligns yX11_aligns, Cond.code yX11_aligns cX11_aligns 2 none, Cond.fieldLink RX11 144 "PhaselockModel" "sinceHunt" "I", Cond.fieldLink RX11 147 "PhaselockModel" "alignment" "I", Cond.fieldLink RX11 150 "PhaselockModel" "matches" "I", Cond.fieldLink RX11 153 "PhaselockModel" "misses" "I", Cond.fieldLink RX11 156 "PhaselockModel" "frames" "I"]
def wsX11_run_r5 : List Cond := [Cond.fieldLink RX11 159 "PhaselockModel" "losses" "I"]
def wsX11_run : List Cond := .code yX11_run cX11_run 4 (some .int) :: ((wsX11_run_r1 ++ (wsX11_run_r2 ++ (wsX11_run_r3 ++ (wsX11_run_r4 ++ wsX11_run_r5)))) ++ wsX110)
def wsX11_ticks : List Cond := .code yX11_ticks cX11_ticks 1 (some .int) :: ([.fieldLink RX11 41 "PhaselockModel" "thrown" "I", .fieldLink RX11 93 "PhaselockModel" "ticks" "I"] ++ wsX110)
def wsX11_sent : List Cond := .code yX11_sent cX11_sent 1 (some .int) :: ([.fieldLink RX11 41 "PhaselockModel" "thrown" "I", .fieldLink RX11 75 "PhaselockModel" "sent" "I"] ++ wsX110)
def wsX11_line : List Cond := .code yX11_line cX11_line 1 (some .int) :: ([.fieldLink RX11 41 "PhaselockModel" "thrown" "I", .fieldLink RX11 20 "PhaselockModel" "value" "I"] ++ wsX110)
def wsX11_level : List Cond := .code yX11_level cX11_level 1 (some .int) :: ([.fieldLink RX11 41 "PhaselockModel" "thrown" "I", .methodLink RX11 114 yX11_levelNow, .instanceMethod yX11_levelNow, .selects RX11 yX11_levelNow yX11_levelNow, .initialized RX11, .code yX11_levelNow cX11_levelNow 3 (some .int), .fieldLink RX11 24 "PhaselockModel" "memory" "I"] ++ wsX110)
def wsX11_sender : List Cond := .code yX11_sender cX11_sender 1 (some .int) :: ([.fieldLink RX11 41 "PhaselockModel" "thrown" "I", .fieldLink RX11 86 "PhaselockModel" "senderPhase" "I"] ++ wsX110)
def wsX11_receiver : List Cond := .code yX11_receiver cX11_receiver 1 (some .int) :: ([.fieldLink RX11 41 "PhaselockModel" "thrown" "I", .fieldLink RX11 58 "PhaselockModel" "phase" "I"] ++ wsX110)
def wsX11_error : List Cond := .code yX11_error cX11_error 1 (some .int) :: ([.fieldLink RX11 41 "PhaselockModel" "thrown" "I", .fieldLink RX11 67 "PhaselockModel" "error" "I"] ++ wsX110)
def wsX11_integral : List Cond := .code yX11_integral cX11_integral 1 (some .int) :: ([.fieldLink RX11 41 "PhaselockModel" "thrown" "I", .fieldLink RX11 61 "PhaselockModel" "integral" "I"] ++ wsX110)
def wsX11_control : List Cond := .code yX11_control cX11_control 1 (some .int) :: ([.fieldLink RX11 41 "PhaselockModel" "thrown" "I", .fieldLink RX11 64 "PhaselockModel" "control" "I"] ++ wsX110)
def wsX11_received : List Cond := .code yX11_received cX11_received 1 (some .int) :: ([.fieldLink RX11 41 "PhaselockModel" "thrown" "I", .fieldLink RX11 99 "PhaselockModel" "received" "I"] ++ wsX110)
def wsX11_recent : List Cond := .code yX11_recent cX11_recent 1 (some .int) :: ([.fieldLink RX11 99 "PhaselockModel" "received" "I"] ++ wsX110)
def wsX11_bit : List Cond := .code yX11_bit cX11_bit 2 (some .int) :: ([.fieldLink RX11 96 "PhaselockModel" "bits" "I", .methodLink RX11 183 yX11_recent, .instanceMethod yX11_recent, .selects RX11 yX11_recent yX11_recent, .initialized RX11, .code yX11_recent cX11_recent 1 (some .int), .fieldLink RX11 99 "PhaselockModel" "received" "I", .methodLink RX11 44 yX11_in, .static yX11_in, .code yX11_in cX11_in 3 (some .boolean), .methodLink RX11 48 yX11_holds, .instanceMethod yX11_holds, .selects RX11 yX11_holds yX11_holds, .code yX11_holds cX11_holds 2 (some .boolean), .fieldLink RX11 41 "PhaselockModel" "thrown" "I"] ++ wsX110)
def wsX11_phase : List Cond := .code yX11_phase cX11_phase 1 (some .int) :: ([.fieldLink RX11 99 "PhaselockModel" "received" "I", .fieldLink RX11 37 "PhaselockModel" "phases" "[I", .methodLink RX11 48 yX11_holds, .instanceMethod yX11_holds, .selects RX11 yX11_holds yX11_holds, .initialized RX11, .code yX11_holds cX11_holds 2 (some .boolean), .fieldLink RX11 41 "PhaselockModel" "thrown" "I"] ++ wsX110)
def wsX11_repeated : List Cond := .code yX11_repeated cX11_repeated 1 (some .int) :: ([.fieldLink RX11 41 "PhaselockModel" "thrown" "I", .fieldLink RX11 124 "PhaselockModel" "repeated" "I"] ++ wsX110)
def wsX11_skipped : List Cond := .code yX11_skipped cX11_skipped 1 (some .int) :: ([.fieldLink RX11 41 "PhaselockModel" "thrown" "I", .fieldLink RX11 127 "PhaselockModel" "skipped" "I"] ++ wsX110)
def wsX11_isLocked : List Cond := .code yX11_isLocked cX11_isLocked 3 (some .boolean) :: ([.fieldLink RX11 41 "PhaselockModel" "thrown" "I", .fieldLink RX11 99 "PhaselockModel" "received" "I", .fieldLink RX11 130 "PhaselockModel" "slips" "I", .fieldLink RX11 37 "PhaselockModel" "phases" "[I", .methodLink RX11 44 yX11_in, .static yX11_in, .initialized RX11, .code yX11_in cX11_in 3 (some .boolean)] ++ wsX110)
def wsX11_wander : List Cond := .code yX11_wander cX11_wander 3 (some .int) :: ([.fieldLink RX11 41 "PhaselockModel" "thrown" "I", .fieldLink RX11 37 "PhaselockModel" "phases" "[I", .methodLink RX11 183 yX11_recent, .instanceMethod yX11_recent, .selects RX11 yX11_recent yX11_recent, .initialized RX11, .code yX11_recent cX11_recent 1 (some .int), .fieldLink RX11 99 "PhaselockModel" "received" "I", .methodLink RX11 165 yX11_size, .static yX11_size, .code yX11_size cX11_size 1 (some .int)] ++ wsX110)
def wsX11_alignment : List Cond := .code yX11_alignment cX11_alignment 1 (some .int) :: ([.fieldLink RX11 41 "PhaselockModel" "thrown" "I", .fieldLink RX11 147 "PhaselockModel" "alignment" "I"] ++ wsX110)
def wsX11_frames : List Cond := .code yX11_frames cX11_frames 1 (some .int) :: ([.fieldLink RX11 41 "PhaselockModel" "thrown" "I", .fieldLink RX11 156 "PhaselockModel" "frames" "I"] ++ wsX110)
def wsX11_losses : List Cond := .code yX11_losses cX11_losses 1 (some .int) :: ([.fieldLink RX11 41 "PhaselockModel" "thrown" "I", .fieldLink RX11 159 "PhaselockModel" "losses" "I"] ++ wsX110)
def wsX11_costOf : List Cond := .code yX11_costOf cX11_costOf 6 (some .int) :: ([.fieldLink RX11 93 "PhaselockModel" "ticks" "I", .fieldLink RX11 27 "PhaselockModel" "areEdges" "[Z"] ++ wsX110)
def wsX11_bestPhase : List Cond := .code yX11_bestPhase cX11_bestPhase 3 (some .int) :: ([.fieldLink RX11 41 "PhaselockModel" "thrown" "I", .methodLink RX11 186 yX11_costOf, .instanceMethod yX11_costOf, .selects RX11 yX11_costOf yX11_costOf, .initialized RX11, .code yX11_costOf cX11_costOf 6 (some .int), .fieldLink RX11 93 "PhaselockModel" "ticks" "I", .fieldLink RX11 27 "PhaselockModel" "areEdges" "[Z"] ++ wsX110)
def wsX11_cost : List Cond := .code yX11_cost cX11_cost 2 (some .int) :: ([.methodLink RX11 44 yX11_in, .static yX11_in, .initialized RX11, .code yX11_in cX11_in 3 (some .boolean), .methodLink RX11 48 yX11_holds, .instanceMethod yX11_holds, .selects RX11 yX11_holds yX11_holds, .code yX11_holds cX11_holds 2 (some .boolean), .fieldLink RX11 41 "PhaselockModel" "thrown" "I", .methodLink RX11 186 yX11_costOf, .instanceMethod yX11_costOf, .selects RX11 yX11_costOf yX11_costOf, .code yX11_costOf cX11_costOf 6 (some .int), .fieldLink RX11 93 "PhaselockModel" "ticks" "I", .fieldLink RX11 27 "PhaselockModel" "areEdges" "[Z"] ++ wsX110)
def wsJ9_abs_0f7a4 : List Cond := .code yJ9_abs_0f7a4 cJ9_abs_0f7a4 1 (some .int) :: ([])
def wsJ9_max_7cf53 : List Cond := .code yJ9_max_7cf53 cJ9_max_7cf53 2 (some .int) :: ([])
def wsJ9_min_7cf53 : List Cond := .code yJ9_min_7cf53 cJ9_min_7cf53 2 (some .int) :: ([])
def wsL_setOffset : List Cond := .codeWith yL_setOffset cL_setOffset 4 (some .int) [(0, 9, 12, 13)] :: ([.classLink RL 13 "java/lang/IllegalArgumentException", .methodLink RL 7 yX10_setOffset, .instanceMethod yX10_setOffset, .selects RX10 yX10_setOffset yX10_setOffset, .initialized RX10, .code yX10_setOffset cX10_setOffset 2 (some .int), .classLink RX10 83 "java/lang/IllegalArgumentException", .initialized "java/lang/IllegalArgumentException", .fieldLink RX10 10 "Phaselock" "transmitter" "LPhaselock$Transmitter;", .fieldLink RX10 90 "Phaselock$Transmitter" "step" "I", .methodLink RX10 79 yX10_isWithin, .static yX10_isWithin, .code yX10_isWithin cX10_isWithin 3 (some .boolean)] ++ wsX100 ++ wsX90 ++ (vx_atS RX10 87 "java/lang/IllegalArgumentException" ["java/lang/RuntimeException", "java/lang/Exception"]).filter goodWord)
def wsL_setJitter : List Cond := .codeWith yL_setJitter cL_setJitter 4 (some .int) [(0, 6, 9, 13)] :: ([.classLink RL 13 "java/lang/IllegalArgumentException", .methodLink RL 15 yX10_setJitter, .instanceMethod yX10_setJitter, .selects RX10 yX10_setJitter yX10_setJitter, .initialized RX10, .code yX10_setJitter cX10_setJitter 3 none, .classLink RX10 83 "java/lang/IllegalArgumentException", .initialized "java/lang/IllegalArgumentException", .fieldLink RX10 10 "Phaselock" "transmitter" "LPhaselock$Transmitter;", .fieldLink RX10 98 "Phaselock$Transmitter" "jitter" "I", .fieldLink RX10 101 "Phaselock$Transmitter" "randomState" "J", .methodLink RX10 79 yX10_isWithin, .static yX10_isWithin, .code yX10_isWithin cX10_isWithin 3 (some .boolean)] ++ wsX100 ++ wsX90 ++ (vx_atS RX10 87 "java/lang/IllegalArgumentException" ["java/lang/RuntimeException", "java/lang/Exception"]).filter goodWord)
def wsL_setDetector : List Cond := .codeWith yL_setDetector cL_setDetector 4 (some .int) [(0, 9, 12, 13)] :: ([.classLink RL 13 "java/lang/IllegalArgumentException", .methodLink RL 19 yX10_setDetector, .instanceMethod yX10_setDetector, .selects RX10 yX10_setDetector yX10_setDetector, .initialized RX10, .code yX10_setDetector cX10_setDetector 3 (some .int), .classLink RX10 83 "java/lang/IllegalArgumentException", .initialized "java/lang/IllegalArgumentException", .fieldLink RX10 40 "Phaselock" "detector" "LPhaselock$PhaseDetector;", .fieldLink RX10 107 "Phaselock$PhaseDetector" "kind" "I", .methodLink RX10 79 yX10_isWithin, .static yX10_isWithin, .code yX10_isWithin cX10_isWithin 3 (some .boolean)] ++ wsX100 ++ wsX60 ++ (vx_atS RX10 87 "java/lang/IllegalArgumentException" ["java/lang/RuntimeException", "java/lang/Exception"]).filter goodWord)
def wsL_setGains : List Cond := .codeWith yL_setGains cL_setGains 4 (some .int) [(0, 6, 9, 13)] :: ([.classLink RL 13 "java/lang/IllegalArgumentException", .methodLink RL 22 yX10_setGains, .instanceMethod yX10_setGains, .selects RX10 yX10_setGains yX10_setGains, .initialized RX10, .code yX10_setGains cX10_setGains 3 none, .classLink RX10 83 "java/lang/IllegalArgumentException", .initialized "java/lang/IllegalArgumentException", .fieldLink RX10 47 "Phaselock" "filter" "LPhaselock$LoopFilter;", .fieldLink RX10 114 "Phaselock$LoopFilter" "proportionalGain" "I", .fieldLink RX10 117 "Phaselock$LoopFilter" "integralGain" "I", .methodLink RX10 79 yX10_isWithin, .static yX10_isWithin, .code yX10_isWithin cX10_isWithin 3 (some .boolean)] ++ wsX100 ++ wsX40 ++ (vx_atS RX10 87 "java/lang/IllegalArgumentException" ["java/lang/RuntimeException", "java/lang/Exception"]).filter goodWord)
def wsL_setPhase : List Cond := .codeWith yL_setPhase cL_setPhase 4 (some .int) [(0, 9, 12, 13)] :: ([.classLink RL 13 "java/lang/IllegalArgumentException", .methodLink RL 25 yX10_setPhase, .instanceMethod yX10_setPhase, .selects RX10 yX10_setPhase yX10_setPhase, .initialized RX10, .code yX10_setPhase cX10_setPhase 3 (some .int), .classLink RX10 83 "java/lang/IllegalArgumentException", .initialized "java/lang/IllegalArgumentException", .constant RX10 120 (65535), .fieldLink RX10 33 "Phaselock" "oscillator" "LPhaselock$Oscillator;", .fieldLink RX10 123 "Phaselock$Oscillator" "phase" "I", .methodLink RX10 79 yX10_isWithin, .static yX10_isWithin, .code yX10_isWithin cX10_isWithin 3 (some .boolean)] ++ wsX100 ++ wsX50 ++ (vx_atS RX10 87 "java/lang/IllegalArgumentException" ["java/lang/RuntimeException", "java/lang/Exception"]).filter goodWord)
def wsL_run_r1 : List Cond := [Cond.classLink RL 13 "java/lang/IllegalArgumentException", Cond.methodLink RL 28 yX10_run, Cond.instanceMethod yX10_run, Cond.selects RX10 yX10_run yX10_run, Cond.initialized RX10, Cond.code yX10_run cX10_run 4 (some .int), Cond.classLink RX10 83 "java/lang/IllegalArgumentException", Cond.initialized "java/lang/IllegalArgumentException", Cond.fieldLink RX10 54 "Phaselock" "bits" "LPhaselock$BitLog;", Cond.fieldLink RX10 134 "Phaselock$BitLog" "count" "I", Cond.methodLink RX10 79 yX10_isWithin, Cond.static yX10_isWithin, Cond.code yX10_isWithin cX10_isWithin 3 (some .boolean), Cond.methodLink RX10 137 yX10_passTick, Cond.instanceMethod yX10_passTick, Cond.selects RX10 yX10_passTick yX10_passTick, Cond.code yX10_passTick cX10_passTick 1 none, Cond.fieldLink RX10 10 "Phaselock" "transmitter" "LPhaselock$Transmitter;", Cond.fieldLink RX10 19 "Phaselock" "memory" "LPhaselock$LineMemory;", Cond.fieldLink RX10 146 "Phaselock$Transmitter" "value" "I", Cond.fieldLink RX10 26 "Phaselock" "edges" "LPhaselock$EdgeLog;", Cond.fieldLink RX10 40 "Phaselock" "detector" "LPhaselock$PhaseDetector;", Cond.fieldLink RX10 33 "Phaselock" "oscillator" "LPhaselock$Oscillator;", Cond.fieldLink RX10 123 "Phaselock$Oscillator" "phase" "I"]
def wsL_run_r2 : List Cond := [Cond.fieldLink RX10 47 "Phaselock" "filter" "LPhaselock$LoopFilter;", Cond.fieldLink RX10 129 "Phaselock$LoopFilter" "control" "I", Cond.methodLink RX10 206 yX9_advance, Cond.instanceMethod yX9_advance, Cond.selects RX9 yX9_advance yX9_advance, Cond.initialized RX9, Cond.code yX9_advance cX9_advance 1 none, Cond.fieldLink RX9 9 "Phaselock$Transmitter" "phase" "I", Cond.fieldLink RX9 15 "Phaselock$Transmitter" "step" "I", Cond.constant RX9 38 (65536), Cond.methodLink RX9 34 yX9_drawDeviation, Cond.instanceMethod yX9_drawDeviation, Cond.selects RX9 yX9_drawDeviation yX9_drawDeviation, Cond.code yX9_drawDeviation cX9_drawDeviation 2 (some .int), Cond.fieldLink RX9 18 "Phaselock$Transmitter" "jitter" "I", Cond.constantLong RX9 42 (1103515245), Cond.fieldLink RX9 21 "Phaselock$Transmitter" "randomState" "J", Cond.constantLong RX9 44 (12345), Cond.constantLong RX9 46 (2147483648), Cond.constantLong RX9 48 (65536), Cond.methodLink RX9 39 yX9_sendNextBit, Cond.instanceMethod yX9_sendNextBit, Cond.selects RX9 yX9_sendNextBit yX9_sendNextBit, Cond.code yX9_sendNextBit cX9_sendNextBit 2 none]
def wsL_run_r3 : List Cond := [Cond.fieldLink RX9 25 "Phaselock$Transmitter" "number" "I", Cond.fieldLink RX9 28 "Phaselock$Transmitter" "value" "I", Cond.methodLink RX9 50 yX9_shiftRegister, Cond.instanceMethod yX9_shiftRegister, Cond.selects RX9 yX9_shiftRegister yX9_shiftRegister, Cond.code yX9_shiftRegister cX9_shiftRegister 3 (some .int), Cond.fieldLink RX9 31 "Phaselock$Transmitter" "register" "I", Cond.methodLink RX10 209 yX3_remember, Cond.instanceMethod yX3_remember, Cond.selects RX3 yX3_remember yX3_remember, Cond.initialized RX3, Cond.code yX3_remember cX3_remember 2 none, Cond.fieldLink RX3 8 "Phaselock$LineMemory" "values" "I", Cond.constant RX3 7 (65535), Cond.methodLink RX10 213 yX3_hasChangedSince, Cond.instanceMethod yX3_hasChangedSince, Cond.selects RX3 yX3_hasChangedSince yX3_hasChangedSince, Cond.code yX3_hasChangedSince cX3_hasChangedSince 2 (some .boolean), Cond.methodLink RX10 216 yX2_add, Cond.instanceMethod yX2_add, Cond.selects RX2 yX2_add yX2_add, Cond.initialized RX2, Cond.code yX2_add cX2_add 2 none, Cond.fieldLink RX2 7 "Phaselock$EdgeLog" "ticks" "I"]
def wsL_run_r4 : List Cond := [Cond.fieldLink RX2 13 "Phaselock$EdgeLog" "changed" "[Z", Cond.methodLink RX10 220 yX6_watchLine, Cond.instanceMethod yX6_watchLine, Cond.selects RX6 yX6_watchLine yX6_watchLine, Cond.initialized RX6, Cond.code yX6_watchLine cX6_watchLine 3 none, Cond.constant RX6 39 (32768), Cond.fieldLink RX6 15 "Phaselock$PhaseDetector" "edgeError" "I", Cond.fieldLink RX6 18 "Phaselock$PhaseDetector" "product" "I", Cond.constant RX6 40 (49151), Cond.methodLink RX6 33 yX3_hasChangedSince, Cond.methodLink RX10 224 yX5_advance, Cond.instanceMethod yX5_advance, Cond.selects RX5 yX5_advance yX5_advance, Cond.initialized RX5, Cond.code yX5_advance cX5_advance 3 (some .int), Cond.fieldLink RX5 9 "Phaselock$Oscillator" "phase" "I", Cond.constant RX5 15 (65536), Cond.constant RX5 16 (49152), Cond.constant RX5 21 (32768), Cond.methodLink RX5 17 yX5_hasPassed, Cond.instanceMethod yX5_hasPassed, Cond.selects RX5 yX5_hasPassed yX5_hasPassed, Cond.code yX5_hasPassed cX5_hasPassed 3 (some .boolean)]
def wsL_run_r5 : List Cond := [Cond.methodLink RX10 226 yX10_actOnStrobe, Cond.instanceMethod yX10_actOnStrobe, Cond.selects RX10 yX10_actOnStrobe yX10_actOnStrobe, Cond.code yX10_actOnStrobe cX10_actOnStrobe 2 none, Cond.fieldLink RX10 107 "Phaselock$PhaseDetector" "kind" "I", Cond.methodLink RX10 149 yX3_findLevel, Cond.instanceMethod yX3_findLevel, Cond.selects RX3 yX3_findLevel yX3_findLevel, Cond.code yX3_findLevel cX3_findLevel 1 (some .int), Cond.methodLink RX3 14 yJ6_bitCount_0f7a4, Cond.static yJ6_bitCount_0f7a4, Cond.initialized RJ6, Cond.code yJ6_bitCount_0f7a4 cJ6_bitCount_0f7a4 1 (some .int), Cond.constant RJ6 265 (1431655765), Cond.constant RJ6 266 (858993459), Cond.constant RJ6 267 (252645135), Cond.methodLink RX10 229 yX6_measureLate, Cond.instanceMethod yX6_measureLate, Cond.selects RX6 yX6_measureLate yX6_measureLate, Cond.code yX6_measureLate cX6_measureLate 2 (some .int), Cond.fieldLink RX6 21 "Phaselock$PhaseDetector" "earlyValue" "I", Cond.methodLink RX6 45 Lib.Math.abs.name, Cond.static Lib.Math.abs.name, Cond.initialized "java/lang/Math"]
def wsL_run_r6 : List Cond := [Cond.code Lib.Math.abs.name Lib.Math.abs.code 1 (some .int), Cond.methodLink RX10 232 yX4_takeError, Cond.instanceMethod yX4_takeError, Cond.selects RX4 yX4_takeError yX4_takeError, Cond.initialized RX4, Cond.code yX4_takeError cX4_takeError 2 none, Cond.fieldLink RX4 16 "Phaselock$LoopFilter" "error" "I", Cond.fieldLink RX4 19 "Phaselock$LoopFilter" "integral" "I", Cond.fieldLink RX4 13 "Phaselock$LoopFilter" "integralGain" "I", Cond.constant RX4 25 (262144), Cond.fieldLink RX4 7 "Phaselock$LoopFilter" "proportionalGain" "I", Cond.fieldLink RX4 22 "Phaselock$LoopFilter" "control" "I", Cond.methodLink RX4 26 yX4_keepWithin, Cond.static yX4_keepWithin, Cond.code yX4_keepWithin cX4_keepWithin 2 (some .int), Cond.methodLink RX4 35 Lib.Math.min.name, Cond.static Lib.Math.min.name, Cond.code Lib.Math.min.name Lib.Math.min.code 2 (some .int), Cond.methodLink RX4 38 Lib.Math.max.name, Cond.static Lib.Math.max.name, Cond.code Lib.Math.max.name Lib.Math.max.code 2 (some .int), Cond.methodLink RX4 30 yJ9_floorDiv_7cf53, Cond.static yJ9_floorDiv_7cf53, Cond.initialized RJ9]
def wsL_run_r7 : List Cond := [Cond.code yJ9_floorDiv_7cf53 cJ9_floorDiv_7cf53 3 (some .int), Cond.methodLink RX10 235 yX6_keepMiddle, Cond.instanceMethod yX6_keepMiddle, Cond.selects RX6 yX6_keepMiddle yX6_keepMiddle, Cond.code yX6_keepMiddle cX6_keepMiddle 3 none, Cond.fieldLink RX6 24 "Phaselock$PhaseDetector" "middleValue" "I", Cond.fieldLink RX6 27 "Phaselock$PhaseDetector" "middleLevel" "I", Cond.methodLink RX10 239 yX6_keepEarly, Cond.instanceMethod yX6_keepEarly, Cond.selects RX6 yX6_keepEarly yX6_keepEarly, Cond.code yX6_keepEarly cX6_keepEarly 2 none, Cond.methodLink RX10 242 yX10_actOnDataStrobe, Cond.instanceMethod yX10_actOnDataStrobe, Cond.selects RX10 yX10_actOnDataStrobe yX10_actOnDataStrobe, Cond.code yX10_actOnDataStrobe cX10_actOnDataStrobe 4 none, Cond.fieldLink RX10 61 "Phaselock" "slips" "LPhaselock$SlipCounter;", Cond.fieldLink RX10 143 "Phaselock$Transmitter" "number" "I", Cond.fieldLink RX10 68 "Phaselock" "phases" "LPhaselock$PhaseLog;", Cond.fieldLink RX10 153 "Phaselock$Transmitter" "phase" "I", Cond.constant RX10 257 (32768), Cond.fieldLink RX10 75 "Phaselock" "aligner" "LPhaselock$Aligner;", Cond.methodLink RX10 245 yX6_measureAtData, Cond.instanceMethod yX6_measureAtData, Cond.selects RX6 yX6_measureAtData yX6_measureAtData]
def wsL_run_r8 : List Cond := [Cond.code yX6_measureAtData cX6_measureAtData 4 (some .int), Cond.fieldLink RX6 9 "Phaselock$PhaseDetector" "kind" "I", Cond.fieldLink RX6 30 "Phaselock$PhaseDetector" "dataLevel" "I", Cond.methodLink RX6 51 yX6_measureBangBang, Cond.instanceMethod yX6_measureBangBang, Cond.selects RX6 yX6_measureBangBang yX6_measureBangBang, Cond.code yX6_measureBangBang cX6_measureBangBang 4 (some .int), Cond.fieldLink RX6 55 "Phaselock$BitLog" "count" "I", Cond.methodLink RX6 60 yX1_findBit, Cond.instanceMethod yX1_findBit, Cond.selects RX1 yX1_findBit yX1_findBit, Cond.initialized RX1, Cond.code yX1_findBit cX1_findBit 2 (some .int), Cond.fieldLink RX1 15 "Phaselock$BitLog" "latest32" "I", Cond.methodLink RX10 249 yX6_finishBit, Cond.instanceMethod yX6_finishBit, Cond.selects RX6 yX6_finishBit yX6_finishBit, Cond.code yX6_finishBit cX6_finishBit 2 none, Cond.methodLink RX10 252 yX1_add, Cond.instanceMethod yX1_add, Cond.selects RX1 yX1_add yX1_add, Cond.code yX1_add cX1_add 2 none, Cond.fieldLink RX1 9 "Phaselock$BitLog" "count" "I", Cond.methodLink RX10 254 yX8_compare]
def wsL_run_r9 : List Cond := [Cond.instanceMethod yX8_compare, Cond.selects RX8 yX8_compare yX8_compare, Cond.initialized RX8, Cond.code yX8_compare cX8_compare 3 (some .boolean), Cond.fieldLink RX8 16 "Phaselock$SlipCounter" "hasStrobed" "Z", Cond.fieldLink RX8 20 "Phaselock$SlipCounter" "numberBefore" "I", Cond.fieldLink RX8 7 "Phaselock$SlipCounter" "repeated" "I", Cond.fieldLink RX8 13 "Phaselock$SlipCounter" "skipped" "I", Cond.methodLink RX10 258 yX7_add, Cond.instanceMethod yX7_add, Cond.selects RX7 yX7_add yX7_add, Cond.initialized RX7, Cond.code yX7_add cX7_add 4 none, Cond.fieldLink RX7 21 "Phaselock$PhaseLog" "window" "[I", Cond.fieldLink RX7 9 "Phaselock$PhaseLog" "count" "I", Cond.fieldLink RX7 15 "Phaselock$PhaseLog" "latest" "I", Cond.fieldLink RX7 18 "Phaselock$PhaseLog" "steadyCount" "I", Cond.methodLink RX10 261 yX1_endsWithSyncWord, Cond.instanceMethod yX1_endsWithSyncWord, Cond.selects RX1 yX1_endsWithSyncWord yX1_endsWithSyncWord, Cond.code yX1_endsWithSyncWord cX1_endsWithSyncWord 1 (some .boolean), Cond.methodLink RX10 264 yX0_take, Cond.instanceMethod yX0_take, Cond.selects RX0 yX0_take yX0_take]
def wsL_run_r10 : List Cond := [Cond.initialized RX0, Cond.code yX0_take cX0_take 2 none, Cond.fieldLink RX0 11 "Phaselock$Aligner" "state" "I", Cond.fieldLink RX0 21 "Phaselock$Aligner" "position" "I", Cond.fieldLink RX0 24 "Phaselock$Aligner" "matches" "I", Cond.methodLink RX0 30 yX0_verify, Cond.instanceMethod yX0_verify, Cond.selects RX0 yX0_verify yX0_verify, Cond.code yX0_verify cX0_verify 2 none, Cond.fieldLink RX0 27 "Phaselock$Aligner" "misses" "I", Cond.methodLink RX0 34 yX0_watchSync, Cond.instanceMethod yX0_watchSync, Cond.selects RX0 yX0_watchSync yX0_watchSync, Cond.code yX0_watchSync cX0_watchSync 2 none, Cond.fieldLink RX0 15 "Phaselock$Aligner" "frames" "I", Cond.fieldLink RX0 18 "Phaselock$Aligner" "losses" "I"]
def wsL_run : List Cond := .codeWith yL_run cL_run 4 (some .int) [(0, 9, 12, 13)] :: ((wsL_run_r1 ++ (wsL_run_r2 ++ (wsL_run_r3 ++ (wsL_run_r4 ++ (wsL_run_r5 ++ (wsL_run_r6 ++ (wsL_run_r7 ++ (wsL_run_r8 ++ (wsL_run_r9 ++ wsL_run_r10))))))))) ++ wsX100 ++ wsX10 ++ wsX90 ++ wsX50 ++ wsX40 ++ wsX30 ++ wsX20 ++ wsX60 ++ wsX80 ++ wsX70 ++ wsX00 ++ (vx_atS RX10 87 "java/lang/IllegalArgumentException" ["java/lang/RuntimeException", "java/lang/Exception"]).filter goodWord)
def wsL_bit_r1 : List Cond := [Cond.classLink RL 34 "java/lang/IndexOutOfBoundsException", Cond.methodLink RL 31 yX10_bit, Cond.instanceMethod yX10_bit, Cond.selects RX10 yX10_bit yX10_bit, Cond.initialized RX10, Cond.code yX10_bit cX10_bit 2 (some .int), Cond.classLink RX10 161 "java/lang/IndexOutOfBoundsException", Cond.initialized "java/lang/IndexOutOfBoundsException", Cond.fieldLink RX10 54 "Phaselock" "bits" "LPhaselock$BitLog;", Cond.methodLink RX10 157 yX1_remembers, Cond.instanceMethod yX1_remembers, Cond.selects RX1 yX1_remembers yX1_remembers, Cond.initialized RX1, Cond.code yX1_remembers cX1_remembers 2 (some .boolean), Cond.fieldLink RX1 9 "Phaselock$BitLog" "count" "I", Cond.methodLink RX1 18 Lib.Math.min.name, Cond.static Lib.Math.min.name, Cond.initialized "java/lang/Math", Cond.code Lib.Math.min.name Lib.Math.min.code 2 (some .int), Cond.static yX10_isWithin, Cond.code yX10_isWithin cX10_isWithin 3 (some .boolean), Cond.methodLink RX10 166 yX1_findBit, Cond.instanceMethod yX1_findBit, Cond.selects RX1 yX1_findBit yX1_findBit]
def wsL_bit_r2 : List Cond := [Cond.code yX1_findBit cX1_findBit 2 (some .int), Cond.fieldLink RX1 15 "Phaselock$BitLog" "latest32" "I"]
def wsL_bit : List Cond := .codeWith yL_bit cL_bit 4 (some .int) [(0, 9, 12, 34)] :: ((wsL_bit_r1 ++ wsL_bit_r2) ++ wsX100 ++ wsX10 ++ (vx_atS RX10 165 "java/lang/IndexOutOfBoundsException" ["java/lang/RuntimeException", "java/lang/Exception"]).filter goodWord)
def wsL_phase : List Cond := .codeWith yL_phase cL_phase 3 (some .int) [(0, 8, 11, 40)] :: ([.classLink RL 40 "java/lang/IllegalStateException", .methodLink RL 36 yX10_phase, .instanceMethod yX10_phase, .selects RX10 yX10_phase yX10_phase, .initialized RX10, .code yX10_phase cX10_phase 1 (some .int), .classLink RX10 171 "java/lang/IllegalStateException", .initialized "java/lang/IllegalStateException", .fieldLink RX10 68 "Phaselock" "phases" "LPhaselock$PhaseLog;", .fieldLink RX10 170 "Phaselock$PhaseLog" "count" "I", .fieldLink RX10 176 "Phaselock$PhaseLog" "latest" "I"] ++ wsX100 ++ wsX70 ++ (vx_atS RX10 175 "java/lang/IllegalStateException" ["java/lang/RuntimeException", "java/lang/Exception"]).filter goodWord)
def wsL_cost_r1 : List Cond := [Cond.classLink RL 13 "java/lang/IllegalArgumentException", Cond.methodLink RL 42 yX10_cost, Cond.instanceMethod yX10_cost, Cond.selects RX10 yX10_cost yX10_cost, Cond.initialized RX10, Cond.code yX10_cost cX10_cost 2 (some .int), Cond.classLink RX10 83 "java/lang/IllegalArgumentException", Cond.initialized "java/lang/IllegalArgumentException", Cond.fieldLink RX10 26 "Phaselock" "edges" "LPhaselock$EdgeLog;", Cond.methodLink RX10 79 yX10_isWithin, Cond.static yX10_isWithin, Cond.code yX10_isWithin cX10_isWithin 3 (some .boolean), Cond.methodLink RX10 201 yX2_sumCosts, Cond.instanceMethod yX2_sumCosts, Cond.selects RX2 yX2_sumCosts yX2_sumCosts, Cond.initialized RX2, Cond.code yX2_sumCosts cX2_sumCosts 4 (some .int), Cond.fieldLink RX2 13 "Phaselock$EdgeLog" "changed" "[Z", Cond.methodLink RX2 17 yX2_findDistance, Cond.static yX2_findDistance, Cond.code yX2_findDistance cX2_findDistance 4 (some .int), Cond.methodLink RX2 21 Lib.Math.min.name, Cond.static Lib.Math.min.name, Cond.initialized "java/lang/Math"]
def wsL_cost_r2 : List Cond := [Cond.code Lib.Math.min.name Lib.Math.min.code 2 (some .int)]
def wsL_cost : List Cond := .codeWith yL_cost cL_cost 4 (some .int) [(0, 9, 12, 13)] :: ((wsL_cost_r1 ++ wsL_cost_r2) ++ wsX100 ++ wsX20 ++ (vx_atS RX10 87 "java/lang/IllegalArgumentException" ["java/lang/RuntimeException", "java/lang/Exception"]).filter goodWord)
def wsL_law0_r1 : List Cond := [Cond.classLink RL 8 RX10, Cond.instantiable RX10 10, Cond.initialized RX10, Cond.classLink RL 46 RX11, Cond.instantiable RX11 37, Cond.initialized RX11, Cond.arrayClass .long, Cond.methodLink RL 45 yX10_init, Cond.instanceMethod yX10_init, Cond.code yX10_init cX10_init 1 none, Cond.methodLink RX10 1 objectInit, Cond.instanceMethod objectInit, Cond.code objectInit ⟨#[0xb1]⟩ 1 none, Cond.classLink RX10 7 RX9, Cond.instantiable RX9 7, Cond.initialized RX9, Cond.fieldLink RX10 10 "Phaselock" "transmitter" "LPhaselock$Transmitter;", Cond.classLink RX10 16 RX3, Cond.instantiable RX3 1, Cond.initialized RX3, Cond.fieldLink RX10 19 "Phaselock" "memory" "LPhaselock$LineMemory;", Cond.classLink RX10 23 RX2, Cond.instantiable RX2 2, Cond.initialized RX2]
def wsL_law0_r2 : List Cond := [Cond.fieldLink RX10 26 "Phaselock" "edges" "LPhaselock$EdgeLog;", Cond.classLink RX10 30 RX5, Cond.instantiable RX5 1, Cond.initialized RX5, Cond.fieldLink RX10 33 "Phaselock" "oscillator" "LPhaselock$Oscillator;", Cond.classLink RX10 37 RX6, Cond.instantiable RX6 7, Cond.initialized RX6, Cond.fieldLink RX10 40 "Phaselock" "detector" "LPhaselock$PhaseDetector;", Cond.classLink RX10 44 RX4, Cond.instantiable RX4 5, Cond.initialized RX4, Cond.fieldLink RX10 47 "Phaselock" "filter" "LPhaselock$LoopFilter;", Cond.classLink RX10 51 RX1, Cond.instantiable RX1 2, Cond.initialized RX1, Cond.fieldLink RX10 54 "Phaselock" "bits" "LPhaselock$BitLog;", Cond.classLink RX10 58 RX8, Cond.instantiable RX8 4, Cond.initialized RX8, Cond.fieldLink RX10 61 "Phaselock" "slips" "LPhaselock$SlipCounter;", Cond.classLink RX10 65 RX7, Cond.instantiable RX7 4, Cond.initialized RX7]
def wsL_law0_r3 : List Cond := [Cond.fieldLink RX10 68 "Phaselock" "phases" "LPhaselock$PhaseLog;", Cond.classLink RX10 72 RX0, Cond.instantiable RX0 6, Cond.initialized RX0, Cond.fieldLink RX10 75 "Phaselock" "aligner" "LPhaselock$Aligner;", Cond.instanceMethod yX9_init, Cond.code yX9_init cX9_init 1 none, Cond.methodLink RX9 3 objectInit, Cond.fieldLink RX9 9 "Phaselock$Transmitter" "phase" "I", Cond.fieldLink RX9 15 "Phaselock$Transmitter" "step" "I", Cond.fieldLink RX9 18 "Phaselock$Transmitter" "jitter" "I", Cond.fieldLink RX9 21 "Phaselock$Transmitter" "randomState" "J", Cond.fieldLink RX9 25 "Phaselock$Transmitter" "number" "I", Cond.fieldLink RX9 28 "Phaselock$Transmitter" "value" "I", Cond.fieldLink RX9 31 "Phaselock$Transmitter" "register" "I", Cond.instanceMethod yX3_init, Cond.code yX3_init cX3_init 1 none, Cond.methodLink RX3 1 objectInit, Cond.constant RX3 7 (65535), Cond.fieldLink RX3 8 "Phaselock$LineMemory" "values" "I", Cond.instanceMethod yX2_init, Cond.code yX2_init cX2_init 1 none, Cond.methodLink RX2 1 objectInit, Cond.fieldLink RX2 7 "Phaselock$EdgeLog" "ticks" "I"]
def wsL_law0_r4 : List Cond := [Cond.arrayClass .boolean, Cond.fieldLink RX2 13 "Phaselock$EdgeLog" "changed" "[Z", Cond.instanceMethod yX5_init, Cond.code yX5_init cX5_init 1 none, Cond.methodLink RX5 3 objectInit, Cond.fieldLink RX5 9 "Phaselock$Oscillator" "phase" "I", Cond.instanceMethod yX6_init, Cond.code yX6_init cX6_init 1 none, Cond.methodLink RX6 3 objectInit, Cond.fieldLink RX6 9 "Phaselock$PhaseDetector" "kind" "I", Cond.fieldLink RX6 15 "Phaselock$PhaseDetector" "edgeError" "I", Cond.fieldLink RX6 18 "Phaselock$PhaseDetector" "product" "I", Cond.fieldLink RX6 21 "Phaselock$PhaseDetector" "earlyValue" "I", Cond.fieldLink RX6 24 "Phaselock$PhaseDetector" "middleValue" "I", Cond.fieldLink RX6 27 "Phaselock$PhaseDetector" "middleLevel" "I", Cond.fieldLink RX6 30 "Phaselock$PhaseDetector" "dataLevel" "I", Cond.instanceMethod yX4_init, Cond.code yX4_init cX4_init 1 none, Cond.methodLink RX4 1 objectInit, Cond.fieldLink RX4 7 "Phaselock$LoopFilter" "proportionalGain" "I", Cond.fieldLink RX4 13 "Phaselock$LoopFilter" "integralGain" "I", Cond.fieldLink RX4 16 "Phaselock$LoopFilter" "error" "I", Cond.fieldLink RX4 19 "Phaselock$LoopFilter" "integral" "I", Cond.fieldLink RX4 22 "Phaselock$LoopFilter" "control" "I"]
def wsL_law0_r5 : List Cond := [Cond.instanceMethod yX1_init, Cond.code yX1_init cX1_init 1 none, Cond.methodLink RX1 3 objectInit, Cond.fieldLink RX1 9 "Phaselock$BitLog" "count" "I", Cond.fieldLink RX1 15 "Phaselock$BitLog" "latest32" "I", Cond.instanceMethod yX8_init, Cond.code yX8_init cX8_init 1 none, Cond.methodLink RX8 1 objectInit, Cond.fieldLink RX8 7 "Phaselock$SlipCounter" "repeated" "I", Cond.fieldLink RX8 13 "Phaselock$SlipCounter" "skipped" "I", Cond.fieldLink RX8 16 "Phaselock$SlipCounter" "hasStrobed" "Z", Cond.fieldLink RX8 20 "Phaselock$SlipCounter" "numberBefore" "I", Cond.instanceMethod yX7_init, Cond.code yX7_init cX7_init 1 none, Cond.methodLink RX7 3 objectInit, Cond.fieldLink RX7 9 "Phaselock$PhaseLog" "count" "I", Cond.fieldLink RX7 15 "Phaselock$PhaseLog" "latest" "I", Cond.fieldLink RX7 18 "Phaselock$PhaseLog" "steadyCount" "I", Cond.arrayClass .int, Cond.fieldLink RX7 21 "Phaselock$PhaseLog" "window" "[I", Cond.instanceMethod yX0_init, Cond.code yX0_init cX0_init 1 none, Cond.methodLink RX0 3 objectInit, Cond.fieldLink RX0 11 "Phaselock$Aligner" "state" "I"]
def wsL_law0_r6 : List Cond := [Cond.fieldLink RX0 15 "Phaselock$Aligner" "frames" "I", Cond.fieldLink RX0 18 "Phaselock$Aligner" "losses" "I", Cond.fieldLink RX0 21 "Phaselock$Aligner" "position" "I", Cond.fieldLink RX0 24 "Phaselock$Aligner" "matches" "I", Cond.fieldLink RX0 27 "Phaselock$Aligner" "misses" "I", Cond.methodLink RL 48 yX11_init, Cond.instanceMethod yX11_init, Cond.code yX11_init cX11_init 1 none, Cond.methodLink RX11 1 objectInit, Cond.fieldLink RX11 9 "PhaselockModel" "step" "I", Cond.fieldLink RX11 13 "PhaselockModel" "random" "J", Cond.fieldLink RX11 17 "PhaselockModel" "register" "I", Cond.fieldLink RX11 20 "PhaselockModel" "value" "I", Cond.constant RX11 23 (65535), Cond.fieldLink RX11 24 "PhaselockModel" "memory" "I", Cond.fieldLink RX11 27 "PhaselockModel" "areEdges" "[Z", Cond.fieldLink RX11 31 "PhaselockModel" "gainP" "I", Cond.fieldLink RX11 34 "PhaselockModel" "gainI" "I", Cond.fieldLink RX11 37 "PhaselockModel" "phases" "[I", Cond.methodLink RL 49 yL_setOffset, Cond.static yL_setOffset, Cond.initialized RL, Cond.codeWith yL_setOffset cL_setOffset 4 (some .int) [(0, 9, 12, 13)], Cond.classLink RL 13 "java/lang/IllegalArgumentException"]
def wsL_law0_r7 : List Cond := [Cond.methodLink RL 7 yX10_setOffset, Cond.instanceMethod yX10_setOffset, Cond.selects RX10 yX10_setOffset yX10_setOffset, Cond.code yX10_setOffset cX10_setOffset 2 (some .int), Cond.classLink RX10 83 "java/lang/IllegalArgumentException", Cond.initialized "java/lang/IllegalArgumentException", Cond.fieldLink RX10 90 "Phaselock$Transmitter" "step" "I", Cond.methodLink RX10 79 yX10_isWithin, Cond.static yX10_isWithin, Cond.code yX10_isWithin cX10_isWithin 3 (some .boolean), Cond.methodLink RL 54 yX11_setOffset, Cond.instanceMethod yX11_setOffset, Cond.selects RX11 yX11_setOffset yX11_setOffset, Cond.code yX11_setOffset cX11_setOffset 2 (some .int), Cond.methodLink RX11 44 yX11_in, Cond.static yX11_in, Cond.code yX11_in cX11_in 3 (some .boolean), Cond.methodLink RX11 48 yX11_holds, Cond.instanceMethod yX11_holds, Cond.selects RX11 yX11_holds yX11_holds, Cond.code yX11_holds cX11_holds 2 (some .boolean), Cond.fieldLink RX11 41 "PhaselockModel" "thrown" "I", Cond.methodLink RL 55 yX11_thrown, Cond.instanceMethod yX11_thrown]
def wsL_law0_r8 : List Cond := [Cond.selects RX11 yX11_thrown yX11_thrown, Cond.code yX11_thrown cX11_thrown 1 (some .int), Cond.methodLink RL 58 yL_setJitter, Cond.static yL_setJitter, Cond.codeWith yL_setJitter cL_setJitter 4 (some .int) [(0, 6, 9, 13)], Cond.methodLink RL 15 yX10_setJitter, Cond.instanceMethod yX10_setJitter, Cond.selects RX10 yX10_setJitter yX10_setJitter, Cond.code yX10_setJitter cX10_setJitter 3 none, Cond.fieldLink RX10 98 "Phaselock$Transmitter" "jitter" "I", Cond.fieldLink RX10 101 "Phaselock$Transmitter" "randomState" "J", Cond.methodLink RL 61 yX11_setJitter, Cond.instanceMethod yX11_setJitter, Cond.selects RX11 yX11_setJitter yX11_setJitter, Cond.code yX11_setJitter cX11_setJitter 3 none, Cond.fieldLink RX11 52 "PhaselockModel" "jitter" "I", Cond.methodLink RL 62 yL_setDetector, Cond.static yL_setDetector, Cond.codeWith yL_setDetector cL_setDetector 4 (some .int) [(0, 9, 12, 13)], Cond.methodLink RL 19 yX10_setDetector, Cond.instanceMethod yX10_setDetector, Cond.selects RX10 yX10_setDetector yX10_setDetector, Cond.code yX10_setDetector cX10_setDetector 3 (some .int), Cond.fieldLink RX10 107 "Phaselock$PhaseDetector" "kind" "I"]
def wsL_law0_r9 : List Cond := [Cond.methodLink RL 64 yX11_setDetector, Cond.instanceMethod yX11_setDetector, Cond.selects RX11 yX11_setDetector yX11_setDetector, Cond.code yX11_setDetector cX11_setDetector 3 (some .int), Cond.fieldLink RX11 55 "PhaselockModel" "detector" "I", Cond.methodLink RL 65 yL_setGains, Cond.static yL_setGains, Cond.codeWith yL_setGains cL_setGains 4 (some .int) [(0, 6, 9, 13)], Cond.methodLink RL 22 yX10_setGains, Cond.instanceMethod yX10_setGains, Cond.selects RX10 yX10_setGains yX10_setGains, Cond.code yX10_setGains cX10_setGains 3 none, Cond.fieldLink RX10 114 "Phaselock$LoopFilter" "proportionalGain" "I", Cond.fieldLink RX10 117 "Phaselock$LoopFilter" "integralGain" "I", Cond.methodLink RL 67 yX11_setGains, Cond.instanceMethod yX11_setGains, Cond.selects RX11 yX11_setGains yX11_setGains, Cond.code yX11_setGains cX11_setGains 3 none, Cond.methodLink RL 68 yL_setPhase, Cond.static yL_setPhase, Cond.codeWith yL_setPhase cL_setPhase 4 (some .int) [(0, 9, 12, 13)], Cond.methodLink RL 25 yX10_setPhase, Cond.instanceMethod yX10_setPhase, Cond.selects RX10 yX10_setPhase yX10_setPhase]
def wsL_law0_r10 : List Cond := [Cond.code yX10_setPhase cX10_setPhase 3 (some .int), Cond.constant RX10 120 (65535), Cond.fieldLink RX10 123 "Phaselock$Oscillator" "phase" "I", Cond.methodLink RL 70 yX11_setPhase, Cond.instanceMethod yX11_setPhase, Cond.selects RX11 yX11_setPhase yX11_setPhase, Cond.code yX11_setPhase cX11_setPhase 3 (some .int), Cond.fieldLink RX11 58 "PhaselockModel" "phase" "I", Cond.methodLink RL 71 yX10_release, Cond.instanceMethod yX10_release, Cond.selects RX10 yX10_release yX10_release, Cond.code yX10_release cX10_release 1 none, Cond.fieldLink RX10 126 "Phaselock$LoopFilter" "integral" "I", Cond.fieldLink RX10 129 "Phaselock$LoopFilter" "control" "I", Cond.methodLink RL 74 yX11_release, Cond.instanceMethod yX11_release, Cond.selects RX11 yX11_release yX11_release, Cond.code yX11_release cX11_release 1 none, Cond.fieldLink RX11 61 "PhaselockModel" "integral" "I", Cond.fieldLink RX11 64 "PhaselockModel" "control" "I", Cond.methodLink RL 75 yL_run, Cond.static yL_run, Cond.codeWith yL_run cL_run 4 (some .int) [(0, 9, 12, 13)], Cond.methodLink RL 28 yX10_run]
def wsL_law0_r11 : List Cond := [Cond.instanceMethod yX10_run, Cond.selects RX10 yX10_run yX10_run, Cond.code yX10_run cX10_run 4 (some .int), Cond.fieldLink RX10 134 "Phaselock$BitLog" "count" "I", Cond.methodLink RX10 137 yX10_passTick, Cond.instanceMethod yX10_passTick, Cond.selects RX10 yX10_passTick yX10_passTick, Cond.code yX10_passTick cX10_passTick 1 none, Cond.fieldLink RX10 146 "Phaselock$Transmitter" "value" "I", Cond.methodLink RX10 206 yX9_advance, Cond.instanceMethod yX9_advance, Cond.selects RX9 yX9_advance yX9_advance, Cond.code yX9_advance cX9_advance 1 none, Cond.constant RX9 38 (65536), Cond.methodLink RX9 34 yX9_drawDeviation, Cond.instanceMethod yX9_drawDeviation, Cond.selects RX9 yX9_drawDeviation yX9_drawDeviation, Cond.code yX9_drawDeviation cX9_drawDeviation 2 (some .int), Cond.constantLong RX9 42 (1103515245), Cond.constantLong RX9 44 (12345), Cond.constantLong RX9 46 (2147483648), Cond.constantLong RX9 48 (65536), Cond.methodLink RX9 39 yX9_sendNextBit, Cond.instanceMethod yX9_sendNextBit]
def wsL_law0_r12 : List Cond := [Cond.selects RX9 yX9_sendNextBit yX9_sendNextBit, Cond.code yX9_sendNextBit cX9_sendNextBit 2 none, Cond.methodLink RX9 50 yX9_shiftRegister, Cond.instanceMethod yX9_shiftRegister, Cond.selects RX9 yX9_shiftRegister yX9_shiftRegister, Cond.code yX9_shiftRegister cX9_shiftRegister 3 (some .int), Cond.methodLink RX10 209 yX3_remember, Cond.instanceMethod yX3_remember, Cond.selects RX3 yX3_remember yX3_remember, Cond.code yX3_remember cX3_remember 2 none, Cond.methodLink RX10 213 yX3_hasChangedSince, Cond.instanceMethod yX3_hasChangedSince, Cond.selects RX3 yX3_hasChangedSince yX3_hasChangedSince, Cond.code yX3_hasChangedSince cX3_hasChangedSince 2 (some .boolean), Cond.methodLink RX10 216 yX2_add, Cond.instanceMethod yX2_add, Cond.selects RX2 yX2_add yX2_add, Cond.code yX2_add cX2_add 2 none, Cond.methodLink RX10 220 yX6_watchLine, Cond.instanceMethod yX6_watchLine, Cond.selects RX6 yX6_watchLine yX6_watchLine, Cond.code yX6_watchLine cX6_watchLine 3 none, Cond.constant RX6 39 (32768), Cond.constant RX6 40 (49151)]
def wsL_law0_r13 : List Cond := [Cond.methodLink RX6 33 yX3_hasChangedSince, Cond.methodLink RX10 224 yX5_advance, Cond.instanceMethod yX5_advance, Cond.selects RX5 yX5_advance yX5_advance, Cond.code yX5_advance cX5_advance 3 (some .int), Cond.constant RX5 15 (65536), Cond.constant RX5 16 (49152), Cond.constant RX5 21 (32768), Cond.methodLink RX5 17 yX5_hasPassed, Cond.instanceMethod yX5_hasPassed, Cond.selects RX5 yX5_hasPassed yX5_hasPassed, Cond.code yX5_hasPassed cX5_hasPassed 3 (some .boolean), Cond.methodLink RX10 226 yX10_actOnStrobe, Cond.instanceMethod yX10_actOnStrobe, Cond.selects RX10 yX10_actOnStrobe yX10_actOnStrobe, Cond.code yX10_actOnStrobe cX10_actOnStrobe 2 none, Cond.methodLink RX10 149 yX3_findLevel, Cond.instanceMethod yX3_findLevel, Cond.selects RX3 yX3_findLevel yX3_findLevel, Cond.code yX3_findLevel cX3_findLevel 1 (some .int), Cond.methodLink RX3 14 yJ6_bitCount_0f7a4, Cond.static yJ6_bitCount_0f7a4, Cond.initialized RJ6, Cond.code yJ6_bitCount_0f7a4 cJ6_bitCount_0f7a4 1 (some .int)]
def wsL_law0_r14 : List Cond := [Cond.constant RJ6 265 (1431655765), Cond.constant RJ6 266 (858993459), Cond.constant RJ6 267 (252645135), Cond.methodLink RX10 229 yX6_measureLate, Cond.instanceMethod yX6_measureLate, Cond.selects RX6 yX6_measureLate yX6_measureLate, Cond.code yX6_measureLate cX6_measureLate 2 (some .int), Cond.methodLink RX6 45 Lib.Math.abs.name, Cond.static Lib.Math.abs.name, Cond.initialized "java/lang/Math", Cond.code Lib.Math.abs.name Lib.Math.abs.code 1 (some .int), Cond.methodLink RX10 232 yX4_takeError, Cond.instanceMethod yX4_takeError, Cond.selects RX4 yX4_takeError yX4_takeError, Cond.code yX4_takeError cX4_takeError 2 none, Cond.constant RX4 25 (262144), Cond.methodLink RX4 26 yX4_keepWithin, Cond.static yX4_keepWithin, Cond.code yX4_keepWithin cX4_keepWithin 2 (some .int), Cond.methodLink RX4 35 Lib.Math.min.name, Cond.static Lib.Math.min.name, Cond.code Lib.Math.min.name Lib.Math.min.code 2 (some .int), Cond.methodLink RX4 38 Lib.Math.max.name, Cond.static Lib.Math.max.name]
def wsL_law0_r15 : List Cond := [Cond.code Lib.Math.max.name Lib.Math.max.code 2 (some .int), Cond.methodLink RX4 30 yJ9_floorDiv_7cf53, Cond.static yJ9_floorDiv_7cf53, Cond.initialized RJ9, Cond.code yJ9_floorDiv_7cf53 cJ9_floorDiv_7cf53 3 (some .int), Cond.methodLink RX10 235 yX6_keepMiddle, Cond.instanceMethod yX6_keepMiddle, Cond.selects RX6 yX6_keepMiddle yX6_keepMiddle, Cond.code yX6_keepMiddle cX6_keepMiddle 3 none, Cond.methodLink RX10 239 yX6_keepEarly, Cond.instanceMethod yX6_keepEarly, Cond.selects RX6 yX6_keepEarly yX6_keepEarly, Cond.code yX6_keepEarly cX6_keepEarly 2 none, Cond.methodLink RX10 242 yX10_actOnDataStrobe, Cond.instanceMethod yX10_actOnDataStrobe, Cond.selects RX10 yX10_actOnDataStrobe yX10_actOnDataStrobe, Cond.code yX10_actOnDataStrobe cX10_actOnDataStrobe 4 none, Cond.fieldLink RX10 143 "Phaselock$Transmitter" "number" "I", Cond.fieldLink RX10 153 "Phaselock$Transmitter" "phase" "I", Cond.constant RX10 257 (32768), Cond.methodLink RX10 245 yX6_measureAtData, Cond.instanceMethod yX6_measureAtData, Cond.selects RX6 yX6_measureAtData yX6_measureAtData, Cond.code yX6_measureAtData cX6_measureAtData 4 (some .int)]
def wsL_law0_r16 : List Cond := [Cond.methodLink RX6 51 yX6_measureBangBang, Cond.instanceMethod yX6_measureBangBang, Cond.selects RX6 yX6_measureBangBang yX6_measureBangBang, Cond.code yX6_measureBangBang cX6_measureBangBang 4 (some .int), Cond.fieldLink RX6 55 "Phaselock$BitLog" "count" "I", Cond.methodLink RX6 60 yX1_findBit, Cond.instanceMethod yX1_findBit, Cond.selects RX1 yX1_findBit yX1_findBit, Cond.code yX1_findBit cX1_findBit 2 (some .int), Cond.methodLink RX10 249 yX6_finishBit, Cond.instanceMethod yX6_finishBit, Cond.selects RX6 yX6_finishBit yX6_finishBit, Cond.code yX6_finishBit cX6_finishBit 2 none, Cond.methodLink RX10 252 yX1_add, Cond.instanceMethod yX1_add, Cond.selects RX1 yX1_add yX1_add, Cond.code yX1_add cX1_add 2 none, Cond.methodLink RX10 254 yX8_compare, Cond.instanceMethod yX8_compare, Cond.selects RX8 yX8_compare yX8_compare, Cond.code yX8_compare cX8_compare 3 (some .boolean), Cond.methodLink RX10 258 yX7_add, Cond.instanceMethod yX7_add, Cond.selects RX7 yX7_add yX7_add]
def wsL_law0_r17 : List Cond := [Cond.code yX7_add cX7_add 4 none, Cond.methodLink RX10 261 yX1_endsWithSyncWord, Cond.instanceMethod yX1_endsWithSyncWord, Cond.selects RX1 yX1_endsWithSyncWord yX1_endsWithSyncWord, Cond.code yX1_endsWithSyncWord cX1_endsWithSyncWord 1 (some .boolean), Cond.methodLink RX10 264 yX0_take, Cond.instanceMethod yX0_take, Cond.selects RX0 yX0_take yX0_take, Cond.code yX0_take cX0_take 2 none, Cond.methodLink RX0 30 yX0_verify, Cond.instanceMethod yX0_verify, Cond.selects RX0 yX0_verify yX0_verify, Cond.code yX0_verify cX0_verify 2 none, Cond.methodLink RX0 34 yX0_watchSync, Cond.instanceMethod yX0_watchSync, Cond.selects RX0 yX0_watchSync yX0_watchSync, Cond.code yX0_watchSync cX0_watchSync 2 none, Cond.methodLink RL 77 yX11_run, Cond.instanceMethod yX11_run, Cond.selects RX11 yX11_run yX11_run, Cond.code yX11_run cX11_run 4 (some .int), Cond.fieldLink RX11 99 "PhaselockModel" "received" "I", Cond.methodLink RX11 180 yX11_passes, Cond.instanceMethod yX11_passes]
def wsL_law0_r18 : List Cond := [Cond.selects RX11 yX11_passes yX11_passes, Cond.code yX11_passes cX11_passes 2 none, Cond.fieldLink RX11 93 "PhaselockModel" "ticks" "I", Cond.constant RX11 133 (32768), Cond.fieldLink RX11 105 "PhaselockModel" "edgeError" "I", Cond.fieldLink RX11 108 "PhaselockModel" "product" "I", Cond.constant RX11 176 (49151), Cond.methodLink RX11 173 yX11_transmits, Cond.instanceMethod yX11_transmits, Cond.selects RX11 yX11_transmits yX11_transmits, Cond.code yX11_transmits cX11_transmits 2 none, Cond.constantLong RX11 78 (1103515245), Cond.constantLong RX11 80 (12345), Cond.constantLong RX11 82 (2147483648), Cond.constantLong RX11 84 (65536), Cond.fieldLink RX11 86 "PhaselockModel" "senderPhase" "I", Cond.constant RX11 89 (65536), Cond.methodLink RX11 90 yX11_sends, Cond.instanceMethod yX11_sends, Cond.selects RX11 yX11_sends yX11_sends, Cond.code yX11_sends cX11_sends 2 none, Cond.fieldLink RX11 75 "PhaselockModel" "sent" "I", Cond.methodLink RX11 177 yX11_strobes, Cond.instanceMethod yX11_strobes]
def wsL_law0_r19 : List Cond := [Cond.selects RX11 yX11_strobes yX11_strobes, Cond.code yX11_strobes cX11_strobes 2 none, Cond.fieldLink RX11 162 "PhaselockModel" "earlyValue" "I", Cond.fieldLink RX11 102 "PhaselockModel" "middleValue" "I", Cond.fieldLink RX11 111 "PhaselockModel" "middleLevel" "I", Cond.constant RX11 169 (49152), Cond.methodLink RX11 114 yX11_levelNow, Cond.instanceMethod yX11_levelNow, Cond.selects RX11 yX11_levelNow yX11_levelNow, Cond.code yX11_levelNow cX11_levelNow 3 (some .int), Cond.methodLink RX11 165 yX11_size, Cond.static yX11_size, Cond.code yX11_size cX11_size 1 (some .int), Cond.methodLink RX11 137 yX11_measures, Cond.instanceMethod yX11_measures, Cond.selects RX11 yX11_measures yX11_measures, Cond.code yX11_measures cX11_measures 2 none, Cond.fieldLink RX11 67 "PhaselockModel" "error" "I", Cond.constant RX11 70 (262144), Cond.methodLink RX11 71 yX11_kept, Cond.static yX11_kept, Cond.code yX11_kept cX11_kept 2 (some .int), Cond.methodLink RX11 170 yX11_receives, Cond.instanceMethod yX11_receives]
def wsL_law0_r20 : List Cond := [Cond.selects RX11 yX11_receives yX11_receives, Cond.code yX11_receives cX11_receives 3 none, Cond.fieldLink RX11 121 "PhaselockModel" "sentBefore" "I", Cond.fieldLink RX11 124 "PhaselockModel" "repeated" "I", Cond.fieldLink RX11 127 "PhaselockModel" "skipped" "I", Cond.fieldLink RX11 130 "PhaselockModel" "slips" "I", Cond.fieldLink RX11 96 "PhaselockModel" "bits" "I", Cond.fieldLink RX11 118 "PhaselockModel" "keptLevel" "I", Cond.methodLink RX11 134 yX11_measured, Cond.instanceMethod yX11_measured, Cond.selects RX11 yX11_measured yX11_measured, Cond.code yX11_measured cX11_measured 2 (some .int), Cond.methodLink RX11 141 yX11_aligns, Cond.instanceMethod yX11_aligns, Cond.selects RX11 yX11_aligns yX11_aligns, Cond.code yX11_aligns cX11_aligns 2 none, Cond.fieldLink RX11 144 "PhaselockModel" "sinceHunt" "I", Cond.fieldLink RX11 147 "PhaselockModel" "alignment" "I", Cond.fieldLink RX11 150 "PhaselockModel" "matches" "I", Cond.fieldLink RX11 153 "PhaselockModel" "misses" "I", Cond.fieldLink RX11 156 "PhaselockModel" "frames" "I", Cond.fieldLink RX11 159 "PhaselockModel" "losses" "I", Cond.methodLink RL 78 yX10_ticks, Cond.instanceMethod yX10_ticks]
def wsL_law0_r21 : List Cond := [Cond.selects RX10 yX10_ticks yX10_ticks, Cond.code yX10_ticks cX10_ticks 1 (some .int), Cond.fieldLink RX10 140 "Phaselock$EdgeLog" "ticks" "I", Cond.methodLink RL 81 yX11_ticks, Cond.instanceMethod yX11_ticks, Cond.selects RX11 yX11_ticks yX11_ticks, Cond.code yX11_ticks cX11_ticks 1 (some .int), Cond.methodLink RL 82 yX10_sent, Cond.instanceMethod yX10_sent, Cond.selects RX10 yX10_sent yX10_sent, Cond.code yX10_sent cX10_sent 1 (some .int), Cond.methodLink RL 85 yX11_sent, Cond.instanceMethod yX11_sent, Cond.selects RX11 yX11_sent yX11_sent, Cond.code yX11_sent cX11_sent 1 (some .int), Cond.methodLink RL 86 yX10_line, Cond.instanceMethod yX10_line, Cond.selects RX10 yX10_line yX10_line, Cond.code yX10_line cX10_line 1 (some .int), Cond.methodLink RL 89 yX11_line, Cond.instanceMethod yX11_line, Cond.selects RX11 yX11_line yX11_line, Cond.code yX11_line cX11_line 1 (some .int), Cond.methodLink RL 90 yX10_level]
def wsL_law0_r22 : List Cond := [Cond.instanceMethod yX10_level, Cond.selects RX10 yX10_level yX10_level, Cond.code yX10_level cX10_level 1 (some .int), Cond.methodLink RL 93 yX11_level, Cond.instanceMethod yX11_level, Cond.selects RX11 yX11_level yX11_level, Cond.code yX11_level cX11_level 1 (some .int), Cond.methodLink RL 94 yX10_sender, Cond.instanceMethod yX10_sender, Cond.selects RX10 yX10_sender yX10_sender, Cond.code yX10_sender cX10_sender 1 (some .int), Cond.methodLink RL 97 yX11_sender, Cond.instanceMethod yX11_sender, Cond.selects RX11 yX11_sender yX11_sender, Cond.code yX11_sender cX11_sender 1 (some .int), Cond.methodLink RL 98 yX10_receiver, Cond.instanceMethod yX10_receiver, Cond.selects RX10 yX10_receiver yX10_receiver, Cond.code yX10_receiver cX10_receiver 1 (some .int), Cond.methodLink RL 101 yX11_receiver, Cond.instanceMethod yX11_receiver, Cond.selects RX11 yX11_receiver yX11_receiver, Cond.code yX11_receiver cX11_receiver 1 (some .int), Cond.methodLink RL 102 yX10_error]
def wsL_law0_r23 : List Cond := [Cond.instanceMethod yX10_error, Cond.selects RX10 yX10_error yX10_error, Cond.code yX10_error cX10_error 1 (some .int), Cond.fieldLink RX10 154 "Phaselock$LoopFilter" "error" "I", Cond.methodLink RL 105 yX11_error, Cond.instanceMethod yX11_error, Cond.selects RX11 yX11_error yX11_error, Cond.code yX11_error cX11_error 1 (some .int), Cond.methodLink RL 106 yX10_integral, Cond.instanceMethod yX10_integral, Cond.selects RX10 yX10_integral yX10_integral, Cond.code yX10_integral cX10_integral 1 (some .int), Cond.methodLink RL 109 yX11_integral, Cond.instanceMethod yX11_integral, Cond.selects RX11 yX11_integral yX11_integral, Cond.code yX11_integral cX11_integral 1 (some .int), Cond.methodLink RL 110 yX10_control, Cond.instanceMethod yX10_control, Cond.selects RX10 yX10_control yX10_control, Cond.code yX10_control cX10_control 1 (some .int), Cond.methodLink RL 113 yX11_control, Cond.instanceMethod yX11_control, Cond.selects RX11 yX11_control yX11_control, Cond.code yX11_control cX11_control 1 (some .int)]
def wsL_law0_r24 : List Cond := [Cond.methodLink RL 114 yX10_received, Cond.instanceMethod yX10_received, Cond.selects RX10 yX10_received yX10_received, Cond.code yX10_received cX10_received 1 (some .int), Cond.methodLink RL 117 yX11_received, Cond.instanceMethod yX11_received, Cond.selects RX11 yX11_received yX11_received, Cond.code yX11_received cX11_received 1 (some .int), Cond.methodLink RL 118 yL_bit, Cond.static yL_bit, Cond.codeWith yL_bit cL_bit 4 (some .int) [(0, 9, 12, 34)], Cond.classLink RL 34 "java/lang/IndexOutOfBoundsException", Cond.methodLink RL 31 yX10_bit, Cond.instanceMethod yX10_bit, Cond.selects RX10 yX10_bit yX10_bit, Cond.code yX10_bit cX10_bit 2 (some .int), Cond.classLink RX10 161 "java/lang/IndexOutOfBoundsException", Cond.initialized "java/lang/IndexOutOfBoundsException", Cond.methodLink RX10 157 yX1_remembers, Cond.instanceMethod yX1_remembers, Cond.selects RX1 yX1_remembers yX1_remembers, Cond.code yX1_remembers cX1_remembers 2 (some .boolean), Cond.methodLink RX1 18 Lib.Math.min.name, Cond.methodLink RX10 166 yX1_findBit]
def wsL_law0_r25 : List Cond := [Cond.methodLink RL 120 yX11_bit, Cond.instanceMethod yX11_bit, Cond.selects RX11 yX11_bit yX11_bit, Cond.code yX11_bit cX11_bit 2 (some .int), Cond.methodLink RX11 183 yX11_recent, Cond.instanceMethod yX11_recent, Cond.selects RX11 yX11_recent yX11_recent, Cond.code yX11_recent cX11_recent 1 (some .int), Cond.methodLink RL 121 yL_phase, Cond.static yL_phase, Cond.codeWith yL_phase cL_phase 3 (some .int) [(0, 8, 11, 40)], Cond.classLink RL 40 "java/lang/IllegalStateException", Cond.methodLink RL 36 yX10_phase, Cond.instanceMethod yX10_phase, Cond.selects RX10 yX10_phase yX10_phase, Cond.code yX10_phase cX10_phase 1 (some .int), Cond.classLink RX10 171 "java/lang/IllegalStateException", Cond.initialized "java/lang/IllegalStateException", Cond.fieldLink RX10 170 "Phaselock$PhaseLog" "count" "I", Cond.fieldLink RX10 176 "Phaselock$PhaseLog" "latest" "I", Cond.methodLink RL 124 yX11_phase, Cond.instanceMethod yX11_phase, Cond.selects RX11 yX11_phase yX11_phase, Cond.code yX11_phase cX11_phase 1 (some .int)]
def wsL_law0_r26 : List Cond := [Cond.methodLink RL 125 yX10_repeated, Cond.instanceMethod yX10_repeated, Cond.selects RX10 yX10_repeated yX10_repeated, Cond.code yX10_repeated cX10_repeated 1 (some .int), Cond.fieldLink RX10 179 "Phaselock$SlipCounter" "repeated" "I", Cond.methodLink RL 128 yX11_repeated, Cond.instanceMethod yX11_repeated, Cond.selects RX11 yX11_repeated yX11_repeated, Cond.code yX11_repeated cX11_repeated 1 (some .int), Cond.methodLink RL 129 yX10_skipped, Cond.instanceMethod yX10_skipped, Cond.selects RX10 yX10_skipped yX10_skipped, Cond.code yX10_skipped cX10_skipped 1 (some .int), Cond.fieldLink RX10 182 "Phaselock$SlipCounter" "skipped" "I", Cond.methodLink RL 132 yX11_skipped, Cond.instanceMethod yX11_skipped, Cond.selects RX11 yX11_skipped yX11_skipped, Cond.code yX11_skipped cX11_skipped 1 (some .int), Cond.methodLink RL 133 yX10_isLocked, Cond.instanceMethod yX10_isLocked, Cond.selects RX10 yX10_isLocked yX10_isLocked, Cond.code yX10_isLocked cX10_isLocked 1 (some .boolean), Cond.methodLink RX10 185 yX7_isSteady, Cond.instanceMethod yX7_isSteady]
def wsL_law0_r27 : List Cond := [Cond.selects RX7 yX7_isSteady yX7_isSteady, Cond.code yX7_isSteady cX7_isSteady 1 (some .boolean), Cond.methodLink RL 137 yX11_isLocked, Cond.instanceMethod yX11_isLocked, Cond.selects RX11 yX11_isLocked yX11_isLocked, Cond.code yX11_isLocked cX11_isLocked 3 (some .boolean), Cond.methodLink RL 138 yX10_wander, Cond.instanceMethod yX10_wander, Cond.selects RX10 yX10_wander yX10_wander, Cond.code yX10_wander cX10_wander 1 (some .int), Cond.methodLink RX10 189 yX7_sumAbsolutes, Cond.instanceMethod yX7_sumAbsolutes, Cond.selects RX7 yX7_sumAbsolutes yX7_sumAbsolutes, Cond.code yX7_sumAbsolutes cX7_sumAbsolutes 3 (some .int), Cond.methodLink RX7 29 Lib.Math.abs.name, Cond.methodLink RL 141 yX11_wander, Cond.instanceMethod yX11_wander, Cond.selects RX11 yX11_wander yX11_wander, Cond.code yX11_wander cX11_wander 3 (some .int), Cond.methodLink RL 142 yX10_alignment, Cond.instanceMethod yX10_alignment, Cond.selects RX10 yX10_alignment yX10_alignment, Cond.code yX10_alignment cX10_alignment 1 (some .int), Cond.fieldLink RX10 192 "Phaselock$Aligner" "state" "I"]
def wsL_law0_r28 : List Cond := [Cond.methodLink RL 145 yX11_alignment, Cond.instanceMethod yX11_alignment, Cond.selects RX11 yX11_alignment yX11_alignment, Cond.code yX11_alignment cX11_alignment 1 (some .int), Cond.methodLink RL 146 yX10_frames, Cond.instanceMethod yX10_frames, Cond.selects RX10 yX10_frames yX10_frames, Cond.code yX10_frames cX10_frames 1 (some .int), Cond.fieldLink RX10 195 "Phaselock$Aligner" "frames" "I", Cond.methodLink RL 149 yX11_frames, Cond.instanceMethod yX11_frames, Cond.selects RX11 yX11_frames yX11_frames, Cond.code yX11_frames cX11_frames 1 (some .int), Cond.methodLink RL 150 yX10_losses, Cond.instanceMethod yX10_losses, Cond.selects RX10 yX10_losses yX10_losses, Cond.code yX10_losses cX10_losses 1 (some .int), Cond.fieldLink RX10 198 "Phaselock$Aligner" "losses" "I", Cond.methodLink RL 153 yX11_losses, Cond.instanceMethod yX11_losses, Cond.selects RX11 yX11_losses yX11_losses, Cond.code yX11_losses cX11_losses 1 (some .int), Cond.methodLink RL 154 yX10_bestPhase, Cond.instanceMethod yX10_bestPhase]
def wsL_law0_r29 : List Cond := [Cond.selects RX10 yX10_bestPhase yX10_bestPhase, Cond.code yX10_bestPhase cX10_bestPhase 5 (some .int), Cond.methodLink RX10 201 yX2_sumCosts, Cond.instanceMethod yX2_sumCosts, Cond.selects RX2 yX2_sumCosts yX2_sumCosts, Cond.code yX2_sumCosts cX2_sumCosts 4 (some .int), Cond.methodLink RX2 17 yX2_findDistance, Cond.static yX2_findDistance, Cond.code yX2_findDistance cX2_findDistance 4 (some .int), Cond.methodLink RX2 21 Lib.Math.min.name, Cond.methodLink RL 157 yX11_bestPhase, Cond.instanceMethod yX11_bestPhase, Cond.selects RX11 yX11_bestPhase yX11_bestPhase, Cond.code yX11_bestPhase cX11_bestPhase 3 (some .int), Cond.methodLink RX11 186 yX11_costOf, Cond.instanceMethod yX11_costOf, Cond.selects RX11 yX11_costOf yX11_costOf, Cond.code yX11_costOf cX11_costOf 6 (some .int), Cond.methodLink RL 158 yL_cost, Cond.static yL_cost, Cond.codeWith yL_cost cL_cost 4 (some .int) [(0, 9, 12, 13)], Cond.methodLink RL 42 yX10_cost, Cond.instanceMethod yX10_cost, Cond.selects RX10 yX10_cost yX10_cost]
def wsL_law0_r30 : List Cond := [Cond.code yX10_cost cX10_cost 2 (some .int), Cond.methodLink RL 160 yX11_cost, Cond.instanceMethod yX11_cost, Cond.selects RX11 yX11_cost yX11_cost, Cond.code yX11_cost cX11_cost 2 (some .int)]
def wsL_law0 : List Cond := (wsL_law0_r1 ++ (wsL_law0_r2 ++ (wsL_law0_r3 ++ (wsL_law0_r4 ++ (wsL_law0_r5 ++ (wsL_law0_r6 ++ (wsL_law0_r7 ++ (wsL_law0_r8 ++ (wsL_law0_r9 ++ (wsL_law0_r10 ++ (wsL_law0_r11 ++ (wsL_law0_r12 ++ (wsL_law0_r13 ++ (wsL_law0_r14 ++ (wsL_law0_r15 ++ (wsL_law0_r16 ++ (wsL_law0_r17 ++ (wsL_law0_r18 ++ (wsL_law0_r19 ++ (wsL_law0_r20 ++ (wsL_law0_r21 ++ (wsL_law0_r22 ++ (wsL_law0_r23 ++ (wsL_law0_r24 ++ (wsL_law0_r25 ++ (wsL_law0_r26 ++ (wsL_law0_r27 ++ (wsL_law0_r28 ++ (wsL_law0_r29 ++ wsL_law0_r30))))))))))))))))))))))))))))) ++ wsX100 ++ wsX110 ++ wsX90 ++ wsX30 ++ wsX20 ++ wsX50 ++ wsX60 ++ wsX40 ++ wsX10 ++ wsX80 ++ wsX70 ++ wsX00 ++ ([] : List Cond)
def wsL_law : List Cond := wsL_law0 ++ (vx_atS RX10 87 "java/lang/IllegalArgumentException" ["java/lang/RuntimeException", "java/lang/Exception"]).filter goodWord ++ (vx_atS RX10 165 "java/lang/IndexOutOfBoundsException" ["java/lang/RuntimeException", "java/lang/Exception"]).filter goodWord ++ (vx_atS RX10 175 "java/lang/IllegalStateException" ["java/lang/RuntimeException", "java/lang/Exception"]).filter goodWord
end
section
theorem mem_r {big : List Cond} (ws : List Cond) (ps : List Nat) (hp : ws = ps.filterMap (fun i => big[i]?)) : ∀ w ∈ ws, w ∈ big := by
  intro w hw
  rw [hp] at hw
  obtain ⟨i, -, hi⟩ := List.mem_filterMap.mp hw
  exact List.mem_of_getElem? hi
theorem mem_ap {big a b : List Cond} (ha : ∀ w ∈ a, w ∈ big) (hb : ∀ w ∈ b, w ∈ big) : ∀ w ∈ a ++ b, w ∈ big := fun w h => (List.mem_append.mp h).elim (ha w) (hb w)
set_option maxRecDepth 20000 in
theorem wl_r1 : ∀ w ∈ wsL_law0_r1, w ∈ lw_tbl := mem_r _ [44, 45, 24, 726, 727, 35, 1027, 46, 47, 48, 49, 50, 51, 52, 53, 25, 265, 86, 87, 26, 266, 97, 98, 27] (by decide +kernel)
set_option maxRecDepth 20000 in
theorem wl_r2 : ∀ w ∈ wsL_law0_r2, w ∈ lw_tbl := mem_r _ [267, 112, 113, 28, 268, 123, 124, 29, 269, 152, 153, 30, 270, 179, 180, 31, 271, 194, 195, 32, 272, 215, 216, 33] (by decide +kernel)
set_option maxRecDepth 20000 in
theorem wl_r3 : ∀ w ∈ wsL_law0_r3, w ∈ lw_tbl := mem_r _ [273, 237, 238, 34, 274, 55, 56, 57, 58, 60, 62, 64, 66, 68, 70, 89, 90, 91, 92, 93, 100, 101, 102, 103] (by decide +kernel)
set_option maxRecDepth 20000 in
theorem wl_r4 : ∀ w ∈ wsL_law0_r4, w ∈ lw_tbl := mem_r _ [111, 105, 115, 116, 117, 118, 126, 127, 128, 129, 131, 132, 133, 134, 135, 136, 155, 156, 157, 158, 160, 162, 164, 166] (by decide +kernel)
set_option maxRecDepth 20000 in
theorem wl_r5 : ∀ w ∈ wsL_law0_r5, w ∈ lw_tbl := mem_r _ [182, 183, 184, 185, 188, 197, 198, 199, 200, 202, 204, 205, 218, 219, 220, 221, 223, 225, 236, 226, 240, 241, 242, 243] (by decide +kernel)
set_option maxRecDepth 20000 in
theorem wl_r6 : ∀ w ∈ wsL_law0_r6, w ∈ lw_tbl := mem_r _ [245, 247, 249, 250, 251, 728, 729, 730, 731, 735, 737, 739, 740, 732, 741, 743, 749, 750, 763, 403, 404, 23, 405, 406] (by decide +kernel)
set_option maxRecDepth 20000 in
theorem wl_r7 : ∀ w ∈ wsL_law0_r7, w ∈ lw_tbl := mem_r _ [407, 408, 409, 410, 414, 39, 61, 411, 412, 413, 849, 850, 851, 852, 853, 854, 855, 856, 858, 11, 859, 733, 845, 846] (by decide +kernel)
set_option maxRecDepth 20000 in
theorem wl_r8 : ∀ w ∈ wsL_law0_r8, w ∈ lw_tbl := mem_r _ [847, 848, 482, 483, 484, 485, 486, 487, 488, 63, 65, 860, 861, 862, 863, 736, 491, 492, 493, 494, 495, 496, 497, 130] (by decide +kernel)
set_option maxRecDepth 20000 in
theorem wl_r9 : ∀ w ∈ wsL_law0_r9, w ∈ lw_tbl := mem_r _ [864, 865, 866, 867, 748, 499, 500, 501, 502, 503, 504, 505, 159, 161, 868, 869, 870, 871, 508, 509, 510, 511, 512, 513] (by decide +kernel)
set_option maxRecDepth 20000 in
theorem wl_r10 : ∀ w ∈ wsL_law0_r10, w ∈ lw_tbl := mem_r _ [514, 515, 119, 872, 873, 874, 875, 744, 296, 297, 298, 299, 165, 167, 876, 877, 878, 879, 746, 745, 517, 518, 519, 520] (by decide +kernel)
set_option maxRecDepth 20000 in
theorem wl_r11 : ∀ w ∈ wsL_law0_r11, w ∈ lw_tbl := mem_r _ [521, 522, 523, 187, 525, 527, 1, 528, 69, 529, 530, 531, 532, 541, 533, 535, 2, 536, 537, 538, 539, 540, 542, 544] (by decide +kernel)
set_option maxRecDepth 20000 in
theorem wl_r12 : ∀ w ∈ wsL_law0_r12, w ∈ lw_tbl := mem_r _ [3, 545, 546, 548, 4, 549, 550, 551, 552, 553, 554, 555, 556, 557, 558, 559, 560, 561, 562, 563, 564, 565, 567, 568] (by decide +kernel)
set_option maxRecDepth 20000 in
theorem wl_r13 : ∀ w ∈ wsL_law0_r13, w ∈ lw_tbl := mem_r _ [566, 570, 571, 572, 573, 574, 575, 580, 576, 578, 5, 579, 581, 583, 6, 584, 316, 317, 318, 319, 320, 321, 40, 322] (by decide +kernel)
set_option maxRecDepth 20000 in
theorem wl_r14 : ∀ w ∈ wsL_law0_r14, w ∈ lw_tbl := mem_r _ [323, 324, 325, 585, 586, 587, 588, 589, 375, 41, 376, 590, 591, 592, 593, 594, 595, 596, 597, 598, 401, 402, 599, 600] (by decide +kernel)
set_option maxRecDepth 20000 in
theorem wl_r15 : ∀ w ∈ wsL_law0_r15, w ∈ lw_tbl := mem_r _ [601, 602, 603, 41, 604, 605, 606, 607, 608, 609, 610, 611, 612, 613, 615, 7, 616, 67, 59, 641, 617, 618, 619, 620] (by decide +kernel)
set_option maxRecDepth 20000 in
theorem wl_r16 : ∀ w ∈ wsL_law0_r16, w ∈ lw_tbl := mem_r _ [621, 623, 8, 624, 186, 625, 626, 627, 628, 629, 630, 631, 632, 633, 634, 635, 636, 637, 638, 639, 640, 642, 643, 644] (by decide +kernel)
set_option maxRecDepth 20000 in
theorem wl_r17 : ∀ w ∈ wsL_law0_r17, w ∈ lw_tbl := mem_r _ [645, 647, 648, 649, 650, 651, 652, 653, 654, 655, 657, 9, 658, 659, 661, 10, 662, 880, 881, 882, 883, 757, 884, 886] (by decide +kernel)
set_option maxRecDepth 20000 in
theorem wl_r18 : ∀ w ∈ wsL_law0_r18, w ∈ lw_tbl := mem_r _ [12, 887, 742, 901, 751, 752, 902, 888, 890, 13, 891, 892, 893, 894, 895, 734, 896, 897, 899, 14, 900, 738, 903, 905] (by decide +kernel)
set_option maxRecDepth 20000 in
theorem wl_r19 : ∀ w ∈ wsL_law0_r19, w ∈ lw_tbl := mem_r _ [15, 906, 753, 754, 755, 922, 907, 909, 16, 910, 911, 912, 913, 914, 916, 17, 917, 747, 918, 919, 920, 921, 923, 925] (by decide +kernel)
set_option maxRecDepth 20000 in
theorem wl_r20 : ∀ w ∈ wsL_law0_r20, w ∈ lw_tbl := mem_r _ [18, 926, 759, 760, 761, 762, 758, 756, 927, 929, 19, 930, 931, 933, 20, 934, 765, 764, 766, 767, 768, 769, 300, 301] (by decide +kernel)
set_option maxRecDepth 20000 in
theorem wl_r21 : ∀ w ∈ wsL_law0_r21, w ∈ lw_tbl := mem_r _ [302, 303, 104, 935, 936, 937, 938, 304, 305, 306, 307, 939, 940, 941, 942, 308, 309, 310, 311, 943, 944, 945, 946, 312] (by decide +kernel)
set_option maxRecDepth 20000 in
theorem wl_r22 : ∀ w ∈ wsL_law0_r22, w ∈ lw_tbl := mem_r _ [313, 314, 315, 947, 948, 949, 950, 326, 327, 328, 329, 951, 952, 953, 954, 330, 331, 332, 333, 955, 956, 957, 958, 334] (by decide +kernel)
set_option maxRecDepth 20000 in
theorem wl_r23 : ∀ w ∈ wsL_law0_r23, w ∈ lw_tbl := mem_r _ [335, 336, 337, 163, 959, 960, 961, 962, 338, 339, 340, 341, 963, 964, 965, 966, 342, 343, 344, 345, 967, 968, 969, 970] (by decide +kernel)
set_option maxRecDepth 20000 in
theorem wl_r24 : ∀ w ∈ wsL_law0_r24, w ∈ lw_tbl := mem_r _ [346, 347, 348, 349, 971, 972, 973, 974, 663, 664, 665, 666, 667, 668, 669, 670, 677, 42, 671, 672, 673, 674, 675, 693] (by decide +kernel)
set_option maxRecDepth 20000 in
theorem wl_r25 : ∀ w ∈ wsL_law0_r25, w ∈ lw_tbl := mem_r _ [975, 976, 977, 978, 979, 981, 21, 982, 694, 695, 696, 697, 698, 699, 700, 701, 702, 43, 222, 224, 983, 984, 985, 986] (by decide +kernel)
set_option maxRecDepth 20000 in
theorem wl_r26 : ∀ w ∈ wsL_law0_r26, w ∈ lw_tbl := mem_r _ [350, 351, 352, 353, 201, 987, 988, 989, 990, 354, 355, 356, 357, 203, 991, 992, 993, 994, 358, 359, 360, 361, 362, 363] (by decide +kernel)
set_option maxRecDepth 20000 in
theorem wl_r27 : ∀ w ∈ wsL_law0_r27, w ∈ lw_tbl := mem_r _ [364, 365, 995, 996, 997, 998, 366, 367, 368, 369, 370, 371, 372, 373, 374, 999, 1000, 1001, 1002, 377, 378, 379, 380, 244] (by decide +kernel)
set_option maxRecDepth 20000 in
theorem wl_r28 : ∀ w ∈ wsL_law0_r28, w ∈ lw_tbl := mem_r _ [1003, 1004, 1005, 1006, 381, 382, 383, 384, 246, 1007, 1008, 1009, 1010, 385, 386, 387, 388, 248, 1011, 1012, 1013, 1014, 389, 390] (by decide +kernel)
set_option maxRecDepth 20000 in
theorem wl_r29 : ∀ w ∈ wsL_law0_r29, w ∈ lw_tbl := mem_r _ [391, 392, 393, 394, 395, 396, 397, 398, 399, 400, 1015, 1016, 1017, 1018, 1019, 1021, 22, 1022, 718, 719, 720, 721, 722, 723] (by decide +kernel)
set_option maxRecDepth 20000 in
theorem wl_r30 : ∀ w ∈ wsL_law0_r30, w ∈ lw_tbl := mem_r _ [724, 1023, 1024, 1025, 1026] (by decide +kernel)
set_option maxRecDepth 20000 in
theorem wl_X0 : ∀ w ∈ wsX00, w ∈ lw_tbl := mem_r _ [252, 254, 256, 258, 260, 262] (by decide +kernel)
set_option maxRecDepth 20000 in
theorem wl_X1 : ∀ w ∈ wsX10, w ∈ lw_tbl := mem_r _ [189, 191] (by decide +kernel)
set_option maxRecDepth 20000 in
theorem wl_X10 : ∀ w ∈ wsX100, w ∈ lw_tbl := mem_r _ [275, 277, 279, 281, 283, 285, 287, 289, 291, 293] (by decide +kernel)
set_option maxRecDepth 20000 in
theorem wl_X11 : ∀ w ∈ wsX110, w ∈ lw_tbl := mem_r _ [770, 772, 774, 776, 778, 780, 782, 784, 786, 788, 790, 792, 794, 796, 798, 800, 802, 804, 806, 808, 810, 812, 814, 816, 818, 820, 822, 824, 826, 828, 830, 832, 834, 836, 838, 840, 842] (by decide +kernel)
set_option maxRecDepth 20000 in
theorem wl_X2 : ∀ w ∈ wsX20, w ∈ lw_tbl := mem_r _ [106, 108] (by decide +kernel)
set_option maxRecDepth 20000 in
theorem wl_X3 : ∀ w ∈ wsX30, w ∈ lw_tbl := mem_r _ [94] (by decide +kernel)
set_option maxRecDepth 20000 in
theorem wl_X4 : ∀ w ∈ wsX40, w ∈ lw_tbl := mem_r _ [168, 170, 172, 174, 176] (by decide +kernel)
set_option maxRecDepth 20000 in
theorem wl_X5 : ∀ w ∈ wsX50, w ∈ lw_tbl := mem_r _ [120] (by decide +kernel)
set_option maxRecDepth 20000 in
theorem wl_X6 : ∀ w ∈ wsX60, w ∈ lw_tbl := mem_r _ [137, 139, 141, 143, 145, 147, 149] (by decide +kernel)
set_option maxRecDepth 20000 in
theorem wl_X7 : ∀ w ∈ wsX70, w ∈ lw_tbl := mem_r _ [227, 229, 231, 233] (by decide +kernel)
set_option maxRecDepth 20000 in
theorem wl_X8 : ∀ w ∈ wsX80, w ∈ lw_tbl := mem_r _ [206, 208, 210, 212] (by decide +kernel)
set_option maxRecDepth 20000 in
theorem wl_X9 : ∀ w ∈ wsX90, w ∈ lw_tbl := mem_r _ [71, 73, 75, 77, 79, 81, 83] (by decide +kernel)
theorem wsL_law_in0 : ∀ w ∈ wsL_law0, w ∈ lw_tbl := mem_ap (mem_ap (mem_ap (mem_ap (mem_ap (mem_ap (mem_ap (mem_ap (mem_ap (mem_ap (mem_ap (mem_ap (mem_ap (mem_ap (wl_r1) (mem_ap (wl_r2) (mem_ap (wl_r3) (mem_ap (wl_r4) (mem_ap (wl_r5) (mem_ap (wl_r6) (mem_ap (wl_r7) (mem_ap (wl_r8) (mem_ap (wl_r9) (mem_ap (wl_r10) (mem_ap (wl_r11) (mem_ap (wl_r12) (mem_ap (wl_r13) (mem_ap (wl_r14) (mem_ap (wl_r15) (mem_ap (wl_r16) (mem_ap (wl_r17) (mem_ap (wl_r18) (mem_ap (wl_r19) (mem_ap (wl_r20) (mem_ap (wl_r21) (mem_ap (wl_r22) (mem_ap (wl_r23) (mem_ap (wl_r24) (mem_ap (wl_r25) (mem_ap (wl_r26) (mem_ap (wl_r27) (mem_ap (wl_r28) (mem_ap (wl_r29) (wl_r30)))))))))))))))))))))))))))))) (wl_X10)) (wl_X11)) (wl_X9)) (wl_X3)) (wl_X2)) (wl_X5)) (wl_X6)) (wl_X4)) (wl_X1)) (wl_X8)) (wl_X7)) (wl_X0)) (fun _ h => nomatch h)
theorem wsL_law_x0 : ∀ w ∈ (vx_atS RX10 87 "java/lang/IllegalArgumentException" ["java/lang/RuntimeException", "java/lang/Exception"]).filter goodWord, w ∈ lw_tbl := by decide +kernel
theorem wsL_law_x1 : ∀ w ∈ (vx_atS RX10 165 "java/lang/IndexOutOfBoundsException" ["java/lang/RuntimeException", "java/lang/Exception"]).filter goodWord, w ∈ lw_tbl := by decide +kernel
theorem wsL_law_x2 : ∀ w ∈ (vx_atS RX10 175 "java/lang/IllegalStateException" ["java/lang/RuntimeException", "java/lang/Exception"]).filter goodWord, w ∈ lw_tbl := by decide +kernel
theorem wsL_law_in : ∀ w ∈ wsL_law, w ∈ lw_tbl := fun w h => (List.mem_append.mp h).elim (fun h => (List.mem_append.mp h).elim (fun h => (List.mem_append.mp h).elim (fun h => wsL_law_in0 w h) (fun h => wsL_law_x0 w h)) (fun h => wsL_law_x1 w h)) (fun h => wsL_law_x2 w h)
theorem inlX0 : ∀ w ∈ wsX00, w ∈ wsL_law := fun _ h => List.mem_append_left _ (List.mem_append_left _ (List.mem_append_left _ (List.mem_append_left _ (List.mem_append_right _ h))))
theorem inX0 : ∀ w ∈ wsX00, w ∈ lw_tbl := fun w h => wsL_law_in w (inlX0 w h)
theorem inlX1 : ∀ w ∈ wsX10, w ∈ wsL_law := fun _ h => List.mem_append_left _ (List.mem_append_left _ (List.mem_append_left _ (List.mem_append_left _ (List.mem_append_left _ (List.mem_append_left _ (List.mem_append_left _ (List.mem_append_right _ h)))))))
theorem inX1 : ∀ w ∈ wsX10, w ∈ lw_tbl := fun w h => wsL_law_in w (inlX1 w h)
theorem inlX2 : ∀ w ∈ wsX20, w ∈ wsL_law := fun _ h => List.mem_append_left _ (List.mem_append_left _ (List.mem_append_left _ (List.mem_append_left _ (List.mem_append_left _ (List.mem_append_left _ (List.mem_append_left _ (List.mem_append_left _ (List.mem_append_left _ (List.mem_append_left _ (List.mem_append_left _ (List.mem_append_right _ h)))))))))))
theorem inX2 : ∀ w ∈ wsX20, w ∈ lw_tbl := fun w h => wsL_law_in w (inlX2 w h)
theorem inlX3 : ∀ w ∈ wsX30, w ∈ wsL_law := fun _ h => List.mem_append_left _ (List.mem_append_left _ (List.mem_append_left _ (List.mem_append_left _ (List.mem_append_left _ (List.mem_append_left _ (List.mem_append_left _ (List.mem_append_left _ (List.mem_append_left _ (List.mem_append_left _ (List.mem_append_left _ (List.mem_append_left _ (List.mem_append_right _ h))))))))))))
theorem inX3 : ∀ w ∈ wsX30, w ∈ lw_tbl := fun w h => wsL_law_in w (inlX3 w h)
theorem inlX4 : ∀ w ∈ wsX40, w ∈ wsL_law := fun _ h => List.mem_append_left _ (List.mem_append_left _ (List.mem_append_left _ (List.mem_append_left _ (List.mem_append_left _ (List.mem_append_left _ (List.mem_append_left _ (List.mem_append_left _ (List.mem_append_right _ h))))))))
theorem inX4 : ∀ w ∈ wsX40, w ∈ lw_tbl := fun w h => wsL_law_in w (inlX4 w h)
theorem inlX5 : ∀ w ∈ wsX50, w ∈ wsL_law := fun _ h => List.mem_append_left _ (List.mem_append_left _ (List.mem_append_left _ (List.mem_append_left _ (List.mem_append_left _ (List.mem_append_left _ (List.mem_append_left _ (List.mem_append_left _ (List.mem_append_left _ (List.mem_append_left _ (List.mem_append_right _ h))))))))))
theorem inX5 : ∀ w ∈ wsX50, w ∈ lw_tbl := fun w h => wsL_law_in w (inlX5 w h)
theorem inlX6 : ∀ w ∈ wsX60, w ∈ wsL_law := fun _ h => List.mem_append_left _ (List.mem_append_left _ (List.mem_append_left _ (List.mem_append_left _ (List.mem_append_left _ (List.mem_append_left _ (List.mem_append_left _ (List.mem_append_left _ (List.mem_append_left _ (List.mem_append_right _ h)))))))))
theorem inX6 : ∀ w ∈ wsX60, w ∈ lw_tbl := fun w h => wsL_law_in w (inlX6 w h)
theorem inlX7 : ∀ w ∈ wsX70, w ∈ wsL_law := fun _ h => List.mem_append_left _ (List.mem_append_left _ (List.mem_append_left _ (List.mem_append_left _ (List.mem_append_left _ (List.mem_append_right _ h)))))
theorem inX7 : ∀ w ∈ wsX70, w ∈ lw_tbl := fun w h => wsL_law_in w (inlX7 w h)
theorem inlX8 : ∀ w ∈ wsX80, w ∈ wsL_law := fun _ h => List.mem_append_left _ (List.mem_append_left _ (List.mem_append_left _ (List.mem_append_left _ (List.mem_append_left _ (List.mem_append_left _ (List.mem_append_right _ h))))))
theorem inX8 : ∀ w ∈ wsX80, w ∈ lw_tbl := fun w h => wsL_law_in w (inlX8 w h)
theorem inlX9 : ∀ w ∈ wsX90, w ∈ wsL_law := fun _ h => List.mem_append_left _ (List.mem_append_left _ (List.mem_append_left _ (List.mem_append_left _ (List.mem_append_left _ (List.mem_append_left _ (List.mem_append_left _ (List.mem_append_left _ (List.mem_append_left _ (List.mem_append_left _ (List.mem_append_left _ (List.mem_append_left _ (List.mem_append_left _ (List.mem_append_right _ h)))))))))))))
theorem inX9 : ∀ w ∈ wsX90, w ∈ lw_tbl := fun w h => wsL_law_in w (inlX9 w h)
theorem inlX10 : ∀ w ∈ wsX100, w ∈ wsL_law := fun _ h => List.mem_append_left _ (List.mem_append_left _ (List.mem_append_left _ (List.mem_append_left _ (List.mem_append_left _ (List.mem_append_left _ (List.mem_append_left _ (List.mem_append_left _ (List.mem_append_left _ (List.mem_append_left _ (List.mem_append_left _ (List.mem_append_left _ (List.mem_append_left _ (List.mem_append_left _ (List.mem_append_left _ (List.mem_append_right _ h)))))))))))))))
theorem inX10 : ∀ w ∈ wsX100, w ∈ lw_tbl := fun w h => wsL_law_in w (inlX10 w h)
theorem inlX11 : ∀ w ∈ wsX110, w ∈ wsL_law := fun _ h => List.mem_append_left _ (List.mem_append_left _ (List.mem_append_left _ (List.mem_append_left _ (List.mem_append_left _ (List.mem_append_left _ (List.mem_append_left _ (List.mem_append_left _ (List.mem_append_left _ (List.mem_append_left _ (List.mem_append_left _ (List.mem_append_left _ (List.mem_append_left _ (List.mem_append_left _ (List.mem_append_right _ h))))))))))))))
theorem inX11 : ∀ w ∈ wsX110, w ∈ lw_tbl := fun w h => wsL_law_in w (inlX11 w h)
theorem inJ6 : ∀ w ∈ wsJ60, w ∈ lw_tbl := by decide +kernel
theorem inJ9 : ∀ w ∈ wsJ90, w ∈ lw_tbl := by decide +kernel
theorem inJ0 : ∀ w ∈ wsJ00, w ∈ lw_tbl := by decide +kernel
end
section
theorem dX0_init_0 : decode cX0_init 0 = .ok (.aload_n 0, 1) := by decide +kernel
theorem dX0_init_1 : decode cX0_init 1 = .ok (.invokespecial 3, 3) := by decide +kernel
theorem dX0_init_4 : decode cX0_init 4 = .ok (.aload_n 0, 1) := by decide +kernel
theorem dX0_init_5 : decode cX0_init 5 = .ok (.iconst 0, 1) := by decide +kernel
theorem dX0_init_6 : decode cX0_init 6 = .ok (.putfield 11, 3) := by decide +kernel
theorem dX0_init_9 : decode cX0_init 9 = .ok (.aload_n 0, 1) := by decide +kernel
theorem dX0_init_10 : decode cX0_init 10 = .ok (.iconst 0, 1) := by decide +kernel
theorem dX0_init_11 : decode cX0_init 11 = .ok (.putfield 15, 3) := by decide +kernel
theorem dX0_init_14 : decode cX0_init 14 = .ok (.aload_n 0, 1) := by decide +kernel
theorem dX0_init_15 : decode cX0_init 15 = .ok (.iconst 0, 1) := by decide +kernel
theorem dX0_init_16 : decode cX0_init 16 = .ok (.putfield 18, 3) := by decide +kernel
theorem dX0_init_19 : decode cX0_init 19 = .ok (.aload_n 0, 1) := by decide +kernel
theorem dX0_init_20 : decode cX0_init 20 = .ok (.iconst 0, 1) := by decide +kernel
theorem dX0_init_21 : decode cX0_init 21 = .ok (.putfield 21, 3) := by decide +kernel
theorem dX0_init_24 : decode cX0_init 24 = .ok (.aload_n 0, 1) := by decide +kernel
theorem dX0_init_25 : decode cX0_init 25 = .ok (.iconst 0, 1) := by decide +kernel
theorem dX0_init_26 : decode cX0_init 26 = .ok (.putfield 24, 3) := by decide +kernel
theorem dX0_init_29 : decode cX0_init 29 = .ok (.aload_n 0, 1) := by decide +kernel
theorem dX0_init_30 : decode cX0_init 30 = .ok (.iconst 0, 1) := by decide +kernel
theorem dX0_init_31 : decode cX0_init 31 = .ok (.putfield 27, 3) := by decide +kernel
theorem dX0_init_34 : decode cX0_init 34 = .ok (.return_, 1) := by decide +kernel
set_option maxRecDepth 20000 in
theorem ggX0_take_X0_verify : GoodIn wsX0_take wsX0_verify := goodIn_r _ [8, 1, 3, 9, 16, 17, 18, 19, 20, 21] (by decide +kernel) (by decide +kernel)
set_option maxRecDepth 20000 in
theorem gX0_take_X0_verify : GoodIn wsX0_take (wsV RX0 30 RX0 yX0_verify wsX0_verify) := goodIn_app (goodIn_of _ (by decide +kernel)) ggX0_take_X0_verify
set_option maxRecDepth 20000 in
theorem ggX0_take_X0_watchSync : GoodIn wsX0_take wsX0_watchSync := goodIn_r _ [13, 14, 9, 1, 15, 16, 17, 18, 19, 20, 21] (by decide +kernel) (by decide +kernel)
set_option maxRecDepth 20000 in
theorem gX0_take_X0_watchSync : GoodIn wsX0_take (wsV RX0 34 RX0 yX0_watchSync wsX0_watchSync) := goodIn_app (goodIn_of _ (by decide +kernel)) ggX0_take_X0_watchSync
theorem dX0_take_0 : decode cX0_take 0 = .ok (.aload_n 0, 1) := by decide +kernel
theorem dX0_take_1 : decode cX0_take 1 = .ok (.getfield 11, 3) := by decide +kernel
theorem dX0_take_4 : decode cX0_take 4 = .ok (.ifCond .ne 23, 3) := by decide +kernel
theorem dX0_take_7 : decode cX0_take 7 = .ok (.iload_n 1, 1) := by decide +kernel
theorem dX0_take_8 : decode cX0_take 8 = .ok (.ifCond .eq 18, 3) := by decide +kernel
theorem dX0_take_11 : decode cX0_take 11 = .ok (.aload_n 0, 1) := by decide +kernel
theorem dX0_take_12 : decode cX0_take 12 = .ok (.iconst 1, 1) := by decide +kernel
theorem dX0_take_13 : decode cX0_take 13 = .ok (.putfield 11, 3) := by decide +kernel
theorem dX0_take_16 : decode cX0_take 16 = .ok (.aload_n 0, 1) := by decide +kernel
theorem dX0_take_17 : decode cX0_take 17 = .ok (.iconst 0, 1) := by decide +kernel
theorem dX0_take_18 : decode cX0_take 18 = .ok (.putfield 21, 3) := by decide +kernel
theorem dX0_take_21 : decode cX0_take 21 = .ok (.aload_n 0, 1) := by decide +kernel
theorem dX0_take_22 : decode cX0_take 22 = .ok (.iconst 0, 1) := by decide +kernel
theorem dX0_take_23 : decode cX0_take 23 = .ok (.putfield 24, 3) := by decide +kernel
theorem dX0_take_26 : decode cX0_take 26 = .ok (.return_, 1) := by decide +kernel
theorem dX0_take_27 : decode cX0_take 27 = .ok (.aload_n 0, 1) := by decide +kernel
theorem dX0_take_28 : decode cX0_take 28 = .ok (.dup, 1) := by decide +kernel
theorem dX0_take_29 : decode cX0_take 29 = .ok (.getfield 21, 3) := by decide +kernel
theorem dX0_take_32 : decode cX0_take 32 = .ok (.iconst 1, 1) := by decide +kernel
theorem dX0_take_33 : decode cX0_take 33 = .ok (.iadd, 1) := by decide +kernel
theorem dX0_take_34 : decode cX0_take 34 = .ok (.putfield 21, 3) := by decide +kernel
theorem dX0_take_37 : decode cX0_take 37 = .ok (.aload_n 0, 1) := by decide +kernel
theorem dX0_take_38 : decode cX0_take 38 = .ok (.getfield 21, 3) := by decide +kernel
theorem dX0_take_41 : decode cX0_take 41 = .ok (.bipush 24, 2) := by decide +kernel
theorem dX0_take_43 : decode cX0_take 43 = .ok (.if_icmp .ge 4, 3) := by decide +kernel
theorem dX0_take_46 : decode cX0_take 46 = .ok (.return_, 1) := by decide +kernel
theorem dX0_take_47 : decode cX0_take 47 = .ok (.aload_n 0, 1) := by decide +kernel
theorem dX0_take_48 : decode cX0_take 48 = .ok (.iconst 0, 1) := by decide +kernel
theorem dX0_take_49 : decode cX0_take 49 = .ok (.putfield 21, 3) := by decide +kernel
theorem dX0_take_52 : decode cX0_take 52 = .ok (.aload_n 0, 1) := by decide +kernel
theorem dX0_take_53 : decode cX0_take 53 = .ok (.getfield 11, 3) := by decide +kernel
theorem dX0_take_56 : decode cX0_take 56 = .ok (.iconst 1, 1) := by decide +kernel
theorem dX0_take_57 : decode cX0_take 57 = .ok (.if_icmp .ne 11, 3) := by decide +kernel
theorem dX0_take_60 : decode cX0_take 60 = .ok (.aload_n 0, 1) := by decide +kernel
theorem dX0_take_61 : decode cX0_take 61 = .ok (.iload_n 1, 1) := by decide +kernel
theorem dX0_take_62 : decode cX0_take 62 = .ok (.invokevirtual 30, 3) := by decide +kernel
theorem dX0_take_65 : decode cX0_take 65 = .ok (.goto 8, 3) := by decide +kernel
theorem dX0_take_68 : decode cX0_take 68 = .ok (.aload_n 0, 1) := by decide +kernel
theorem dX0_take_69 : decode cX0_take 69 = .ok (.iload_n 1, 1) := by decide +kernel
theorem dX0_take_70 : decode cX0_take 70 = .ok (.invokevirtual 34, 3) := by decide +kernel
theorem dX0_take_73 : decode cX0_take 73 = .ok (.return_, 1) := by decide +kernel
theorem dX0_verify_0 : decode cX0_verify 0 = .ok (.iload_n 1, 1) := by decide +kernel
theorem dX0_verify_1 : decode cX0_verify 1 = .ok (.ifCond .ne 9, 3) := by decide +kernel
theorem dX0_verify_4 : decode cX0_verify 4 = .ok (.aload_n 0, 1) := by decide +kernel
theorem dX0_verify_5 : decode cX0_verify 5 = .ok (.iconst 0, 1) := by decide +kernel
theorem dX0_verify_6 : decode cX0_verify 6 = .ok (.putfield 11, 3) := by decide +kernel
theorem dX0_verify_9 : decode cX0_verify 9 = .ok (.return_, 1) := by decide +kernel
theorem dX0_verify_10 : decode cX0_verify 10 = .ok (.aload_n 0, 1) := by decide +kernel
theorem dX0_verify_11 : decode cX0_verify 11 = .ok (.dup, 1) := by decide +kernel
theorem dX0_verify_12 : decode cX0_verify 12 = .ok (.getfield 24, 3) := by decide +kernel
theorem dX0_verify_15 : decode cX0_verify 15 = .ok (.iconst 1, 1) := by decide +kernel
theorem dX0_verify_16 : decode cX0_verify 16 = .ok (.iadd, 1) := by decide +kernel
theorem dX0_verify_17 : decode cX0_verify 17 = .ok (.putfield 24, 3) := by decide +kernel
theorem dX0_verify_20 : decode cX0_verify 20 = .ok (.aload_n 0, 1) := by decide +kernel
theorem dX0_verify_21 : decode cX0_verify 21 = .ok (.getfield 24, 3) := by decide +kernel
theorem dX0_verify_24 : decode cX0_verify 24 = .ok (.iconst 2, 1) := by decide +kernel
theorem dX0_verify_25 : decode cX0_verify 25 = .ok (.if_icmp .ne 13, 3) := by decide +kernel
theorem dX0_verify_28 : decode cX0_verify 28 = .ok (.aload_n 0, 1) := by decide +kernel
theorem dX0_verify_29 : decode cX0_verify 29 = .ok (.iconst 2, 1) := by decide +kernel
theorem dX0_verify_30 : decode cX0_verify 30 = .ok (.putfield 11, 3) := by decide +kernel
theorem dX0_verify_33 : decode cX0_verify 33 = .ok (.aload_n 0, 1) := by decide +kernel
theorem dX0_verify_34 : decode cX0_verify 34 = .ok (.iconst 0, 1) := by decide +kernel
theorem dX0_verify_35 : decode cX0_verify 35 = .ok (.putfield 27, 3) := by decide +kernel
theorem dX0_verify_38 : decode cX0_verify 38 = .ok (.return_, 1) := by decide +kernel
theorem dX0_watchSync_0 : decode cX0_watchSync 0 = .ok (.iload_n 1, 1) := by decide +kernel
theorem dX0_watchSync_1 : decode cX0_watchSync 1 = .ok (.ifCond .eq 19, 3) := by decide +kernel
theorem dX0_watchSync_4 : decode cX0_watchSync 4 = .ok (.aload_n 0, 1) := by decide +kernel
theorem dX0_watchSync_5 : decode cX0_watchSync 5 = .ok (.dup, 1) := by decide +kernel
theorem dX0_watchSync_6 : decode cX0_watchSync 6 = .ok (.getfield 15, 3) := by decide +kernel
theorem dX0_watchSync_9 : decode cX0_watchSync 9 = .ok (.iconst 1, 1) := by decide +kernel
theorem dX0_watchSync_10 : decode cX0_watchSync 10 = .ok (.iadd, 1) := by decide +kernel
theorem dX0_watchSync_11 : decode cX0_watchSync 11 = .ok (.putfield 15, 3) := by decide +kernel
theorem dX0_watchSync_14 : decode cX0_watchSync 14 = .ok (.aload_n 0, 1) := by decide +kernel
theorem dX0_watchSync_15 : decode cX0_watchSync 15 = .ok (.iconst 0, 1) := by decide +kernel
theorem dX0_watchSync_16 : decode cX0_watchSync 16 = .ok (.putfield 27, 3) := by decide +kernel
theorem dX0_watchSync_19 : decode cX0_watchSync 19 = .ok (.return_, 1) := by decide +kernel
theorem dX0_watchSync_20 : decode cX0_watchSync 20 = .ok (.aload_n 0, 1) := by decide +kernel
theorem dX0_watchSync_21 : decode cX0_watchSync 21 = .ok (.dup, 1) := by decide +kernel
theorem dX0_watchSync_22 : decode cX0_watchSync 22 = .ok (.getfield 27, 3) := by decide +kernel
theorem dX0_watchSync_25 : decode cX0_watchSync 25 = .ok (.iconst 1, 1) := by decide +kernel
theorem dX0_watchSync_26 : decode cX0_watchSync 26 = .ok (.iadd, 1) := by decide +kernel
theorem dX0_watchSync_27 : decode cX0_watchSync 27 = .ok (.putfield 27, 3) := by decide +kernel
theorem dX0_watchSync_30 : decode cX0_watchSync 30 = .ok (.aload_n 0, 1) := by decide +kernel
theorem dX0_watchSync_31 : decode cX0_watchSync 31 = .ok (.getfield 27, 3) := by decide +kernel
theorem dX0_watchSync_34 : decode cX0_watchSync 34 = .ok (.iconst 3, 1) := by decide +kernel
theorem dX0_watchSync_35 : decode cX0_watchSync 35 = .ok (.if_icmp .ne 18, 3) := by decide +kernel
theorem dX0_watchSync_38 : decode cX0_watchSync 38 = .ok (.aload_n 0, 1) := by decide +kernel
theorem dX0_watchSync_39 : decode cX0_watchSync 39 = .ok (.iconst 0, 1) := by decide +kernel
theorem dX0_watchSync_40 : decode cX0_watchSync 40 = .ok (.putfield 11, 3) := by decide +kernel
theorem dX0_watchSync_43 : decode cX0_watchSync 43 = .ok (.aload_n 0, 1) := by decide +kernel
theorem dX0_watchSync_44 : decode cX0_watchSync 44 = .ok (.dup, 1) := by decide +kernel
theorem dX0_watchSync_45 : decode cX0_watchSync 45 = .ok (.getfield 18, 3) := by decide +kernel
theorem dX0_watchSync_48 : decode cX0_watchSync 48 = .ok (.iconst 1, 1) := by decide +kernel
theorem dX0_watchSync_49 : decode cX0_watchSync 49 = .ok (.iadd, 1) := by decide +kernel
theorem dX0_watchSync_50 : decode cX0_watchSync 50 = .ok (.putfield 18, 3) := by decide +kernel
theorem dX0_watchSync_53 : decode cX0_watchSync 53 = .ok (.return_, 1) := by decide +kernel
theorem dX1_init_0 : decode cX1_init 0 = .ok (.aload_n 0, 1) := by decide +kernel
theorem dX1_init_1 : decode cX1_init 1 = .ok (.invokespecial 3, 3) := by decide +kernel
theorem dX1_init_4 : decode cX1_init 4 = .ok (.aload_n 0, 1) := by decide +kernel
theorem dX1_init_5 : decode cX1_init 5 = .ok (.iconst 0, 1) := by decide +kernel
theorem dX1_init_6 : decode cX1_init 6 = .ok (.putfield 9, 3) := by decide +kernel
theorem dX1_init_9 : decode cX1_init 9 = .ok (.aload_n 0, 1) := by decide +kernel
theorem dX1_init_10 : decode cX1_init 10 = .ok (.iconst 0, 1) := by decide +kernel
theorem dX1_init_11 : decode cX1_init 11 = .ok (.putfield 15, 3) := by decide +kernel
theorem dX1_init_14 : decode cX1_init 14 = .ok (.return_, 1) := by decide +kernel
theorem dX1_add_0 : decode cX1_add 0 = .ok (.aload_n 0, 1) := by decide +kernel
theorem dX1_add_1 : decode cX1_add 1 = .ok (.dup, 1) := by decide +kernel
theorem dX1_add_2 : decode cX1_add 2 = .ok (.getfield 9, 3) := by decide +kernel
theorem dX1_add_5 : decode cX1_add 5 = .ok (.iconst 1, 1) := by decide +kernel
theorem dX1_add_6 : decode cX1_add 6 = .ok (.iadd, 1) := by decide +kernel
theorem dX1_add_7 : decode cX1_add 7 = .ok (.putfield 9, 3) := by decide +kernel
theorem dX1_add_10 : decode cX1_add 10 = .ok (.aload_n 0, 1) := by decide +kernel
theorem dX1_add_11 : decode cX1_add 11 = .ok (.aload_n 0, 1) := by decide +kernel
theorem dX1_add_12 : decode cX1_add 12 = .ok (.getfield 15, 3) := by decide +kernel
theorem dX1_add_15 : decode cX1_add 15 = .ok (.iconst 1, 1) := by decide +kernel
theorem dX1_add_16 : decode cX1_add 16 = .ok (.ishl, 1) := by decide +kernel
theorem dX1_add_17 : decode cX1_add 17 = .ok (.iload_n 1, 1) := by decide +kernel
theorem dX1_add_18 : decode cX1_add 18 = .ok (.ior, 1) := by decide +kernel
theorem dX1_add_19 : decode cX1_add 19 = .ok (.putfield 15, 3) := by decide +kernel
theorem dX1_add_22 : decode cX1_add 22 = .ok (.return_, 1) := by decide +kernel
set_option maxRecDepth 20000 in
theorem ggX1_remembers_X10_isWithin : GoodIn wsX1_remembers wsX10_isWithin := goodIn_r _ [8] (by decide +kernel) (by decide +kernel)
set_option maxRecDepth 20000 in
theorem gX1_remembers_X10_isWithin_n24 : GoodIn wsX1_remembers (wsX10_isWithin) := ggX1_remembers_X10_isWithin
theorem dX1_remembers_0 : decode cX1_remembers 0 = .ok (.iload_n 1, 1) := by decide +kernel
theorem dX1_remembers_1 : decode cX1_remembers 1 = .ok (.iconst 1, 1) := by decide +kernel
theorem dX1_remembers_2 : decode cX1_remembers 2 = .ok (.bipush 32, 2) := by decide +kernel
theorem dX1_remembers_4 : decode cX1_remembers 4 = .ok (.aload_n 0, 1) := by decide +kernel
theorem dX1_remembers_5 : decode cX1_remembers 5 = .ok (.getfield 9, 3) := by decide +kernel
theorem dX1_remembers_8 : decode cX1_remembers 8 = .ok (.invokestatic 18, 3) := by decide +kernel
theorem dX1_remembers_11 : decode cX1_remembers 11 = .ok (.invokestatic 24, 3) := by decide +kernel
theorem dX1_remembers_14 : decode cX1_remembers 14 = .ok (.ireturn, 1) := by decide +kernel
theorem dX1_findBit_0 : decode cX1_findBit 0 = .ok (.aload_n 0, 1) := by decide +kernel
theorem dX1_findBit_1 : decode cX1_findBit 1 = .ok (.getfield 15, 3) := by decide +kernel
theorem dX1_findBit_4 : decode cX1_findBit 4 = .ok (.iload_n 1, 1) := by decide +kernel
theorem dX1_findBit_5 : decode cX1_findBit 5 = .ok (.iconst 1, 1) := by decide +kernel
theorem dX1_findBit_6 : decode cX1_findBit 6 = .ok (.isub, 1) := by decide +kernel
theorem dX1_findBit_7 : decode cX1_findBit 7 = .ok (.iushr, 1) := by decide +kernel
theorem dX1_findBit_8 : decode cX1_findBit 8 = .ok (.iconst 1, 1) := by decide +kernel
theorem dX1_findBit_9 : decode cX1_findBit 9 = .ok (.iand, 1) := by decide +kernel
theorem dX1_findBit_10 : decode cX1_findBit 10 = .ok (.ireturn, 1) := by decide +kernel
theorem dX1_endsWithSyncWord_0 : decode cX1_endsWithSyncWord 0 = .ok (.aload_n 0, 1) := by decide +kernel
theorem dX1_endsWithSyncWord_1 : decode cX1_endsWithSyncWord 1 = .ok (.getfield 9, 3) := by decide +kernel
theorem dX1_endsWithSyncWord_4 : decode cX1_endsWithSyncWord 4 = .ok (.bipush 6, 2) := by decide +kernel
theorem dX1_endsWithSyncWord_6 : decode cX1_endsWithSyncWord 6 = .ok (.if_icmp .lt 19, 3) := by decide +kernel
theorem dX1_endsWithSyncWord_9 : decode cX1_endsWithSyncWord 9 = .ok (.aload_n 0, 1) := by decide +kernel
theorem dX1_endsWithSyncWord_10 : decode cX1_endsWithSyncWord 10 = .ok (.getfield 15, 3) := by decide +kernel
theorem dX1_endsWithSyncWord_13 : decode cX1_endsWithSyncWord 13 = .ok (.bipush 63, 2) := by decide +kernel
theorem dX1_endsWithSyncWord_15 : decode cX1_endsWithSyncWord 15 = .ok (.iand, 1) := by decide +kernel
theorem dX1_endsWithSyncWord_16 : decode cX1_endsWithSyncWord 16 = .ok (.bipush 52, 2) := by decide +kernel
theorem dX1_endsWithSyncWord_18 : decode cX1_endsWithSyncWord 18 = .ok (.if_icmp .ne 7, 3) := by decide +kernel
theorem dX1_endsWithSyncWord_21 : decode cX1_endsWithSyncWord 21 = .ok (.iconst 1, 1) := by decide +kernel
theorem dX1_endsWithSyncWord_22 : decode cX1_endsWithSyncWord 22 = .ok (.goto 4, 3) := by decide +kernel
theorem dX1_endsWithSyncWord_25 : decode cX1_endsWithSyncWord 25 = .ok (.iconst 0, 1) := by decide +kernel
theorem dX1_endsWithSyncWord_26 : decode cX1_endsWithSyncWord 26 = .ok (.ireturn, 1) := by decide +kernel
theorem dX2_init_0 : decode cX2_init 0 = .ok (.aload_n 0, 1) := by decide +kernel
theorem dX2_init_1 : decode cX2_init 1 = .ok (.invokespecial 1, 3) := by decide +kernel
theorem dX2_init_4 : decode cX2_init 4 = .ok (.aload_n 0, 1) := by decide +kernel
theorem dX2_init_5 : decode cX2_init 5 = .ok (.iconst 0, 1) := by decide +kernel
theorem dX2_init_6 : decode cX2_init 6 = .ok (.putfield 7, 3) := by decide +kernel
theorem dX2_init_9 : decode cX2_init 9 = .ok (.aload_n 0, 1) := by decide +kernel
theorem dX2_init_10 : decode cX2_init 10 = .ok (.sipush 256, 3) := by decide +kernel
theorem dX2_init_13 : decode cX2_init 13 = .ok (.newarray .boolean, 2) := by decide +kernel
theorem dX2_init_15 : decode cX2_init 15 = .ok (.putfield 13, 3) := by decide +kernel
theorem dX2_init_18 : decode cX2_init 18 = .ok (.return_, 1) := by decide +kernel
theorem dX2_add_0 : decode cX2_add 0 = .ok (.aload_n 0, 1) := by decide +kernel
theorem dX2_add_1 : decode cX2_add 1 = .ok (.dup, 1) := by decide +kernel
theorem dX2_add_2 : decode cX2_add 2 = .ok (.getfield 7, 3) := by decide +kernel
theorem dX2_add_5 : decode cX2_add 5 = .ok (.iconst 1, 1) := by decide +kernel
theorem dX2_add_6 : decode cX2_add 6 = .ok (.iadd, 1) := by decide +kernel
theorem dX2_add_7 : decode cX2_add 7 = .ok (.putfield 7, 3) := by decide +kernel
theorem dX2_add_10 : decode cX2_add 10 = .ok (.aload_n 0, 1) := by decide +kernel
theorem dX2_add_11 : decode cX2_add 11 = .ok (.getfield 13, 3) := by decide +kernel
theorem dX2_add_14 : decode cX2_add 14 = .ok (.aload_n 0, 1) := by decide +kernel
theorem dX2_add_15 : decode cX2_add 15 = .ok (.getfield 7, 3) := by decide +kernel
theorem dX2_add_18 : decode cX2_add 18 = .ok (.sipush 255, 3) := by decide +kernel
theorem dX2_add_21 : decode cX2_add 21 = .ok (.iand, 1) := by decide +kernel
theorem dX2_add_22 : decode cX2_add 22 = .ok (.iload_n 1, 1) := by decide +kernel
theorem dX2_add_23 : decode cX2_add 23 = .ok (.bastore, 1) := by decide +kernel
theorem dX2_add_24 : decode cX2_add 24 = .ok (.return_, 1) := by decide +kernel
set_option maxRecDepth 20000 in
theorem ggX2_sumCosts_X2_findDistance : GoodIn wsX2_sumCosts wsX2_findDistance := goodIn_r _ [5, 6, 7, 8, 9] (by decide +kernel) (by decide +kernel)
set_option maxRecDepth 20000 in
theorem gX2_sumCosts_X2_findDistance : GoodIn wsX2_sumCosts (va_wsS RX2 17 yX2_findDistance wsX2_findDistance) := goodIn_app (goodIn_of _ (by decide +kernel)) ggX2_sumCosts_X2_findDistance
theorem dX2_sumCosts_0 : decode cX2_sumCosts 0 = .ok (.iconst 0, 1) := by decide +kernel
theorem dX2_sumCosts_1 : decode cX2_sumCosts 1 = .ok (.istore_n 2, 1) := by decide +kernel
theorem dX2_sumCosts_2 : decode cX2_sumCosts 2 = .ok (.iconst 0, 1) := by decide +kernel
theorem dX2_sumCosts_3 : decode cX2_sumCosts 3 = .ok (.istore_n 3, 1) := by decide +kernel
theorem dX2_sumCosts_4 : decode cX2_sumCosts 4 = .ok (.iload_n 3, 1) := by decide +kernel
theorem dX2_sumCosts_5 : decode cX2_sumCosts 5 = .ok (.sipush 256, 3) := by decide +kernel
theorem dX2_sumCosts_8 : decode cX2_sumCosts 8 = .ok (.if_icmp .ge 29, 3) := by decide +kernel
theorem dX2_sumCosts_11 : decode cX2_sumCosts 11 = .ok (.aload_n 0, 1) := by decide +kernel
theorem dX2_sumCosts_12 : decode cX2_sumCosts 12 = .ok (.getfield 13, 3) := by decide +kernel
theorem dX2_sumCosts_15 : decode cX2_sumCosts 15 = .ok (.iload_n 3, 1) := by decide +kernel
theorem dX2_sumCosts_16 : decode cX2_sumCosts 16 = .ok (.baload, 1) := by decide +kernel
theorem dX2_sumCosts_17 : decode cX2_sumCosts 17 = .ok (.ifCond .eq 14, 3) := by decide +kernel
theorem dX2_sumCosts_20 : decode cX2_sumCosts 20 = .ok (.iload_n 2, 1) := by decide +kernel
theorem dX2_sumCosts_21 : decode cX2_sumCosts 21 = .ok (.bipush 8, 2) := by decide +kernel
theorem dX2_sumCosts_23 : decode cX2_sumCosts 23 = .ok (.iload_n 1, 1) := by decide +kernel
theorem dX2_sumCosts_24 : decode cX2_sumCosts 24 = .ok (.iload_n 3, 1) := by decide +kernel
theorem dX2_sumCosts_25 : decode cX2_sumCosts 25 = .ok (.invokestatic 17, 3) := by decide +kernel
theorem dX2_sumCosts_28 : decode cX2_sumCosts 28 = .ok (.isub, 1) := by decide +kernel
theorem dX2_sumCosts_29 : decode cX2_sumCosts 29 = .ok (.iadd, 1) := by decide +kernel
theorem dX2_sumCosts_30 : decode cX2_sumCosts 30 = .ok (.istore_n 2, 1) := by decide +kernel
theorem dX2_sumCosts_31 : decode cX2_sumCosts 31 = .ok (.iinc 3 1, 3) := by decide +kernel
theorem dX2_sumCosts_34 : decode cX2_sumCosts 34 = .ok (.goto (-30), 3) := by decide +kernel
theorem dX2_sumCosts_37 : decode cX2_sumCosts 37 = .ok (.iload_n 2, 1) := by decide +kernel
theorem dX2_sumCosts_38 : decode cX2_sumCosts 38 = .ok (.ireturn, 1) := by decide +kernel
theorem dX2_findDistance_0 : decode cX2_findDistance 0 = .ok (.iload_n 0, 1) := by decide +kernel
theorem dX2_findDistance_1 : decode cX2_findDistance 1 = .ok (.iload_n 1, 1) := by decide +kernel
theorem dX2_findDistance_2 : decode cX2_findDistance 2 = .ok (.isub, 1) := by decide +kernel
theorem dX2_findDistance_3 : decode cX2_findDistance 3 = .ok (.bipush 15, 2) := by decide +kernel
theorem dX2_findDistance_5 : decode cX2_findDistance 5 = .ok (.iand, 1) := by decide +kernel
theorem dX2_findDistance_6 : decode cX2_findDistance 6 = .ok (.istore_n 2, 1) := by decide +kernel
theorem dX2_findDistance_7 : decode cX2_findDistance 7 = .ok (.iload_n 1, 1) := by decide +kernel
theorem dX2_findDistance_8 : decode cX2_findDistance 8 = .ok (.iload_n 0, 1) := by decide +kernel
theorem dX2_findDistance_9 : decode cX2_findDistance 9 = .ok (.isub, 1) := by decide +kernel
theorem dX2_findDistance_10 : decode cX2_findDistance 10 = .ok (.bipush 15, 2) := by decide +kernel
theorem dX2_findDistance_12 : decode cX2_findDistance 12 = .ok (.iand, 1) := by decide +kernel
theorem dX2_findDistance_13 : decode cX2_findDistance 13 = .ok (.istore_n 3, 1) := by decide +kernel
theorem dX2_findDistance_14 : decode cX2_findDistance 14 = .ok (.iload_n 2, 1) := by decide +kernel
theorem dX2_findDistance_15 : decode cX2_findDistance 15 = .ok (.iload_n 3, 1) := by decide +kernel
theorem dX2_findDistance_16 : decode cX2_findDistance 16 = .ok (.invokestatic 21, 3) := by decide +kernel
theorem dX2_findDistance_19 : decode cX2_findDistance 19 = .ok (.ireturn, 1) := by decide +kernel
theorem dX3_init_0 : decode cX3_init 0 = .ok (.aload_n 0, 1) := by decide +kernel
theorem dX3_init_1 : decode cX3_init 1 = .ok (.invokespecial 1, 3) := by decide +kernel
theorem dX3_init_4 : decode cX3_init 4 = .ok (.aload_n 0, 1) := by decide +kernel
theorem dX3_init_5 : decode cX3_init 5 = .ok (.ldc 7, 2) := by decide +kernel
theorem dX3_init_7 : decode cX3_init 7 = .ok (.putfield 8, 3) := by decide +kernel
theorem dX3_init_10 : decode cX3_init 10 = .ok (.return_, 1) := by decide +kernel
theorem dX3_remember_0 : decode cX3_remember 0 = .ok (.aload_n 0, 1) := by decide +kernel
theorem dX3_remember_1 : decode cX3_remember 1 = .ok (.aload_n 0, 1) := by decide +kernel
theorem dX3_remember_2 : decode cX3_remember 2 = .ok (.getfield 8, 3) := by decide +kernel
theorem dX3_remember_5 : decode cX3_remember 5 = .ok (.iconst 1, 1) := by decide +kernel
theorem dX3_remember_6 : decode cX3_remember 6 = .ok (.ishl, 1) := by decide +kernel
theorem dX3_remember_7 : decode cX3_remember 7 = .ok (.iload_n 1, 1) := by decide +kernel
theorem dX3_remember_8 : decode cX3_remember 8 = .ok (.ior, 1) := by decide +kernel
theorem dX3_remember_9 : decode cX3_remember 9 = .ok (.ldc 7, 2) := by decide +kernel
theorem dX3_remember_11 : decode cX3_remember 11 = .ok (.iand, 1) := by decide +kernel
theorem dX3_remember_12 : decode cX3_remember 12 = .ok (.putfield 8, 3) := by decide +kernel
theorem dX3_remember_15 : decode cX3_remember 15 = .ok (.return_, 1) := by decide +kernel
theorem dX3_hasChangedSince_0 : decode cX3_hasChangedSince 0 = .ok (.aload_n 0, 1) := by decide +kernel
theorem dX3_hasChangedSince_1 : decode cX3_hasChangedSince 1 = .ok (.getfield 8, 3) := by decide +kernel
theorem dX3_hasChangedSince_4 : decode cX3_hasChangedSince 4 = .ok (.aload_n 0, 1) := by decide +kernel
theorem dX3_hasChangedSince_5 : decode cX3_hasChangedSince 5 = .ok (.getfield 8, 3) := by decide +kernel
theorem dX3_hasChangedSince_8 : decode cX3_hasChangedSince 8 = .ok (.iload_n 1, 1) := by decide +kernel
theorem dX3_hasChangedSince_9 : decode cX3_hasChangedSince 9 = .ok (.ishr, 1) := by decide +kernel
theorem dX3_hasChangedSince_10 : decode cX3_hasChangedSince 10 = .ok (.ixor, 1) := by decide +kernel
theorem dX3_hasChangedSince_11 : decode cX3_hasChangedSince 11 = .ok (.iconst 1, 1) := by decide +kernel
theorem dX3_hasChangedSince_12 : decode cX3_hasChangedSince 12 = .ok (.iand, 1) := by decide +kernel
theorem dX3_hasChangedSince_13 : decode cX3_hasChangedSince 13 = .ok (.iconst 1, 1) := by decide +kernel
theorem dX3_hasChangedSince_14 : decode cX3_hasChangedSince 14 = .ok (.if_icmp .ne 7, 3) := by decide +kernel
theorem dX3_hasChangedSince_17 : decode cX3_hasChangedSince 17 = .ok (.iconst 1, 1) := by decide +kernel
theorem dX3_hasChangedSince_18 : decode cX3_hasChangedSince 18 = .ok (.goto 4, 3) := by decide +kernel
theorem dX3_hasChangedSince_21 : decode cX3_hasChangedSince 21 = .ok (.iconst 0, 1) := by decide +kernel
theorem dX3_hasChangedSince_22 : decode cX3_hasChangedSince 22 = .ok (.ireturn, 1) := by decide +kernel
set_option maxRecDepth 20000 in
theorem ggX3_findLevel_J6_bitCount_0f7a4 : GoodIn wsX3_findLevel wsJ6_bitCount_0f7a4 := goodIn_r _ [5, 6, 7, 8] (by decide +kernel) (by decide +kernel)
set_option maxRecDepth 20000 in
theorem gX3_findLevel_J6_bitCount_0f7a4 : GoodIn wsX3_findLevel (va_wsS RX3 14 yJ6_bitCount_0f7a4 wsJ6_bitCount_0f7a4) := goodIn_app (goodIn_of _ (by decide +kernel)) ggX3_findLevel_J6_bitCount_0f7a4
theorem dX3_findLevel_0 : decode cX3_findLevel 0 = .ok (.iconst 2, 1) := by decide +kernel
theorem dX3_findLevel_1 : decode cX3_findLevel 1 = .ok (.aload_n 0, 1) := by decide +kernel
theorem dX3_findLevel_2 : decode cX3_findLevel 2 = .ok (.getfield 8, 3) := by decide +kernel
theorem dX3_findLevel_5 : decode cX3_findLevel 5 = .ok (.sipush 255, 3) := by decide +kernel
theorem dX3_findLevel_8 : decode cX3_findLevel 8 = .ok (.iand, 1) := by decide +kernel
theorem dX3_findLevel_9 : decode cX3_findLevel 9 = .ok (.invokestatic 14, 3) := by decide +kernel
theorem dX3_findLevel_12 : decode cX3_findLevel 12 = .ok (.imul, 1) := by decide +kernel
theorem dX3_findLevel_13 : decode cX3_findLevel 13 = .ok (.bipush 8, 2) := by decide +kernel
theorem dX3_findLevel_15 : decode cX3_findLevel 15 = .ok (.isub, 1) := by decide +kernel
theorem dX3_findLevel_16 : decode cX3_findLevel 16 = .ok (.ireturn, 1) := by decide +kernel
theorem dX4_init_0 : decode cX4_init 0 = .ok (.aload_n 0, 1) := by decide +kernel
theorem dX4_init_1 : decode cX4_init 1 = .ok (.invokespecial 1, 3) := by decide +kernel
theorem dX4_init_4 : decode cX4_init 4 = .ok (.aload_n 0, 1) := by decide +kernel
theorem dX4_init_5 : decode cX4_init 5 = .ok (.bipush 8, 2) := by decide +kernel
theorem dX4_init_7 : decode cX4_init 7 = .ok (.putfield 7, 3) := by decide +kernel
theorem dX4_init_10 : decode cX4_init 10 = .ok (.aload_n 0, 1) := by decide +kernel
theorem dX4_init_11 : decode cX4_init 11 = .ok (.iconst 1, 1) := by decide +kernel
theorem dX4_init_12 : decode cX4_init 12 = .ok (.putfield 13, 3) := by decide +kernel
theorem dX4_init_15 : decode cX4_init 15 = .ok (.aload_n 0, 1) := by decide +kernel
theorem dX4_init_16 : decode cX4_init 16 = .ok (.iconst 0, 1) := by decide +kernel
theorem dX4_init_17 : decode cX4_init 17 = .ok (.putfield 16, 3) := by decide +kernel
theorem dX4_init_20 : decode cX4_init 20 = .ok (.aload_n 0, 1) := by decide +kernel
theorem dX4_init_21 : decode cX4_init 21 = .ok (.iconst 0, 1) := by decide +kernel
theorem dX4_init_22 : decode cX4_init 22 = .ok (.putfield 19, 3) := by decide +kernel
theorem dX4_init_25 : decode cX4_init 25 = .ok (.aload_n 0, 1) := by decide +kernel
theorem dX4_init_26 : decode cX4_init 26 = .ok (.iconst 0, 1) := by decide +kernel
theorem dX4_init_27 : decode cX4_init 27 = .ok (.putfield 22, 3) := by decide +kernel
theorem dX4_init_30 : decode cX4_init 30 = .ok (.return_, 1) := by decide +kernel
set_option maxRecDepth 20000 in
theorem ggX4_takeError_X4_keepWithin : GoodIn wsX4_takeError wsX4_keepWithin := goodIn_r _ [10, 11, 12, 13, 14, 15, 16, 17] (by decide +kernel) (by decide +kernel)
set_option maxRecDepth 20000 in
theorem gX4_takeError_X4_keepWithin : GoodIn wsX4_takeError (va_wsS RX4 26 yX4_keepWithin wsX4_keepWithin) := goodIn_app (goodIn_of _ (by decide +kernel)) ggX4_takeError_X4_keepWithin
set_option maxRecDepth 20000 in
theorem ggX4_takeError_J9_floorDiv_7cf53 : GoodIn wsX4_takeError wsJ9_floorDiv_7cf53 := goodIn_r _ [21] (by decide +kernel) (by decide +kernel)
set_option maxRecDepth 20000 in
theorem gX4_takeError_J9_floorDiv_7cf53 : GoodIn wsX4_takeError (va_wsS RX4 30 yJ9_floorDiv_7cf53 wsJ9_floorDiv_7cf53) := goodIn_app (goodIn_of _ (by decide +kernel)) ggX4_takeError_J9_floorDiv_7cf53
theorem dX4_takeError_0 : decode cX4_takeError 0 = .ok (.aload_n 0, 1) := by decide +kernel
theorem dX4_takeError_1 : decode cX4_takeError 1 = .ok (.iload_n 1, 1) := by decide +kernel
theorem dX4_takeError_2 : decode cX4_takeError 2 = .ok (.putfield 16, 3) := by decide +kernel
theorem dX4_takeError_5 : decode cX4_takeError 5 = .ok (.aload_n 0, 1) := by decide +kernel
theorem dX4_takeError_6 : decode cX4_takeError 6 = .ok (.aload_n 0, 1) := by decide +kernel
theorem dX4_takeError_7 : decode cX4_takeError 7 = .ok (.getfield 19, 3) := by decide +kernel
theorem dX4_takeError_10 : decode cX4_takeError 10 = .ok (.aload_n 0, 1) := by decide +kernel
theorem dX4_takeError_11 : decode cX4_takeError 11 = .ok (.getfield 13, 3) := by decide +kernel
theorem dX4_takeError_14 : decode cX4_takeError 14 = .ok (.iload_n 1, 1) := by decide +kernel
theorem dX4_takeError_15 : decode cX4_takeError 15 = .ok (.imul, 1) := by decide +kernel
theorem dX4_takeError_16 : decode cX4_takeError 16 = .ok (.iadd, 1) := by decide +kernel
theorem dX4_takeError_17 : decode cX4_takeError 17 = .ok (.ldc 25, 2) := by decide +kernel
theorem dX4_takeError_19 : decode cX4_takeError 19 = .ok (.invokestatic 26, 3) := by decide +kernel
theorem dX4_takeError_22 : decode cX4_takeError 22 = .ok (.putfield 19, 3) := by decide +kernel
theorem dX4_takeError_25 : decode cX4_takeError 25 = .ok (.aload_n 0, 1) := by decide +kernel
theorem dX4_takeError_26 : decode cX4_takeError 26 = .ok (.aload_n 0, 1) := by decide +kernel
theorem dX4_takeError_27 : decode cX4_takeError 27 = .ok (.getfield 7, 3) := by decide +kernel
theorem dX4_takeError_30 : decode cX4_takeError 30 = .ok (.iload_n 1, 1) := by decide +kernel
theorem dX4_takeError_31 : decode cX4_takeError 31 = .ok (.imul, 1) := by decide +kernel
theorem dX4_takeError_32 : decode cX4_takeError 32 = .ok (.aload_n 0, 1) := by decide +kernel
theorem dX4_takeError_33 : decode cX4_takeError 33 = .ok (.getfield 19, 3) := by decide +kernel
theorem dX4_takeError_36 : decode cX4_takeError 36 = .ok (.sipush 256, 3) := by decide +kernel
theorem dX4_takeError_39 : decode cX4_takeError 39 = .ok (.invokestatic 30, 3) := by decide +kernel
theorem dX4_takeError_42 : decode cX4_takeError 42 = .ok (.iadd, 1) := by decide +kernel
theorem dX4_takeError_43 : decode cX4_takeError 43 = .ok (.sipush 1024, 3) := by decide +kernel
theorem dX4_takeError_46 : decode cX4_takeError 46 = .ok (.invokestatic 26, 3) := by decide +kernel
theorem dX4_takeError_49 : decode cX4_takeError 49 = .ok (.putfield 22, 3) := by decide +kernel
theorem dX4_takeError_52 : decode cX4_takeError 52 = .ok (.return_, 1) := by decide +kernel
theorem dX4_keepWithin_0 : decode cX4_keepWithin 0 = .ok (.iload_n 1, 1) := by decide +kernel
theorem dX4_keepWithin_1 : decode cX4_keepWithin 1 = .ok (.ineg, 1) := by decide +kernel
theorem dX4_keepWithin_2 : decode cX4_keepWithin 2 = .ok (.iload_n 1, 1) := by decide +kernel
theorem dX4_keepWithin_3 : decode cX4_keepWithin 3 = .ok (.iload_n 0, 1) := by decide +kernel
theorem dX4_keepWithin_4 : decode cX4_keepWithin 4 = .ok (.invokestatic 35, 3) := by decide +kernel
theorem dX4_keepWithin_7 : decode cX4_keepWithin 7 = .ok (.invokestatic 38, 3) := by decide +kernel
theorem dX4_keepWithin_10 : decode cX4_keepWithin 10 = .ok (.ireturn, 1) := by decide +kernel
theorem dX5_init_0 : decode cX5_init 0 = .ok (.aload_n 0, 1) := by decide +kernel
theorem dX5_init_1 : decode cX5_init 1 = .ok (.invokespecial 3, 3) := by decide +kernel
theorem dX5_init_4 : decode cX5_init 4 = .ok (.aload_n 0, 1) := by decide +kernel
theorem dX5_init_5 : decode cX5_init 5 = .ok (.iconst 0, 1) := by decide +kernel
theorem dX5_init_6 : decode cX5_init 6 = .ok (.putfield 9, 3) := by decide +kernel
theorem dX5_init_9 : decode cX5_init 9 = .ok (.return_, 1) := by decide +kernel
set_option maxRecDepth 20000 in
theorem ggX5_advance_X5_hasPassed : GoodIn wsX5_advance wsX5_hasPassed := goodIn_r _ [9, 1, 10] (by decide +kernel) (by decide +kernel)
set_option maxRecDepth 20000 in
theorem gX5_advance_X5_hasPassed : GoodIn wsX5_advance (wsV RX5 17 RX5 yX5_hasPassed wsX5_hasPassed) := goodIn_app (goodIn_of _ (by decide +kernel)) ggX5_advance_X5_hasPassed
theorem dX5_advance_0 : decode cX5_advance 0 = .ok (.aload_n 0, 1) := by decide +kernel
theorem dX5_advance_1 : decode cX5_advance 1 = .ok (.getfield 9, 3) := by decide +kernel
theorem dX5_advance_4 : decode cX5_advance 4 = .ok (.istore_n 2, 1) := by decide +kernel
theorem dX5_advance_5 : decode cX5_advance 5 = .ok (.aload_n 0, 1) := by decide +kernel
theorem dX5_advance_6 : decode cX5_advance 6 = .ok (.dup, 1) := by decide +kernel
theorem dX5_advance_7 : decode cX5_advance 7 = .ok (.getfield 9, 3) := by decide +kernel
theorem dX5_advance_10 : decode cX5_advance 10 = .ok (.sipush 4096, 3) := by decide +kernel
theorem dX5_advance_13 : decode cX5_advance 13 = .ok (.iload_n 1, 1) := by decide +kernel
theorem dX5_advance_14 : decode cX5_advance 14 = .ok (.iadd, 1) := by decide +kernel
theorem dX5_advance_15 : decode cX5_advance 15 = .ok (.iadd, 1) := by decide +kernel
theorem dX5_advance_16 : decode cX5_advance 16 = .ok (.putfield 9, 3) := by decide +kernel
theorem dX5_advance_19 : decode cX5_advance 19 = .ok (.aload_n 0, 1) := by decide +kernel
theorem dX5_advance_20 : decode cX5_advance 20 = .ok (.getfield 9, 3) := by decide +kernel
theorem dX5_advance_23 : decode cX5_advance 23 = .ok (.ldc 15, 2) := by decide +kernel
theorem dX5_advance_25 : decode cX5_advance 25 = .ok (.if_icmp .lt 16, 3) := by decide +kernel
theorem dX5_advance_28 : decode cX5_advance 28 = .ok (.aload_n 0, 1) := by decide +kernel
theorem dX5_advance_29 : decode cX5_advance 29 = .ok (.dup, 1) := by decide +kernel
theorem dX5_advance_30 : decode cX5_advance 30 = .ok (.getfield 9, 3) := by decide +kernel
theorem dX5_advance_33 : decode cX5_advance 33 = .ok (.ldc 15, 2) := by decide +kernel
theorem dX5_advance_35 : decode cX5_advance 35 = .ok (.isub, 1) := by decide +kernel
theorem dX5_advance_36 : decode cX5_advance 36 = .ok (.putfield 9, 3) := by decide +kernel
theorem dX5_advance_39 : decode cX5_advance 39 = .ok (.iconst 4, 1) := by decide +kernel
theorem dX5_advance_40 : decode cX5_advance 40 = .ok (.ireturn, 1) := by decide +kernel
theorem dX5_advance_41 : decode cX5_advance 41 = .ok (.aload_n 0, 1) := by decide +kernel
theorem dX5_advance_42 : decode cX5_advance 42 = .ok (.iload_n 2, 1) := by decide +kernel
theorem dX5_advance_43 : decode cX5_advance 43 = .ok (.ldc 16, 2) := by decide +kernel
theorem dX5_advance_45 : decode cX5_advance 45 = .ok (.invokevirtual 17, 3) := by decide +kernel
theorem dX5_advance_48 : decode cX5_advance 48 = .ok (.ifCond .eq 5, 3) := by decide +kernel
theorem dX5_advance_51 : decode cX5_advance 51 = .ok (.iconst 3, 1) := by decide +kernel
theorem dX5_advance_52 : decode cX5_advance 52 = .ok (.ireturn, 1) := by decide +kernel
theorem dX5_advance_53 : decode cX5_advance 53 = .ok (.aload_n 0, 1) := by decide +kernel
theorem dX5_advance_54 : decode cX5_advance 54 = .ok (.iload_n 2, 1) := by decide +kernel
theorem dX5_advance_55 : decode cX5_advance 55 = .ok (.ldc 21, 2) := by decide +kernel
theorem dX5_advance_57 : decode cX5_advance 57 = .ok (.invokevirtual 17, 3) := by decide +kernel
theorem dX5_advance_60 : decode cX5_advance 60 = .ok (.ifCond .eq 5, 3) := by decide +kernel
theorem dX5_advance_63 : decode cX5_advance 63 = .ok (.iconst 2, 1) := by decide +kernel
theorem dX5_advance_64 : decode cX5_advance 64 = .ok (.ireturn, 1) := by decide +kernel
theorem dX5_advance_65 : decode cX5_advance 65 = .ok (.aload_n 0, 1) := by decide +kernel
theorem dX5_advance_66 : decode cX5_advance 66 = .ok (.iload_n 2, 1) := by decide +kernel
theorem dX5_advance_67 : decode cX5_advance 67 = .ok (.sipush 16384, 3) := by decide +kernel
theorem dX5_advance_70 : decode cX5_advance 70 = .ok (.invokevirtual 17, 3) := by decide +kernel
theorem dX5_advance_73 : decode cX5_advance 73 = .ok (.ifCond .eq 7, 3) := by decide +kernel
theorem dX5_advance_76 : decode cX5_advance 76 = .ok (.iconst 1, 1) := by decide +kernel
theorem dX5_advance_77 : decode cX5_advance 77 = .ok (.goto 4, 3) := by decide +kernel
theorem dX5_advance_80 : decode cX5_advance 80 = .ok (.iconst 0, 1) := by decide +kernel
theorem dX5_advance_81 : decode cX5_advance 81 = .ok (.ireturn, 1) := by decide +kernel
theorem dX5_hasPassed_0 : decode cX5_hasPassed 0 = .ok (.iload_n 1, 1) := by decide +kernel
theorem dX5_hasPassed_1 : decode cX5_hasPassed 1 = .ok (.iload_n 2, 1) := by decide +kernel
theorem dX5_hasPassed_2 : decode cX5_hasPassed 2 = .ok (.if_icmp .ge 15, 3) := by decide +kernel
theorem dX5_hasPassed_5 : decode cX5_hasPassed 5 = .ok (.aload_n 0, 1) := by decide +kernel
theorem dX5_hasPassed_6 : decode cX5_hasPassed 6 = .ok (.getfield 9, 3) := by decide +kernel
theorem dX5_hasPassed_9 : decode cX5_hasPassed 9 = .ok (.iload_n 2, 1) := by decide +kernel
theorem dX5_hasPassed_10 : decode cX5_hasPassed 10 = .ok (.if_icmp .lt 7, 3) := by decide +kernel
theorem dX5_hasPassed_13 : decode cX5_hasPassed 13 = .ok (.iconst 1, 1) := by decide +kernel
theorem dX5_hasPassed_14 : decode cX5_hasPassed 14 = .ok (.goto 4, 3) := by decide +kernel
theorem dX5_hasPassed_17 : decode cX5_hasPassed 17 = .ok (.iconst 0, 1) := by decide +kernel
theorem dX5_hasPassed_18 : decode cX5_hasPassed 18 = .ok (.ireturn, 1) := by decide +kernel
theorem dX6_init_0 : decode cX6_init 0 = .ok (.aload_n 0, 1) := by decide +kernel
theorem dX6_init_1 : decode cX6_init 1 = .ok (.invokespecial 3, 3) := by decide +kernel
theorem dX6_init_4 : decode cX6_init 4 = .ok (.aload_n 0, 1) := by decide +kernel
theorem dX6_init_5 : decode cX6_init 5 = .ok (.iconst 0, 1) := by decide +kernel
theorem dX6_init_6 : decode cX6_init 6 = .ok (.putfield 9, 3) := by decide +kernel
theorem dX6_init_9 : decode cX6_init 9 = .ok (.aload_n 0, 1) := by decide +kernel
theorem dX6_init_10 : decode cX6_init 10 = .ok (.iconst 0, 1) := by decide +kernel
theorem dX6_init_11 : decode cX6_init 11 = .ok (.putfield 15, 3) := by decide +kernel
theorem dX6_init_14 : decode cX6_init 14 = .ok (.aload_n 0, 1) := by decide +kernel
theorem dX6_init_15 : decode cX6_init 15 = .ok (.iconst 0, 1) := by decide +kernel
theorem dX6_init_16 : decode cX6_init 16 = .ok (.putfield 18, 3) := by decide +kernel
theorem dX6_init_19 : decode cX6_init 19 = .ok (.aload_n 0, 1) := by decide +kernel
theorem dX6_init_20 : decode cX6_init 20 = .ok (.iconst 0, 1) := by decide +kernel
theorem dX6_init_21 : decode cX6_init 21 = .ok (.putfield 21, 3) := by decide +kernel
theorem dX6_init_24 : decode cX6_init 24 = .ok (.aload_n 0, 1) := by decide +kernel
theorem dX6_init_25 : decode cX6_init 25 = .ok (.iconst 0, 1) := by decide +kernel
theorem dX6_init_26 : decode cX6_init 26 = .ok (.putfield 24, 3) := by decide +kernel
theorem dX6_init_29 : decode cX6_init 29 = .ok (.aload_n 0, 1) := by decide +kernel
theorem dX6_init_30 : decode cX6_init 30 = .ok (.iconst 0, 1) := by decide +kernel
theorem dX6_init_31 : decode cX6_init 31 = .ok (.putfield 27, 3) := by decide +kernel
theorem dX6_init_34 : decode cX6_init 34 = .ok (.aload_n 0, 1) := by decide +kernel
theorem dX6_init_35 : decode cX6_init 35 = .ok (.iconst 0, 1) := by decide +kernel
theorem dX6_init_36 : decode cX6_init 36 = .ok (.putfield 30, 3) := by decide +kernel
theorem dX6_init_39 : decode cX6_init 39 = .ok (.return_, 1) := by decide +kernel
set_option maxRecDepth 20000 in
theorem ggX6_watchLine_X3_hasChangedSince : GoodIn wsX6_watchLine wsX3_hasChangedSince := goodIn_r _ [9, 10, 21] (by decide +kernel) (by decide +kernel)
set_option maxRecDepth 20000 in
theorem gX6_watchLine_X3_hasChangedSince : GoodIn wsX6_watchLine (wsV RX6 33 RX3 yX3_hasChangedSince wsX3_hasChangedSince) := goodIn_app (goodIn_of _ (by decide +kernel)) ggX6_watchLine_X3_hasChangedSince
set_option maxRecDepth 20000 in
theorem ggX6_watchLine_X10_isWithin : GoodIn wsX6_watchLine wsX10_isWithin := goodIn_r _ [13] (by decide +kernel) (by decide +kernel)
set_option maxRecDepth 20000 in
theorem gX6_watchLine_X10_isWithin_n41 : GoodIn wsX6_watchLine (wsX10_isWithin) := ggX6_watchLine_X10_isWithin
theorem dX6_watchLine_0 : decode cX6_watchLine 0 = .ok (.aload_n 1, 1) := by decide +kernel
theorem dX6_watchLine_1 : decode cX6_watchLine 1 = .ok (.iconst 1, 1) := by decide +kernel
theorem dX6_watchLine_2 : decode cX6_watchLine 2 = .ok (.invokevirtual 33, 3) := by decide +kernel
theorem dX6_watchLine_5 : decode cX6_watchLine 5 = .ok (.ifCond .eq 15, 3) := by decide +kernel
theorem dX6_watchLine_8 : decode cX6_watchLine 8 = .ok (.aload_n 0, 1) := by decide +kernel
theorem dX6_watchLine_9 : decode cX6_watchLine 9 = .ok (.ldc 39, 2) := by decide +kernel
theorem dX6_watchLine_11 : decode cX6_watchLine 11 = .ok (.iload_n 2, 1) := by decide +kernel
theorem dX6_watchLine_12 : decode cX6_watchLine 12 = .ok (.isub, 1) := by decide +kernel
theorem dX6_watchLine_13 : decode cX6_watchLine 13 = .ok (.sipush 256, 3) := by decide +kernel
theorem dX6_watchLine_16 : decode cX6_watchLine 16 = .ok (.idiv, 1) := by decide +kernel
theorem dX6_watchLine_17 : decode cX6_watchLine 17 = .ok (.putfield 15, 3) := by decide +kernel
theorem dX6_watchLine_20 : decode cX6_watchLine 20 = .ok (.aload_n 1, 1) := by decide +kernel
theorem dX6_watchLine_21 : decode cX6_watchLine 21 = .ok (.bipush 8, 2) := by decide +kernel
theorem dX6_watchLine_23 : decode cX6_watchLine 23 = .ok (.invokevirtual 33, 3) := by decide +kernel
theorem dX6_watchLine_26 : decode cX6_watchLine 26 = .ok (.ifCond .eq 29, 3) := by decide +kernel
theorem dX6_watchLine_29 : decode cX6_watchLine 29 = .ok (.aload_n 0, 1) := by decide +kernel
theorem dX6_watchLine_30 : decode cX6_watchLine 30 = .ok (.dup, 1) := by decide +kernel
theorem dX6_watchLine_31 : decode cX6_watchLine 31 = .ok (.getfield 18, 3) := by decide +kernel
theorem dX6_watchLine_34 : decode cX6_watchLine 34 = .ok (.iload_n 2, 1) := by decide +kernel
theorem dX6_watchLine_35 : decode cX6_watchLine 35 = .ok (.sipush 16384, 3) := by decide +kernel
theorem dX6_watchLine_38 : decode cX6_watchLine 38 = .ok (.ldc 40, 2) := by decide +kernel
theorem dX6_watchLine_40 : decode cX6_watchLine 40 = .ok (.invokestatic 41, 3) := by decide +kernel
theorem dX6_watchLine_43 : decode cX6_watchLine 43 = .ok (.ifCond .eq 7, 3) := by decide +kernel
theorem dX6_watchLine_46 : decode cX6_watchLine 46 = .ok (.iconst 1, 1) := by decide +kernel
theorem dX6_watchLine_47 : decode cX6_watchLine 47 = .ok (.goto 4, 3) := by decide +kernel
theorem dX6_watchLine_50 : decode cX6_watchLine 50 = .ok (.iconst (-1), 1) := by decide +kernel
theorem dX6_watchLine_51 : decode cX6_watchLine 51 = .ok (.iadd, 1) := by decide +kernel
theorem dX6_watchLine_52 : decode cX6_watchLine 52 = .ok (.putfield 18, 3) := by decide +kernel
theorem dX6_watchLine_55 : decode cX6_watchLine 55 = .ok (.return_, 1) := by decide +kernel
theorem dX6_keepEarly_0 : decode cX6_keepEarly 0 = .ok (.aload_n 0, 1) := by decide +kernel
theorem dX6_keepEarly_1 : decode cX6_keepEarly 1 = .ok (.iload_n 1, 1) := by decide +kernel
theorem dX6_keepEarly_2 : decode cX6_keepEarly 2 = .ok (.invokestatic 45, 3) := by decide +kernel
theorem dX6_keepEarly_5 : decode cX6_keepEarly 5 = .ok (.putfield 21, 3) := by decide +kernel
theorem dX6_keepEarly_8 : decode cX6_keepEarly 8 = .ok (.return_, 1) := by decide +kernel
theorem dX6_keepMiddle_0 : decode cX6_keepMiddle 0 = .ok (.aload_n 0, 1) := by decide +kernel
theorem dX6_keepMiddle_1 : decode cX6_keepMiddle 1 = .ok (.iload_n 1, 1) := by decide +kernel
theorem dX6_keepMiddle_2 : decode cX6_keepMiddle 2 = .ok (.putfield 24, 3) := by decide +kernel
theorem dX6_keepMiddle_5 : decode cX6_keepMiddle 5 = .ok (.aload_n 0, 1) := by decide +kernel
theorem dX6_keepMiddle_6 : decode cX6_keepMiddle 6 = .ok (.iload_n 2, 1) := by decide +kernel
theorem dX6_keepMiddle_7 : decode cX6_keepMiddle 7 = .ok (.putfield 27, 3) := by decide +kernel
theorem dX6_keepMiddle_10 : decode cX6_keepMiddle 10 = .ok (.return_, 1) := by decide +kernel
theorem dX6_measureLate_0 : decode cX6_measureLate 0 = .ok (.aload_n 0, 1) := by decide +kernel
theorem dX6_measureLate_1 : decode cX6_measureLate 1 = .ok (.getfield 21, 3) := by decide +kernel
theorem dX6_measureLate_4 : decode cX6_measureLate 4 = .ok (.iload_n 1, 1) := by decide +kernel
theorem dX6_measureLate_5 : decode cX6_measureLate 5 = .ok (.invokestatic 45, 3) := by decide +kernel
theorem dX6_measureLate_8 : decode cX6_measureLate 8 = .ok (.isub, 1) := by decide +kernel
theorem dX6_measureLate_9 : decode cX6_measureLate 9 = .ok (.ireturn, 1) := by decide +kernel
set_option maxRecDepth 20000 in
theorem ggX6_measureAtData_X6_measureBangBang : GoodIn wsX6_measureAtData wsX6_measureBangBang := goodIn_r _ [10, 11, 12, 13, 14, 15, 16, 17, 18, 26, 27, 19, 20, 21, 22, 23, 24, 25] (by decide +kernel) (by decide +kernel)
set_option maxRecDepth 20000 in
theorem gX6_measureAtData_X6_measureBangBang : GoodIn wsX6_measureAtData (wsV RX6 51 RX6 yX6_measureBangBang wsX6_measureBangBang) := goodIn_app (goodIn_of _ (by decide +kernel)) ggX6_measureAtData_X6_measureBangBang
theorem dX6_measureAtData_0 : decode cX6_measureAtData 0 = .ok (.aload_n 0, 1) := by decide +kernel
theorem dX6_measureAtData_1 : decode cX6_measureAtData 1 = .ok (.getfield 9, 3) := by decide +kernel
theorem dX6_measureAtData_4 : decode cX6_measureAtData 4 = .ok (.tableswitch 50 1 3 #[28, 33, 38], 28) := by decide +kernel
theorem dX6_measureAtData_32 : decode cX6_measureAtData 32 = .ok (.aload_n 0, 1) := by decide +kernel
theorem dX6_measureAtData_33 : decode cX6_measureAtData 33 = .ok (.getfield 15, 3) := by decide +kernel
theorem dX6_measureAtData_36 : decode cX6_measureAtData 36 = .ok (.ireturn, 1) := by decide +kernel
theorem dX6_measureAtData_37 : decode cX6_measureAtData 37 = .ok (.aload_n 0, 1) := by decide +kernel
theorem dX6_measureAtData_38 : decode cX6_measureAtData 38 = .ok (.getfield 18, 3) := by decide +kernel
theorem dX6_measureAtData_41 : decode cX6_measureAtData 41 = .ok (.ireturn, 1) := by decide +kernel
theorem dX6_measureAtData_42 : decode cX6_measureAtData 42 = .ok (.aload_n 0, 1) := by decide +kernel
theorem dX6_measureAtData_43 : decode cX6_measureAtData 43 = .ok (.getfield 27, 3) := by decide +kernel
theorem dX6_measureAtData_46 : decode cX6_measureAtData 46 = .ok (.iload_n 2, 1) := by decide +kernel
theorem dX6_measureAtData_47 : decode cX6_measureAtData 47 = .ok (.aload_n 0, 1) := by decide +kernel
theorem dX6_measureAtData_48 : decode cX6_measureAtData 48 = .ok (.getfield 30, 3) := by decide +kernel
theorem dX6_measureAtData_51 : decode cX6_measureAtData 51 = .ok (.isub, 1) := by decide +kernel
theorem dX6_measureAtData_52 : decode cX6_measureAtData 52 = .ok (.imul, 1) := by decide +kernel
theorem dX6_measureAtData_53 : decode cX6_measureAtData 53 = .ok (.ireturn, 1) := by decide +kernel
theorem dX6_measureAtData_54 : decode cX6_measureAtData 54 = .ok (.aload_n 0, 1) := by decide +kernel
theorem dX6_measureAtData_55 : decode cX6_measureAtData 55 = .ok (.iload_n 1, 1) := by decide +kernel
theorem dX6_measureAtData_56 : decode cX6_measureAtData 56 = .ok (.aload_n 3, 1) := by decide +kernel
theorem dX6_measureAtData_57 : decode cX6_measureAtData 57 = .ok (.invokevirtual 51, 3) := by decide +kernel
theorem dX6_measureAtData_60 : decode cX6_measureAtData 60 = .ok (.ireturn, 1) := by decide +kernel
set_option maxRecDepth 20000 in
theorem ggX6_measureBangBang_X1_findBit : GoodIn wsX6_measureBangBang wsX1_findBit := goodIn_r _ [7, 8, 9, 10] (by decide +kernel) (by decide +kernel)
set_option maxRecDepth 20000 in
theorem gX6_measureBangBang_X1_findBit : GoodIn wsX6_measureBangBang (wsV RX6 60 RX1 yX1_findBit wsX1_findBit) := goodIn_app (goodIn_of _ (by decide +kernel)) ggX6_measureBangBang_X1_findBit
theorem dX6_measureBangBang_0 : decode cX6_measureBangBang 0 = .ok (.aload_n 2, 1) := by decide +kernel
theorem dX6_measureBangBang_1 : decode cX6_measureBangBang 1 = .ok (.getfield 55, 3) := by decide +kernel
theorem dX6_measureBangBang_4 : decode cX6_measureBangBang 4 = .ok (.ifCond .ne 5, 3) := by decide +kernel
theorem dX6_measureBangBang_7 : decode cX6_measureBangBang 7 = .ok (.iconst 0, 1) := by decide +kernel
theorem dX6_measureBangBang_8 : decode cX6_measureBangBang 8 = .ok (.ireturn, 1) := by decide +kernel
theorem dX6_measureBangBang_9 : decode cX6_measureBangBang 9 = .ok (.aload_n 2, 1) := by decide +kernel
theorem dX6_measureBangBang_10 : decode cX6_measureBangBang 10 = .ok (.iconst 1, 1) := by decide +kernel
theorem dX6_measureBangBang_11 : decode cX6_measureBangBang 11 = .ok (.invokevirtual 60, 3) := by decide +kernel
theorem dX6_measureBangBang_14 : decode cX6_measureBangBang 14 = .ok (.istore_n 3, 1) := by decide +kernel
theorem dX6_measureBangBang_15 : decode cX6_measureBangBang 15 = .ok (.iload_n 1, 1) := by decide +kernel
theorem dX6_measureBangBang_16 : decode cX6_measureBangBang 16 = .ok (.iload_n 3, 1) := by decide +kernel
theorem dX6_measureBangBang_17 : decode cX6_measureBangBang 17 = .ok (.if_icmp .ne 5, 3) := by decide +kernel
theorem dX6_measureBangBang_20 : decode cX6_measureBangBang 20 = .ok (.iconst 0, 1) := by decide +kernel
theorem dX6_measureBangBang_21 : decode cX6_measureBangBang 21 = .ok (.ireturn, 1) := by decide +kernel
theorem dX6_measureBangBang_22 : decode cX6_measureBangBang 22 = .ok (.aload_n 0, 1) := by decide +kernel
theorem dX6_measureBangBang_23 : decode cX6_measureBangBang 23 = .ok (.getfield 24, 3) := by decide +kernel
theorem dX6_measureBangBang_26 : decode cX6_measureBangBang 26 = .ok (.iload_n 3, 1) := by decide +kernel
theorem dX6_measureBangBang_27 : decode cX6_measureBangBang 27 = .ok (.if_icmp .ne 7, 3) := by decide +kernel
theorem dX6_measureBangBang_30 : decode cX6_measureBangBang 30 = .ok (.iconst (-1), 1) := by decide +kernel
theorem dX6_measureBangBang_31 : decode cX6_measureBangBang 31 = .ok (.goto 4, 3) := by decide +kernel
theorem dX6_measureBangBang_34 : decode cX6_measureBangBang 34 = .ok (.iconst 1, 1) := by decide +kernel
theorem dX6_measureBangBang_35 : decode cX6_measureBangBang 35 = .ok (.ireturn, 1) := by decide +kernel
theorem dX6_finishBit_0 : decode cX6_finishBit 0 = .ok (.aload_n 0, 1) := by decide +kernel
theorem dX6_finishBit_1 : decode cX6_finishBit 1 = .ok (.iconst 0, 1) := by decide +kernel
theorem dX6_finishBit_2 : decode cX6_finishBit 2 = .ok (.putfield 15, 3) := by decide +kernel
theorem dX6_finishBit_5 : decode cX6_finishBit 5 = .ok (.aload_n 0, 1) := by decide +kernel
theorem dX6_finishBit_6 : decode cX6_finishBit 6 = .ok (.iconst 0, 1) := by decide +kernel
theorem dX6_finishBit_7 : decode cX6_finishBit 7 = .ok (.putfield 18, 3) := by decide +kernel
theorem dX6_finishBit_10 : decode cX6_finishBit 10 = .ok (.aload_n 0, 1) := by decide +kernel
theorem dX6_finishBit_11 : decode cX6_finishBit 11 = .ok (.iload_n 1, 1) := by decide +kernel
theorem dX6_finishBit_12 : decode cX6_finishBit 12 = .ok (.putfield 30, 3) := by decide +kernel
theorem dX6_finishBit_15 : decode cX6_finishBit 15 = .ok (.return_, 1) := by decide +kernel
theorem dX7_init_0 : decode cX7_init 0 = .ok (.aload_n 0, 1) := by decide +kernel
theorem dX7_init_1 : decode cX7_init 1 = .ok (.invokespecial 3, 3) := by decide +kernel
theorem dX7_init_4 : decode cX7_init 4 = .ok (.aload_n 0, 1) := by decide +kernel
theorem dX7_init_5 : decode cX7_init 5 = .ok (.iconst 0, 1) := by decide +kernel
theorem dX7_init_6 : decode cX7_init 6 = .ok (.putfield 9, 3) := by decide +kernel
theorem dX7_init_9 : decode cX7_init 9 = .ok (.aload_n 0, 1) := by decide +kernel
theorem dX7_init_10 : decode cX7_init 10 = .ok (.iconst 0, 1) := by decide +kernel
theorem dX7_init_11 : decode cX7_init 11 = .ok (.putfield 15, 3) := by decide +kernel
theorem dX7_init_14 : decode cX7_init 14 = .ok (.aload_n 0, 1) := by decide +kernel
theorem dX7_init_15 : decode cX7_init 15 = .ok (.iconst 0, 1) := by decide +kernel
theorem dX7_init_16 : decode cX7_init 16 = .ok (.putfield 18, 3) := by decide +kernel
theorem dX7_init_19 : decode cX7_init 19 = .ok (.aload_n 0, 1) := by decide +kernel
theorem dX7_init_20 : decode cX7_init 20 = .ok (.bipush 32, 2) := by decide +kernel
theorem dX7_init_22 : decode cX7_init 22 = .ok (.newarray .int, 2) := by decide +kernel
theorem dX7_init_24 : decode cX7_init 24 = .ok (.putfield 21, 3) := by decide +kernel
theorem dX7_init_27 : decode cX7_init 27 = .ok (.return_, 1) := by decide +kernel
set_option maxRecDepth 20000 in
theorem ggX7_add_X10_isWithin : GoodIn wsX7_add wsX10_isWithin := goodIn_r _ [7] (by decide +kernel) (by decide +kernel)
set_option maxRecDepth 20000 in
theorem gX7_add_X10_isWithin_n25 : GoodIn wsX7_add (wsX10_isWithin) := ggX7_add_X10_isWithin
theorem dX7_add_0 : decode cX7_add 0 = .ok (.aload_n 0, 1) := by decide +kernel
theorem dX7_add_1 : decode cX7_add 1 = .ok (.getfield 21, 3) := by decide +kernel
theorem dX7_add_4 : decode cX7_add 4 = .ok (.aload_n 0, 1) := by decide +kernel
theorem dX7_add_5 : decode cX7_add 5 = .ok (.getfield 9, 3) := by decide +kernel
theorem dX7_add_8 : decode cX7_add 8 = .ok (.bipush 31, 2) := by decide +kernel
theorem dX7_add_10 : decode cX7_add 10 = .ok (.iand, 1) := by decide +kernel
theorem dX7_add_11 : decode cX7_add 11 = .ok (.iload_n 1, 1) := by decide +kernel
theorem dX7_add_12 : decode cX7_add 12 = .ok (.iastore, 1) := by decide +kernel
theorem dX7_add_13 : decode cX7_add 13 = .ok (.aload_n 0, 1) := by decide +kernel
theorem dX7_add_14 : decode cX7_add 14 = .ok (.dup, 1) := by decide +kernel
theorem dX7_add_15 : decode cX7_add 15 = .ok (.getfield 9, 3) := by decide +kernel
theorem dX7_add_18 : decode cX7_add 18 = .ok (.iconst 1, 1) := by decide +kernel
theorem dX7_add_19 : decode cX7_add 19 = .ok (.iadd, 1) := by decide +kernel
theorem dX7_add_20 : decode cX7_add 20 = .ok (.putfield 9, 3) := by decide +kernel
theorem dX7_add_23 : decode cX7_add 23 = .ok (.aload_n 0, 1) := by decide +kernel
theorem dX7_add_24 : decode cX7_add 24 = .ok (.iload_n 1, 1) := by decide +kernel
theorem dX7_add_25 : decode cX7_add 25 = .ok (.putfield 15, 3) := by decide +kernel
theorem dX7_add_28 : decode cX7_add 28 = .ok (.iload_n 2, 1) := by decide +kernel
theorem dX7_add_29 : decode cX7_add 29 = .ok (.ifCond .ne 20, 3) := by decide +kernel
theorem dX7_add_32 : decode cX7_add 32 = .ok (.iload_n 1, 1) := by decide +kernel
theorem dX7_add_33 : decode cX7_add 33 = .ok (.sipush (-16384), 3) := by decide +kernel
theorem dX7_add_36 : decode cX7_add 36 = .ok (.sipush 16383, 3) := by decide +kernel
theorem dX7_add_39 : decode cX7_add 39 = .ok (.invokestatic 25, 3) := by decide +kernel
theorem dX7_add_42 : decode cX7_add 42 = .ok (.ifCond .eq 7, 3) := by decide +kernel
theorem dX7_add_45 : decode cX7_add 45 = .ok (.iconst 1, 1) := by decide +kernel
theorem dX7_add_46 : decode cX7_add 46 = .ok (.goto 4, 3) := by decide +kernel
theorem dX7_add_49 : decode cX7_add 49 = .ok (.iconst 0, 1) := by decide +kernel
theorem dX7_add_50 : decode cX7_add 50 = .ok (.istore_n 3, 1) := by decide +kernel
theorem dX7_add_51 : decode cX7_add 51 = .ok (.aload_n 0, 1) := by decide +kernel
theorem dX7_add_52 : decode cX7_add 52 = .ok (.iload_n 3, 1) := by decide +kernel
theorem dX7_add_53 : decode cX7_add 53 = .ok (.ifCond .eq 12, 3) := by decide +kernel
theorem dX7_add_56 : decode cX7_add 56 = .ok (.aload_n 0, 1) := by decide +kernel
theorem dX7_add_57 : decode cX7_add 57 = .ok (.getfield 18, 3) := by decide +kernel
theorem dX7_add_60 : decode cX7_add 60 = .ok (.iconst 1, 1) := by decide +kernel
theorem dX7_add_61 : decode cX7_add 61 = .ok (.iadd, 1) := by decide +kernel
theorem dX7_add_62 : decode cX7_add 62 = .ok (.goto 4, 3) := by decide +kernel
theorem dX7_add_65 : decode cX7_add 65 = .ok (.iconst 0, 1) := by decide +kernel
theorem dX7_add_66 : decode cX7_add 66 = .ok (.putfield 18, 3) := by decide +kernel
theorem dX7_add_69 : decode cX7_add 69 = .ok (.return_, 1) := by decide +kernel
theorem dX7_isSteady_0 : decode cX7_isSteady 0 = .ok (.aload_n 0, 1) := by decide +kernel
theorem dX7_isSteady_1 : decode cX7_isSteady 1 = .ok (.getfield 18, 3) := by decide +kernel
theorem dX7_isSteady_4 : decode cX7_isSteady 4 = .ok (.bipush 32, 2) := by decide +kernel
theorem dX7_isSteady_6 : decode cX7_isSteady 6 = .ok (.if_icmp .lt 7, 3) := by decide +kernel
theorem dX7_isSteady_9 : decode cX7_isSteady 9 = .ok (.iconst 1, 1) := by decide +kernel
theorem dX7_isSteady_10 : decode cX7_isSteady 10 = .ok (.goto 4, 3) := by decide +kernel
theorem dX7_isSteady_13 : decode cX7_isSteady 13 = .ok (.iconst 0, 1) := by decide +kernel
theorem dX7_isSteady_14 : decode cX7_isSteady 14 = .ok (.ireturn, 1) := by decide +kernel
theorem dX7_sumAbsolutes_0 : decode cX7_sumAbsolutes 0 = .ok (.iconst 0, 1) := by decide +kernel
theorem dX7_sumAbsolutes_1 : decode cX7_sumAbsolutes 1 = .ok (.istore_n 1, 1) := by decide +kernel
theorem dX7_sumAbsolutes_2 : decode cX7_sumAbsolutes 2 = .ok (.iconst 0, 1) := by decide +kernel
theorem dX7_sumAbsolutes_3 : decode cX7_sumAbsolutes 3 = .ok (.istore_n 2, 1) := by decide +kernel
theorem dX7_sumAbsolutes_4 : decode cX7_sumAbsolutes 4 = .ok (.iload_n 2, 1) := by decide +kernel
theorem dX7_sumAbsolutes_5 : decode cX7_sumAbsolutes 5 = .ok (.bipush 32, 2) := by decide +kernel
theorem dX7_sumAbsolutes_7 : decode cX7_sumAbsolutes 7 = .ok (.if_icmp .ge 21, 3) := by decide +kernel
theorem dX7_sumAbsolutes_10 : decode cX7_sumAbsolutes 10 = .ok (.iload_n 1, 1) := by decide +kernel
theorem dX7_sumAbsolutes_11 : decode cX7_sumAbsolutes 11 = .ok (.aload_n 0, 1) := by decide +kernel
theorem dX7_sumAbsolutes_12 : decode cX7_sumAbsolutes 12 = .ok (.getfield 21, 3) := by decide +kernel
theorem dX7_sumAbsolutes_15 : decode cX7_sumAbsolutes 15 = .ok (.iload_n 2, 1) := by decide +kernel
theorem dX7_sumAbsolutes_16 : decode cX7_sumAbsolutes 16 = .ok (.iaload, 1) := by decide +kernel
theorem dX7_sumAbsolutes_17 : decode cX7_sumAbsolutes 17 = .ok (.invokestatic 29, 3) := by decide +kernel
theorem dX7_sumAbsolutes_20 : decode cX7_sumAbsolutes 20 = .ok (.iadd, 1) := by decide +kernel
theorem dX7_sumAbsolutes_21 : decode cX7_sumAbsolutes 21 = .ok (.istore_n 1, 1) := by decide +kernel
theorem dX7_sumAbsolutes_22 : decode cX7_sumAbsolutes 22 = .ok (.iinc 2 1, 3) := by decide +kernel
theorem dX7_sumAbsolutes_25 : decode cX7_sumAbsolutes 25 = .ok (.goto (-21), 3) := by decide +kernel
theorem dX7_sumAbsolutes_28 : decode cX7_sumAbsolutes 28 = .ok (.iload_n 1, 1) := by decide +kernel
theorem dX7_sumAbsolutes_29 : decode cX7_sumAbsolutes 29 = .ok (.ireturn, 1) := by decide +kernel
theorem dX8_init_0 : decode cX8_init 0 = .ok (.aload_n 0, 1) := by decide +kernel
theorem dX8_init_1 : decode cX8_init 1 = .ok (.invokespecial 1, 3) := by decide +kernel
theorem dX8_init_4 : decode cX8_init 4 = .ok (.aload_n 0, 1) := by decide +kernel
theorem dX8_init_5 : decode cX8_init 5 = .ok (.iconst 0, 1) := by decide +kernel
theorem dX8_init_6 : decode cX8_init 6 = .ok (.putfield 7, 3) := by decide +kernel
theorem dX8_init_9 : decode cX8_init 9 = .ok (.aload_n 0, 1) := by decide +kernel
theorem dX8_init_10 : decode cX8_init 10 = .ok (.iconst 0, 1) := by decide +kernel
theorem dX8_init_11 : decode cX8_init 11 = .ok (.putfield 13, 3) := by decide +kernel
theorem dX8_init_14 : decode cX8_init 14 = .ok (.aload_n 0, 1) := by decide +kernel
theorem dX8_init_15 : decode cX8_init 15 = .ok (.iconst 0, 1) := by decide +kernel
theorem dX8_init_16 : decode cX8_init 16 = .ok (.putfield 16, 3) := by decide +kernel
theorem dX8_init_19 : decode cX8_init 19 = .ok (.aload_n 0, 1) := by decide +kernel
theorem dX8_init_20 : decode cX8_init 20 = .ok (.iconst 0, 1) := by decide +kernel
theorem dX8_init_21 : decode cX8_init 21 = .ok (.putfield 20, 3) := by decide +kernel
theorem dX8_init_24 : decode cX8_init 24 = .ok (.return_, 1) := by decide +kernel
theorem dX8_compare_0 : decode cX8_compare 0 = .ok (.aload_n 0, 1) := by decide +kernel
theorem dX8_compare_1 : decode cX8_compare 1 = .ok (.getfield 16, 3) := by decide +kernel
theorem dX8_compare_4 : decode cX8_compare 4 = .ok (.ifCond .eq 12, 3) := by decide +kernel
theorem dX8_compare_7 : decode cX8_compare 7 = .ok (.iload_n 1, 1) := by decide +kernel
theorem dX8_compare_8 : decode cX8_compare 8 = .ok (.aload_n 0, 1) := by decide +kernel
theorem dX8_compare_9 : decode cX8_compare 9 = .ok (.getfield 20, 3) := by decide +kernel
theorem dX8_compare_12 : decode cX8_compare 12 = .ok (.isub, 1) := by decide +kernel
theorem dX8_compare_13 : decode cX8_compare 13 = .ok (.goto 4, 3) := by decide +kernel
theorem dX8_compare_16 : decode cX8_compare 16 = .ok (.iconst 1, 1) := by decide +kernel
theorem dX8_compare_17 : decode cX8_compare 17 = .ok (.istore_n 2, 1) := by decide +kernel
theorem dX8_compare_18 : decode cX8_compare 18 = .ok (.aload_n 0, 1) := by decide +kernel
theorem dX8_compare_19 : decode cX8_compare 19 = .ok (.iconst 1, 1) := by decide +kernel
theorem dX8_compare_20 : decode cX8_compare 20 = .ok (.putfield 16, 3) := by decide +kernel
theorem dX8_compare_23 : decode cX8_compare 23 = .ok (.aload_n 0, 1) := by decide +kernel
theorem dX8_compare_24 : decode cX8_compare 24 = .ok (.iload_n 1, 1) := by decide +kernel
theorem dX8_compare_25 : decode cX8_compare 25 = .ok (.putfield 20, 3) := by decide +kernel
theorem dX8_compare_28 : decode cX8_compare 28 = .ok (.iload_n 2, 1) := by decide +kernel
theorem dX8_compare_29 : decode cX8_compare 29 = .ok (.ifCond .ne 16, 3) := by decide +kernel
theorem dX8_compare_32 : decode cX8_compare 32 = .ok (.aload_n 0, 1) := by decide +kernel
theorem dX8_compare_33 : decode cX8_compare 33 = .ok (.dup, 1) := by decide +kernel
theorem dX8_compare_34 : decode cX8_compare 34 = .ok (.getfield 7, 3) := by decide +kernel
theorem dX8_compare_37 : decode cX8_compare 37 = .ok (.iconst 1, 1) := by decide +kernel
theorem dX8_compare_38 : decode cX8_compare 38 = .ok (.iadd, 1) := by decide +kernel
theorem dX8_compare_39 : decode cX8_compare 39 = .ok (.putfield 7, 3) := by decide +kernel
theorem dX8_compare_42 : decode cX8_compare 42 = .ok (.goto 20, 3) := by decide +kernel
theorem dX8_compare_45 : decode cX8_compare 45 = .ok (.iload_n 2, 1) := by decide +kernel
theorem dX8_compare_46 : decode cX8_compare 46 = .ok (.iconst 1, 1) := by decide +kernel
theorem dX8_compare_47 : decode cX8_compare 47 = .ok (.if_icmp .le 15, 3) := by decide +kernel
theorem dX8_compare_50 : decode cX8_compare 50 = .ok (.aload_n 0, 1) := by decide +kernel
theorem dX8_compare_51 : decode cX8_compare 51 = .ok (.dup, 1) := by decide +kernel
theorem dX8_compare_52 : decode cX8_compare 52 = .ok (.getfield 13, 3) := by decide +kernel
theorem dX8_compare_55 : decode cX8_compare 55 = .ok (.iload_n 2, 1) := by decide +kernel
theorem dX8_compare_56 : decode cX8_compare 56 = .ok (.iconst 1, 1) := by decide +kernel
theorem dX8_compare_57 : decode cX8_compare 57 = .ok (.isub, 1) := by decide +kernel
theorem dX8_compare_58 : decode cX8_compare 58 = .ok (.iadd, 1) := by decide +kernel
theorem dX8_compare_59 : decode cX8_compare 59 = .ok (.putfield 13, 3) := by decide +kernel
theorem dX8_compare_62 : decode cX8_compare 62 = .ok (.iload_n 2, 1) := by decide +kernel
theorem dX8_compare_63 : decode cX8_compare 63 = .ok (.iconst 1, 1) := by decide +kernel
theorem dX8_compare_64 : decode cX8_compare 64 = .ok (.if_icmp .eq 7, 3) := by decide +kernel
theorem dX8_compare_67 : decode cX8_compare 67 = .ok (.iconst 1, 1) := by decide +kernel
theorem dX8_compare_68 : decode cX8_compare 68 = .ok (.goto 4, 3) := by decide +kernel
theorem dX8_compare_71 : decode cX8_compare 71 = .ok (.iconst 0, 1) := by decide +kernel
theorem dX8_compare_72 : decode cX8_compare 72 = .ok (.ireturn, 1) := by decide +kernel
theorem dX9_init_0 : decode cX9_init 0 = .ok (.aload_n 0, 1) := by decide +kernel
theorem dX9_init_1 : decode cX9_init 1 = .ok (.invokespecial 3, 3) := by decide +kernel
theorem dX9_init_4 : decode cX9_init 4 = .ok (.aload_n 0, 1) := by decide +kernel
theorem dX9_init_5 : decode cX9_init 5 = .ok (.iconst 0, 1) := by decide +kernel
theorem dX9_init_6 : decode cX9_init 6 = .ok (.putfield 9, 3) := by decide +kernel
theorem dX9_init_9 : decode cX9_init 9 = .ok (.aload_n 0, 1) := by decide +kernel
theorem dX9_init_10 : decode cX9_init 10 = .ok (.sipush 4096, 3) := by decide +kernel
theorem dX9_init_13 : decode cX9_init 13 = .ok (.putfield 15, 3) := by decide +kernel
theorem dX9_init_16 : decode cX9_init 16 = .ok (.aload_n 0, 1) := by decide +kernel
theorem dX9_init_17 : decode cX9_init 17 = .ok (.iconst 0, 1) := by decide +kernel
theorem dX9_init_18 : decode cX9_init 18 = .ok (.putfield 18, 3) := by decide +kernel
theorem dX9_init_21 : decode cX9_init 21 = .ok (.aload_n 0, 1) := by decide +kernel
theorem dX9_init_22 : decode cX9_init 22 = .ok (.lconst 1, 1) := by decide +kernel
theorem dX9_init_23 : decode cX9_init 23 = .ok (.putfield 21, 3) := by decide +kernel
theorem dX9_init_26 : decode cX9_init 26 = .ok (.aload_n 0, 1) := by decide +kernel
theorem dX9_init_27 : decode cX9_init 27 = .ok (.iconst 0, 1) := by decide +kernel
theorem dX9_init_28 : decode cX9_init 28 = .ok (.putfield 25, 3) := by decide +kernel
theorem dX9_init_31 : decode cX9_init 31 = .ok (.aload_n 0, 1) := by decide +kernel
theorem dX9_init_32 : decode cX9_init 32 = .ok (.iconst 1, 1) := by decide +kernel
theorem dX9_init_33 : decode cX9_init 33 = .ok (.putfield 28, 3) := by decide +kernel
theorem dX9_init_36 : decode cX9_init 36 = .ok (.aload_n 0, 1) := by decide +kernel
theorem dX9_init_37 : decode cX9_init 37 = .ok (.bipush 127, 2) := by decide +kernel
theorem dX9_init_39 : decode cX9_init 39 = .ok (.putfield 31, 3) := by decide +kernel
theorem dX9_init_42 : decode cX9_init 42 = .ok (.return_, 1) := by decide +kernel
set_option maxRecDepth 20000 in
theorem ggX9_advance_X9_drawDeviation : GoodIn wsX9_advance wsX9_drawDeviation := goodIn_r _ [8, 9, 10, 11, 12, 13, 14, 26, 27, 28, 29, 30, 31, 32] (by decide +kernel) (by decide +kernel)
set_option maxRecDepth 20000 in
theorem gX9_advance_X9_drawDeviation : GoodIn wsX9_advance (wsV RX9 34 RX9 yX9_drawDeviation wsX9_drawDeviation) := goodIn_app (goodIn_of _ (by decide +kernel)) ggX9_advance_X9_drawDeviation
set_option maxRecDepth 20000 in
theorem ggX9_advance_X9_sendNextBit : GoodIn wsX9_advance wsX9_sendNextBit := goodIn_r _ [18, 19, 20, 21, 22, 23, 7, 24, 25, 26, 27, 28, 29, 30, 31, 32] (by decide +kernel) (by decide +kernel)
set_option maxRecDepth 20000 in
theorem gX9_advance_X9_sendNextBit : GoodIn wsX9_advance (wsV RX9 39 RX9 yX9_sendNextBit wsX9_sendNextBit) := goodIn_app (goodIn_of _ (by decide +kernel)) ggX9_advance_X9_sendNextBit
theorem dX9_advance_0 : decode cX9_advance 0 = .ok (.aload_n 0, 1) := by decide +kernel
theorem dX9_advance_1 : decode cX9_advance 1 = .ok (.dup, 1) := by decide +kernel
theorem dX9_advance_2 : decode cX9_advance 2 = .ok (.getfield 9, 3) := by decide +kernel
theorem dX9_advance_5 : decode cX9_advance 5 = .ok (.aload_n 0, 1) := by decide +kernel
theorem dX9_advance_6 : decode cX9_advance 6 = .ok (.getfield 15, 3) := by decide +kernel
theorem dX9_advance_9 : decode cX9_advance 9 = .ok (.aload_n 0, 1) := by decide +kernel
theorem dX9_advance_10 : decode cX9_advance 10 = .ok (.invokevirtual 34, 3) := by decide +kernel
theorem dX9_advance_13 : decode cX9_advance 13 = .ok (.iadd, 1) := by decide +kernel
theorem dX9_advance_14 : decode cX9_advance 14 = .ok (.iadd, 1) := by decide +kernel
theorem dX9_advance_15 : decode cX9_advance 15 = .ok (.putfield 9, 3) := by decide +kernel
theorem dX9_advance_18 : decode cX9_advance 18 = .ok (.aload_n 0, 1) := by decide +kernel
theorem dX9_advance_19 : decode cX9_advance 19 = .ok (.getfield 9, 3) := by decide +kernel
theorem dX9_advance_22 : decode cX9_advance 22 = .ok (.ldc 38, 2) := by decide +kernel
theorem dX9_advance_24 : decode cX9_advance 24 = .ok (.if_icmp .lt 18, 3) := by decide +kernel
theorem dX9_advance_27 : decode cX9_advance 27 = .ok (.aload_n 0, 1) := by decide +kernel
theorem dX9_advance_28 : decode cX9_advance 28 = .ok (.dup, 1) := by decide +kernel
theorem dX9_advance_29 : decode cX9_advance 29 = .ok (.getfield 9, 3) := by decide +kernel
theorem dX9_advance_32 : decode cX9_advance 32 = .ok (.ldc 38, 2) := by decide +kernel
theorem dX9_advance_34 : decode cX9_advance 34 = .ok (.isub, 1) := by decide +kernel
theorem dX9_advance_35 : decode cX9_advance 35 = .ok (.putfield 9, 3) := by decide +kernel
theorem dX9_advance_38 : decode cX9_advance 38 = .ok (.aload_n 0, 1) := by decide +kernel
theorem dX9_advance_39 : decode cX9_advance 39 = .ok (.invokevirtual 39, 3) := by decide +kernel
theorem dX9_advance_42 : decode cX9_advance 42 = .ok (.return_, 1) := by decide +kernel
theorem dX9_drawDeviation_0 : decode cX9_drawDeviation 0 = .ok (.aload_n 0, 1) := by decide +kernel
theorem dX9_drawDeviation_1 : decode cX9_drawDeviation 1 = .ok (.getfield 18, 3) := by decide +kernel
theorem dX9_drawDeviation_4 : decode cX9_drawDeviation 4 = .ok (.ifCond .ne 5, 3) := by decide +kernel
theorem dX9_drawDeviation_7 : decode cX9_drawDeviation 7 = .ok (.iconst 0, 1) := by decide +kernel
theorem dX9_drawDeviation_8 : decode cX9_drawDeviation 8 = .ok (.ireturn, 1) := by decide +kernel
theorem dX9_drawDeviation_9 : decode cX9_drawDeviation 9 = .ok (.aload_n 0, 1) := by decide +kernel
theorem dX9_drawDeviation_10 : decode cX9_drawDeviation 10 = .ok (.ldc2_w 42, 3) := by decide +kernel
theorem dX9_drawDeviation_13 : decode cX9_drawDeviation 13 = .ok (.aload_n 0, 1) := by decide +kernel
theorem dX9_drawDeviation_14 : decode cX9_drawDeviation 14 = .ok (.getfield 21, 3) := by decide +kernel
theorem dX9_drawDeviation_17 : decode cX9_drawDeviation 17 = .ok (.lmul, 1) := by decide +kernel
theorem dX9_drawDeviation_18 : decode cX9_drawDeviation 18 = .ok (.ldc2_w 44, 3) := by decide +kernel
theorem dX9_drawDeviation_21 : decode cX9_drawDeviation 21 = .ok (.ladd, 1) := by decide +kernel
theorem dX9_drawDeviation_22 : decode cX9_drawDeviation 22 = .ok (.ldc2_w 46, 3) := by decide +kernel
theorem dX9_drawDeviation_25 : decode cX9_drawDeviation 25 = .ok (.lrem, 1) := by decide +kernel
theorem dX9_drawDeviation_26 : decode cX9_drawDeviation 26 = .ok (.putfield 21, 3) := by decide +kernel
theorem dX9_drawDeviation_29 : decode cX9_drawDeviation 29 = .ok (.aload_n 0, 1) := by decide +kernel
theorem dX9_drawDeviation_30 : decode cX9_drawDeviation 30 = .ok (.getfield 21, 3) := by decide +kernel
theorem dX9_drawDeviation_33 : decode cX9_drawDeviation 33 = .ok (.ldc2_w 48, 3) := by decide +kernel
theorem dX9_drawDeviation_36 : decode cX9_drawDeviation 36 = .ok (.ldiv, 1) := by decide +kernel
theorem dX9_drawDeviation_37 : decode cX9_drawDeviation 37 = .ok (.l2i, 1) := by decide +kernel
theorem dX9_drawDeviation_38 : decode cX9_drawDeviation 38 = .ok (.istore_n 1, 1) := by decide +kernel
theorem dX9_drawDeviation_39 : decode cX9_drawDeviation 39 = .ok (.iload_n 1, 1) := by decide +kernel
theorem dX9_drawDeviation_40 : decode cX9_drawDeviation 40 = .ok (.iconst 2, 1) := by decide +kernel
theorem dX9_drawDeviation_41 : decode cX9_drawDeviation 41 = .ok (.aload_n 0, 1) := by decide +kernel
theorem dX9_drawDeviation_42 : decode cX9_drawDeviation 42 = .ok (.getfield 18, 3) := by decide +kernel
theorem dX9_drawDeviation_45 : decode cX9_drawDeviation 45 = .ok (.imul, 1) := by decide +kernel
theorem dX9_drawDeviation_46 : decode cX9_drawDeviation 46 = .ok (.iconst 1, 1) := by decide +kernel
theorem dX9_drawDeviation_47 : decode cX9_drawDeviation 47 = .ok (.iadd, 1) := by decide +kernel
theorem dX9_drawDeviation_48 : decode cX9_drawDeviation 48 = .ok (.irem, 1) := by decide +kernel
theorem dX9_drawDeviation_49 : decode cX9_drawDeviation 49 = .ok (.aload_n 0, 1) := by decide +kernel
theorem dX9_drawDeviation_50 : decode cX9_drawDeviation 50 = .ok (.getfield 18, 3) := by decide +kernel
theorem dX9_drawDeviation_53 : decode cX9_drawDeviation 53 = .ok (.isub, 1) := by decide +kernel
theorem dX9_drawDeviation_54 : decode cX9_drawDeviation 54 = .ok (.ireturn, 1) := by decide +kernel
set_option maxRecDepth 20000 in
theorem ggX9_sendNextBit_X9_shiftRegister : GoodIn wsX9_sendNextBit wsX9_shiftRegister := goodIn_r _ [7, 8, 9, 10, 11, 12, 13, 14, 15] (by decide +kernel) (by decide +kernel)
set_option maxRecDepth 20000 in
theorem gX9_sendNextBit_X9_shiftRegister : GoodIn wsX9_sendNextBit (wsV RX9 50 RX9 yX9_shiftRegister wsX9_shiftRegister) := goodIn_app (goodIn_of _ (by decide +kernel)) ggX9_sendNextBit_X9_shiftRegister
theorem dX9_sendNextBit_0 : decode cX9_sendNextBit 0 = .ok (.aload_n 0, 1) := by decide +kernel
theorem dX9_sendNextBit_1 : decode cX9_sendNextBit 1 = .ok (.dup, 1) := by decide +kernel
theorem dX9_sendNextBit_2 : decode cX9_sendNextBit 2 = .ok (.getfield 25, 3) := by decide +kernel
theorem dX9_sendNextBit_5 : decode cX9_sendNextBit 5 = .ok (.iconst 1, 1) := by decide +kernel
theorem dX9_sendNextBit_6 : decode cX9_sendNextBit 6 = .ok (.iadd, 1) := by decide +kernel
theorem dX9_sendNextBit_7 : decode cX9_sendNextBit 7 = .ok (.putfield 25, 3) := by decide +kernel
theorem dX9_sendNextBit_10 : decode cX9_sendNextBit 10 = .ok (.aload_n 0, 1) := by decide +kernel
theorem dX9_sendNextBit_11 : decode cX9_sendNextBit 11 = .ok (.getfield 25, 3) := by decide +kernel
theorem dX9_sendNextBit_14 : decode cX9_sendNextBit 14 = .ok (.bipush 24, 2) := by decide +kernel
theorem dX9_sendNextBit_16 : decode cX9_sendNextBit 16 = .ok (.irem, 1) := by decide +kernel
theorem dX9_sendNextBit_17 : decode cX9_sendNextBit 17 = .ok (.istore_n 1, 1) := by decide +kernel
theorem dX9_sendNextBit_18 : decode cX9_sendNextBit 18 = .ok (.iload_n 1, 1) := by decide +kernel
theorem dX9_sendNextBit_19 : decode cX9_sendNextBit 19 = .ok (.bipush 6, 2) := by decide +kernel
theorem dX9_sendNextBit_21 : decode cX9_sendNextBit 21 = .ok (.if_icmp .ge 18, 3) := by decide +kernel
theorem dX9_sendNextBit_24 : decode cX9_sendNextBit 24 = .ok (.aload_n 0, 1) := by decide +kernel
theorem dX9_sendNextBit_25 : decode cX9_sendNextBit 25 = .ok (.bipush 52, 2) := by decide +kernel
theorem dX9_sendNextBit_27 : decode cX9_sendNextBit 27 = .ok (.iconst 5, 1) := by decide +kernel
theorem dX9_sendNextBit_28 : decode cX9_sendNextBit 28 = .ok (.iload_n 1, 1) := by decide +kernel
theorem dX9_sendNextBit_29 : decode cX9_sendNextBit 29 = .ok (.isub, 1) := by decide +kernel
theorem dX9_sendNextBit_30 : decode cX9_sendNextBit 30 = .ok (.ishr, 1) := by decide +kernel
theorem dX9_sendNextBit_31 : decode cX9_sendNextBit 31 = .ok (.iconst 1, 1) := by decide +kernel
theorem dX9_sendNextBit_32 : decode cX9_sendNextBit 32 = .ok (.iand, 1) := by decide +kernel
theorem dX9_sendNextBit_33 : decode cX9_sendNextBit 33 = .ok (.putfield 28, 3) := by decide +kernel
theorem dX9_sendNextBit_36 : decode cX9_sendNextBit 36 = .ok (.goto 11, 3) := by decide +kernel
theorem dX9_sendNextBit_39 : decode cX9_sendNextBit 39 = .ok (.aload_n 0, 1) := by decide +kernel
theorem dX9_sendNextBit_40 : decode cX9_sendNextBit 40 = .ok (.aload_n 0, 1) := by decide +kernel
theorem dX9_sendNextBit_41 : decode cX9_sendNextBit 41 = .ok (.invokevirtual 50, 3) := by decide +kernel
theorem dX9_sendNextBit_44 : decode cX9_sendNextBit 44 = .ok (.putfield 28, 3) := by decide +kernel
theorem dX9_sendNextBit_47 : decode cX9_sendNextBit 47 = .ok (.return_, 1) := by decide +kernel
theorem dX9_shiftRegister_0 : decode cX9_shiftRegister 0 = .ok (.aload_n 0, 1) := by decide +kernel
theorem dX9_shiftRegister_1 : decode cX9_shiftRegister 1 = .ok (.getfield 31, 3) := by decide +kernel
theorem dX9_shiftRegister_4 : decode cX9_shiftRegister 4 = .ok (.iconst 1, 1) := by decide +kernel
theorem dX9_shiftRegister_5 : decode cX9_shiftRegister 5 = .ok (.iand, 1) := by decide +kernel
theorem dX9_shiftRegister_6 : decode cX9_shiftRegister 6 = .ok (.istore_n 1, 1) := by decide +kernel
theorem dX9_shiftRegister_7 : decode cX9_shiftRegister 7 = .ok (.aload_n 0, 1) := by decide +kernel
theorem dX9_shiftRegister_8 : decode cX9_shiftRegister 8 = .ok (.getfield 31, 3) := by decide +kernel
theorem dX9_shiftRegister_11 : decode cX9_shiftRegister 11 = .ok (.iconst 1, 1) := by decide +kernel
theorem dX9_shiftRegister_12 : decode cX9_shiftRegister 12 = .ok (.ishr, 1) := by decide +kernel
theorem dX9_shiftRegister_13 : decode cX9_shiftRegister 13 = .ok (.iconst 1, 1) := by decide +kernel
theorem dX9_shiftRegister_14 : decode cX9_shiftRegister 14 = .ok (.iand, 1) := by decide +kernel
theorem dX9_shiftRegister_15 : decode cX9_shiftRegister 15 = .ok (.istore_n 2, 1) := by decide +kernel
theorem dX9_shiftRegister_16 : decode cX9_shiftRegister 16 = .ok (.aload_n 0, 1) := by decide +kernel
theorem dX9_shiftRegister_17 : decode cX9_shiftRegister 17 = .ok (.aload_n 0, 1) := by decide +kernel
theorem dX9_shiftRegister_18 : decode cX9_shiftRegister 18 = .ok (.getfield 31, 3) := by decide +kernel
theorem dX9_shiftRegister_21 : decode cX9_shiftRegister 21 = .ok (.iconst 1, 1) := by decide +kernel
theorem dX9_shiftRegister_22 : decode cX9_shiftRegister 22 = .ok (.ishr, 1) := by decide +kernel
theorem dX9_shiftRegister_23 : decode cX9_shiftRegister 23 = .ok (.iload_n 1, 1) := by decide +kernel
theorem dX9_shiftRegister_24 : decode cX9_shiftRegister 24 = .ok (.iload_n 2, 1) := by decide +kernel
theorem dX9_shiftRegister_25 : decode cX9_shiftRegister 25 = .ok (.ixor, 1) := by decide +kernel
theorem dX9_shiftRegister_26 : decode cX9_shiftRegister 26 = .ok (.bipush 6, 2) := by decide +kernel
theorem dX9_shiftRegister_28 : decode cX9_shiftRegister 28 = .ok (.ishl, 1) := by decide +kernel
theorem dX9_shiftRegister_29 : decode cX9_shiftRegister 29 = .ok (.ior, 1) := by decide +kernel
theorem dX9_shiftRegister_30 : decode cX9_shiftRegister 30 = .ok (.putfield 31, 3) := by decide +kernel
theorem dX9_shiftRegister_33 : decode cX9_shiftRegister 33 = .ok (.iload_n 1, 1) := by decide +kernel
theorem dX9_shiftRegister_34 : decode cX9_shiftRegister 34 = .ok (.ireturn, 1) := by decide +kernel
set_option maxRecDepth 20000 in
theorem ggX10_init_X9_init : GoodIn wsX10_init wsX9_init := goodIn_r _ [45, 46, 2, 3, 47, 48, 49, 50, 51, 52, 53, 116, 117, 118, 119, 120, 121, 122] (by decide +kernel) (by decide +kernel)
set_option maxRecDepth 20000 in
theorem gX10_init_X9_init_n9 : GoodIn wsX10_init (wsX9_init) := ggX10_init_X9_init
set_option maxRecDepth 20000 in
theorem ggX10_init_X3_init : GoodIn wsX10_init wsX3_init := goodIn_r _ [55, 56, 2, 3, 57, 58, 133] (by decide +kernel) (by decide +kernel)
set_option maxRecDepth 20000 in
theorem gX10_init_X3_init_n18 : GoodIn wsX10_init (wsX3_init) := ggX10_init_X3_init
set_option maxRecDepth 20000 in
theorem ggX10_init_X2_init : GoodIn wsX10_init wsX2_init := goodIn_r _ [60, 61, 2, 3, 62, 63, 64, 134, 135] (by decide +kernel) (by decide +kernel)
set_option maxRecDepth 20000 in
theorem gX10_init_X2_init_n25 : GoodIn wsX10_init (wsX2_init) := ggX10_init_X2_init
set_option maxRecDepth 20000 in
theorem ggX10_init_X5_init : GoodIn wsX10_init wsX5_init := goodIn_r _ [66, 67, 2, 3, 68, 136] (by decide +kernel) (by decide +kernel)
set_option maxRecDepth 20000 in
theorem gX10_init_X5_init_n32 : GoodIn wsX10_init (wsX5_init) := ggX10_init_X5_init
set_option maxRecDepth 20000 in
theorem ggX10_init_X6_init : GoodIn wsX10_init wsX6_init := goodIn_r _ [70, 71, 2, 3, 72, 73, 74, 75, 76, 77, 78, 137, 138, 139, 140, 141, 142, 143] (by decide +kernel) (by decide +kernel)
set_option maxRecDepth 20000 in
theorem gX10_init_X6_init_n39 : GoodIn wsX10_init (wsX6_init) := ggX10_init_X6_init
set_option maxRecDepth 20000 in
theorem ggX10_init_X4_init : GoodIn wsX10_init wsX4_init := goodIn_r _ [80, 81, 2, 3, 82, 83, 84, 85, 86, 144, 145, 146, 147, 148] (by decide +kernel) (by decide +kernel)
set_option maxRecDepth 20000 in
theorem gX10_init_X4_init_n46 : GoodIn wsX10_init (wsX4_init) := ggX10_init_X4_init
set_option maxRecDepth 20000 in
theorem ggX10_init_X1_init : GoodIn wsX10_init wsX1_init := goodIn_r _ [88, 89, 2, 3, 90, 91, 149, 150] (by decide +kernel) (by decide +kernel)
set_option maxRecDepth 20000 in
theorem gX10_init_X1_init_n53 : GoodIn wsX10_init (wsX1_init) := ggX10_init_X1_init
set_option maxRecDepth 20000 in
theorem ggX10_init_X8_init : GoodIn wsX10_init wsX8_init := goodIn_r _ [93, 94, 2, 3, 95, 96, 97, 98, 151, 152, 153, 154] (by decide +kernel) (by decide +kernel)
set_option maxRecDepth 20000 in
theorem gX10_init_X8_init_n60 : GoodIn wsX10_init (wsX8_init) := ggX10_init_X8_init
set_option maxRecDepth 20000 in
theorem ggX10_init_X7_init : GoodIn wsX10_init wsX7_init := goodIn_r _ [100, 101, 2, 3, 102, 103, 104, 105, 106, 155, 156, 157, 158] (by decide +kernel) (by decide +kernel)
set_option maxRecDepth 20000 in
theorem gX10_init_X7_init_n67 : GoodIn wsX10_init (wsX7_init) := ggX10_init_X7_init
set_option maxRecDepth 20000 in
theorem ggX10_init_X0_init : GoodIn wsX10_init wsX0_init := goodIn_r _ [108, 109, 2, 3, 110, 111, 112, 113, 114, 115, 159, 160, 161, 162, 163, 164] (by decide +kernel) (by decide +kernel)
set_option maxRecDepth 20000 in
theorem gX10_init_X0_init_n74 : GoodIn wsX10_init (wsX0_init) := ggX10_init_X0_init
theorem dX10_init_0 : decode cX10_init 0 = .ok (.aload_n 0, 1) := by decide +kernel
end
section
theorem dX10_init_1 : decode cX10_init 1 = .ok (.invokespecial 1, 3) := by decide +kernel
theorem dX10_init_4 : decode cX10_init 4 = .ok (.aload_n 0, 1) := by decide +kernel
theorem dX10_init_5 : decode cX10_init 5 = .ok (.new 7, 3) := by decide +kernel
theorem dX10_init_8 : decode cX10_init 8 = .ok (.dup, 1) := by decide +kernel
theorem dX10_init_9 : decode cX10_init 9 = .ok (.invokespecial 9, 3) := by decide +kernel
theorem dX10_init_12 : decode cX10_init 12 = .ok (.putfield 10, 3) := by decide +kernel
theorem dX10_init_15 : decode cX10_init 15 = .ok (.aload_n 0, 1) := by decide +kernel
theorem dX10_init_16 : decode cX10_init 16 = .ok (.new 16, 3) := by decide +kernel
theorem dX10_init_19 : decode cX10_init 19 = .ok (.dup, 1) := by decide +kernel
theorem dX10_init_20 : decode cX10_init 20 = .ok (.invokespecial 18, 3) := by decide +kernel
theorem dX10_init_23 : decode cX10_init 23 = .ok (.putfield 19, 3) := by decide +kernel
theorem dX10_init_26 : decode cX10_init 26 = .ok (.aload_n 0, 1) := by decide +kernel
theorem dX10_init_27 : decode cX10_init 27 = .ok (.new 23, 3) := by decide +kernel
theorem dX10_init_30 : decode cX10_init 30 = .ok (.dup, 1) := by decide +kernel
theorem dX10_init_31 : decode cX10_init 31 = .ok (.invokespecial 25, 3) := by decide +kernel
theorem dX10_init_34 : decode cX10_init 34 = .ok (.putfield 26, 3) := by decide +kernel
theorem dX10_init_37 : decode cX10_init 37 = .ok (.aload_n 0, 1) := by decide +kernel
theorem dX10_init_38 : decode cX10_init 38 = .ok (.new 30, 3) := by decide +kernel
theorem dX10_init_41 : decode cX10_init 41 = .ok (.dup, 1) := by decide +kernel
theorem dX10_init_42 : decode cX10_init 42 = .ok (.invokespecial 32, 3) := by decide +kernel
theorem dX10_init_45 : decode cX10_init 45 = .ok (.putfield 33, 3) := by decide +kernel
theorem dX10_init_48 : decode cX10_init 48 = .ok (.aload_n 0, 1) := by decide +kernel
theorem dX10_init_49 : decode cX10_init 49 = .ok (.new 37, 3) := by decide +kernel
theorem dX10_init_52 : decode cX10_init 52 = .ok (.dup, 1) := by decide +kernel
theorem dX10_init_53 : decode cX10_init 53 = .ok (.invokespecial 39, 3) := by decide +kernel
theorem dX10_init_56 : decode cX10_init 56 = .ok (.putfield 40, 3) := by decide +kernel
theorem dX10_init_59 : decode cX10_init 59 = .ok (.aload_n 0, 1) := by decide +kernel
theorem dX10_init_60 : decode cX10_init 60 = .ok (.new 44, 3) := by decide +kernel
theorem dX10_init_63 : decode cX10_init 63 = .ok (.dup, 1) := by decide +kernel
theorem dX10_init_64 : decode cX10_init 64 = .ok (.invokespecial 46, 3) := by decide +kernel
theorem dX10_init_67 : decode cX10_init 67 = .ok (.putfield 47, 3) := by decide +kernel
theorem dX10_init_70 : decode cX10_init 70 = .ok (.aload_n 0, 1) := by decide +kernel
theorem dX10_init_71 : decode cX10_init 71 = .ok (.new 51, 3) := by decide +kernel
theorem dX10_init_74 : decode cX10_init 74 = .ok (.dup, 1) := by decide +kernel
theorem dX10_init_75 : decode cX10_init 75 = .ok (.invokespecial 53, 3) := by decide +kernel
theorem dX10_init_78 : decode cX10_init 78 = .ok (.putfield 54, 3) := by decide +kernel
theorem dX10_init_81 : decode cX10_init 81 = .ok (.aload_n 0, 1) := by decide +kernel
theorem dX10_init_82 : decode cX10_init 82 = .ok (.new 58, 3) := by decide +kernel
theorem dX10_init_85 : decode cX10_init 85 = .ok (.dup, 1) := by decide +kernel
theorem dX10_init_86 : decode cX10_init 86 = .ok (.invokespecial 60, 3) := by decide +kernel
theorem dX10_init_89 : decode cX10_init 89 = .ok (.putfield 61, 3) := by decide +kernel
theorem dX10_init_92 : decode cX10_init 92 = .ok (.aload_n 0, 1) := by decide +kernel
theorem dX10_init_93 : decode cX10_init 93 = .ok (.new 65, 3) := by decide +kernel
theorem dX10_init_96 : decode cX10_init 96 = .ok (.dup, 1) := by decide +kernel
theorem dX10_init_97 : decode cX10_init 97 = .ok (.invokespecial 67, 3) := by decide +kernel
theorem dX10_init_100 : decode cX10_init 100 = .ok (.putfield 68, 3) := by decide +kernel
theorem dX10_init_103 : decode cX10_init 103 = .ok (.aload_n 0, 1) := by decide +kernel
theorem dX10_init_104 : decode cX10_init 104 = .ok (.new 72, 3) := by decide +kernel
theorem dX10_init_107 : decode cX10_init 107 = .ok (.dup, 1) := by decide +kernel
theorem dX10_init_108 : decode cX10_init 108 = .ok (.invokespecial 74, 3) := by decide +kernel
theorem dX10_init_111 : decode cX10_init 111 = .ok (.putfield 75, 3) := by decide +kernel
theorem dX10_init_114 : decode cX10_init 114 = .ok (.return_, 1) := by decide +kernel
set_option maxRecDepth 20000 in
theorem ggX10_setOffset_X10_isWithin : GoodIn wsX10_setOffset wsX10_isWithin := goodIn_r _ [8] (by decide +kernel) (by decide +kernel)
set_option maxRecDepth 20000 in
theorem gX10_setOffset_X10_isWithin : GoodIn wsX10_setOffset (va_wsS RX10 79 yX10_isWithin wsX10_isWithin) := goodIn_app (goodIn_of _ (by decide +kernel)) ggX10_setOffset_X10_isWithin
theorem dX10_setOffset_0 : decode cX10_setOffset 0 = .ok (.iload_n 1, 1) := by decide +kernel
theorem dX10_setOffset_1 : decode cX10_setOffset 1 = .ok (.sipush (-300), 3) := by decide +kernel
theorem dX10_setOffset_4 : decode cX10_setOffset 4 = .ok (.sipush 300, 3) := by decide +kernel
theorem dX10_setOffset_7 : decode cX10_setOffset 7 = .ok (.invokestatic 79, 3) := by decide +kernel
theorem dX10_setOffset_10 : decode cX10_setOffset 10 = .ok (.ifCond .ne 13, 3) := by decide +kernel
theorem dX10_setOffset_13 : decode cX10_setOffset 13 = .ok (.new 83, 3) := by decide +kernel
theorem dX10_setOffset_16 : decode cX10_setOffset 16 = .ok (.dup, 1) := by decide +kernel
theorem dX10_setOffset_17 : decode cX10_setOffset 17 = .ok (.ldc 85, 2) := by decide +kernel
theorem dX10_setOffset_19 : decode cX10_setOffset 19 = .ok (.invokespecial 87, 3) := by decide +kernel
theorem dX10_setOffset_22 : decode cX10_setOffset 22 = .ok (.athrow, 1) := by decide +kernel
theorem dX10_setOffset_23 : decode cX10_setOffset 23 = .ok (.aload_n 0, 1) := by decide +kernel
theorem dX10_setOffset_24 : decode cX10_setOffset 24 = .ok (.getfield 10, 3) := by decide +kernel
theorem dX10_setOffset_27 : decode cX10_setOffset 27 = .ok (.sipush 4096, 3) := by decide +kernel
theorem dX10_setOffset_30 : decode cX10_setOffset 30 = .ok (.iload_n 1, 1) := by decide +kernel
theorem dX10_setOffset_31 : decode cX10_setOffset 31 = .ok (.iadd, 1) := by decide +kernel
theorem dX10_setOffset_32 : decode cX10_setOffset 32 = .ok (.putfield 90, 3) := by decide +kernel
theorem dX10_setOffset_35 : decode cX10_setOffset 35 = .ok (.aload_n 0, 1) := by decide +kernel
theorem dX10_setOffset_36 : decode cX10_setOffset 36 = .ok (.getfield 10, 3) := by decide +kernel
theorem dX10_setOffset_39 : decode cX10_setOffset 39 = .ok (.getfield 90, 3) := by decide +kernel
theorem dX10_setOffset_42 : decode cX10_setOffset 42 = .ok (.ireturn, 1) := by decide +kernel
set_option maxRecDepth 20000 in
theorem ggX10_setJitter_X10_isWithin : GoodIn wsX10_setJitter wsX10_isWithin := goodIn_r _ [9] (by decide +kernel) (by decide +kernel)
set_option maxRecDepth 20000 in
theorem gX10_setJitter_X10_isWithin : GoodIn wsX10_setJitter (va_wsS RX10 79 yX10_isWithin wsX10_isWithin) := goodIn_app (goodIn_of _ (by decide +kernel)) ggX10_setJitter_X10_isWithin
theorem dX10_setJitter_0 : decode cX10_setJitter 0 = .ok (.iload_n 1, 1) := by decide +kernel
theorem dX10_setJitter_1 : decode cX10_setJitter 1 = .ok (.iconst 0, 1) := by decide +kernel
theorem dX10_setJitter_2 : decode cX10_setJitter 2 = .ok (.sipush 2000, 3) := by decide +kernel
theorem dX10_setJitter_5 : decode cX10_setJitter 5 = .ok (.invokestatic 79, 3) := by decide +kernel
theorem dX10_setJitter_8 : decode cX10_setJitter 8 = .ok (.ifCond .ne 13, 3) := by decide +kernel
theorem dX10_setJitter_11 : decode cX10_setJitter 11 = .ok (.new 83, 3) := by decide +kernel
theorem dX10_setJitter_14 : decode cX10_setJitter 14 = .ok (.dup, 1) := by decide +kernel
theorem dX10_setJitter_15 : decode cX10_setJitter 15 = .ok (.ldc 94, 2) := by decide +kernel
theorem dX10_setJitter_17 : decode cX10_setJitter 17 = .ok (.invokespecial 87, 3) := by decide +kernel
theorem dX10_setJitter_20 : decode cX10_setJitter 20 = .ok (.athrow, 1) := by decide +kernel
theorem dX10_setJitter_21 : decode cX10_setJitter 21 = .ok (.iload_n 2, 1) := by decide +kernel
theorem dX10_setJitter_22 : decode cX10_setJitter 22 = .ok (.ifCond .ge 13, 3) := by decide +kernel
theorem dX10_setJitter_25 : decode cX10_setJitter 25 = .ok (.new 83, 3) := by decide +kernel
theorem dX10_setJitter_28 : decode cX10_setJitter 28 = .ok (.dup, 1) := by decide +kernel
theorem dX10_setJitter_29 : decode cX10_setJitter 29 = .ok (.ldc 96, 2) := by decide +kernel
theorem dX10_setJitter_31 : decode cX10_setJitter 31 = .ok (.invokespecial 87, 3) := by decide +kernel
theorem dX10_setJitter_34 : decode cX10_setJitter 34 = .ok (.athrow, 1) := by decide +kernel
theorem dX10_setJitter_35 : decode cX10_setJitter 35 = .ok (.aload_n 0, 1) := by decide +kernel
theorem dX10_setJitter_36 : decode cX10_setJitter 36 = .ok (.getfield 10, 3) := by decide +kernel
theorem dX10_setJitter_39 : decode cX10_setJitter 39 = .ok (.iload_n 1, 1) := by decide +kernel
theorem dX10_setJitter_40 : decode cX10_setJitter 40 = .ok (.putfield 98, 3) := by decide +kernel
theorem dX10_setJitter_43 : decode cX10_setJitter 43 = .ok (.aload_n 0, 1) := by decide +kernel
theorem dX10_setJitter_44 : decode cX10_setJitter 44 = .ok (.getfield 10, 3) := by decide +kernel
theorem dX10_setJitter_47 : decode cX10_setJitter 47 = .ok (.iload_n 2, 1) := by decide +kernel
theorem dX10_setJitter_48 : decode cX10_setJitter 48 = .ok (.i2l, 1) := by decide +kernel
theorem dX10_setJitter_49 : decode cX10_setJitter 49 = .ok (.putfield 101, 3) := by decide +kernel
theorem dX10_setJitter_52 : decode cX10_setJitter 52 = .ok (.return_, 1) := by decide +kernel
set_option maxRecDepth 20000 in
theorem ggX10_setDetector_X10_isWithin : GoodIn wsX10_setDetector wsX10_isWithin := goodIn_r _ [8] (by decide +kernel) (by decide +kernel)
set_option maxRecDepth 20000 in
theorem gX10_setDetector_X10_isWithin : GoodIn wsX10_setDetector (va_wsS RX10 79 yX10_isWithin wsX10_isWithin) := goodIn_app (goodIn_of _ (by decide +kernel)) ggX10_setDetector_X10_isWithin
theorem dX10_setDetector_0 : decode cX10_setDetector 0 = .ok (.iload_n 1, 1) := by decide +kernel
theorem dX10_setDetector_1 : decode cX10_setDetector 1 = .ok (.iconst 0, 1) := by decide +kernel
theorem dX10_setDetector_2 : decode cX10_setDetector 2 = .ok (.iconst 4, 1) := by decide +kernel
theorem dX10_setDetector_3 : decode cX10_setDetector 3 = .ok (.invokestatic 79, 3) := by decide +kernel
theorem dX10_setDetector_6 : decode cX10_setDetector 6 = .ok (.ifCond .ne 13, 3) := by decide +kernel
theorem dX10_setDetector_9 : decode cX10_setDetector 9 = .ok (.new 83, 3) := by decide +kernel
theorem dX10_setDetector_12 : decode cX10_setDetector 12 = .ok (.dup, 1) := by decide +kernel
theorem dX10_setDetector_13 : decode cX10_setDetector 13 = .ok (.ldc 105, 2) := by decide +kernel
theorem dX10_setDetector_15 : decode cX10_setDetector 15 = .ok (.invokespecial 87, 3) := by decide +kernel
theorem dX10_setDetector_18 : decode cX10_setDetector 18 = .ok (.athrow, 1) := by decide +kernel
theorem dX10_setDetector_19 : decode cX10_setDetector 19 = .ok (.aload_n 0, 1) := by decide +kernel
theorem dX10_setDetector_20 : decode cX10_setDetector 20 = .ok (.getfield 40, 3) := by decide +kernel
theorem dX10_setDetector_23 : decode cX10_setDetector 23 = .ok (.getfield 107, 3) := by decide +kernel
theorem dX10_setDetector_26 : decode cX10_setDetector 26 = .ok (.istore_n 2, 1) := by decide +kernel
theorem dX10_setDetector_27 : decode cX10_setDetector 27 = .ok (.aload_n 0, 1) := by decide +kernel
theorem dX10_setDetector_28 : decode cX10_setDetector 28 = .ok (.getfield 40, 3) := by decide +kernel
theorem dX10_setDetector_31 : decode cX10_setDetector 31 = .ok (.iload_n 1, 1) := by decide +kernel
theorem dX10_setDetector_32 : decode cX10_setDetector 32 = .ok (.putfield 107, 3) := by decide +kernel
theorem dX10_setDetector_35 : decode cX10_setDetector 35 = .ok (.iload_n 2, 1) := by decide +kernel
theorem dX10_setDetector_36 : decode cX10_setDetector 36 = .ok (.ireturn, 1) := by decide +kernel
set_option maxRecDepth 20000 in
theorem ggX10_setGains_X10_isWithin : GoodIn wsX10_setGains wsX10_isWithin := goodIn_r _ [9] (by decide +kernel) (by decide +kernel)
set_option maxRecDepth 20000 in
theorem gX10_setGains_X10_isWithin : GoodIn wsX10_setGains (va_wsS RX10 79 yX10_isWithin wsX10_isWithin) := goodIn_app (goodIn_of _ (by decide +kernel)) ggX10_setGains_X10_isWithin
theorem dX10_setGains_0 : decode cX10_setGains 0 = .ok (.iload_n 1, 1) := by decide +kernel
theorem dX10_setGains_1 : decode cX10_setGains 1 = .ok (.iconst 0, 1) := by decide +kernel
theorem dX10_setGains_2 : decode cX10_setGains 2 = .ok (.bipush 64, 2) := by decide +kernel
theorem dX10_setGains_4 : decode cX10_setGains 4 = .ok (.invokestatic 79, 3) := by decide +kernel
theorem dX10_setGains_7 : decode cX10_setGains 7 = .ok (.ifCond .ne 13, 3) := by decide +kernel
theorem dX10_setGains_10 : decode cX10_setGains 10 = .ok (.new 83, 3) := by decide +kernel
theorem dX10_setGains_13 : decode cX10_setGains 13 = .ok (.dup, 1) := by decide +kernel
theorem dX10_setGains_14 : decode cX10_setGains 14 = .ok (.ldc 110, 2) := by decide +kernel
theorem dX10_setGains_16 : decode cX10_setGains 16 = .ok (.invokespecial 87, 3) := by decide +kernel
theorem dX10_setGains_19 : decode cX10_setGains 19 = .ok (.athrow, 1) := by decide +kernel
theorem dX10_setGains_20 : decode cX10_setGains 20 = .ok (.iload_n 2, 1) := by decide +kernel
theorem dX10_setGains_21 : decode cX10_setGains 21 = .ok (.iconst 0, 1) := by decide +kernel
theorem dX10_setGains_22 : decode cX10_setGains 22 = .ok (.bipush 64, 2) := by decide +kernel
theorem dX10_setGains_24 : decode cX10_setGains 24 = .ok (.invokestatic 79, 3) := by decide +kernel
theorem dX10_setGains_27 : decode cX10_setGains 27 = .ok (.ifCond .ne 13, 3) := by decide +kernel
theorem dX10_setGains_30 : decode cX10_setGains 30 = .ok (.new 83, 3) := by decide +kernel
theorem dX10_setGains_33 : decode cX10_setGains 33 = .ok (.dup, 1) := by decide +kernel
theorem dX10_setGains_34 : decode cX10_setGains 34 = .ok (.ldc 112, 2) := by decide +kernel
theorem dX10_setGains_36 : decode cX10_setGains 36 = .ok (.invokespecial 87, 3) := by decide +kernel
theorem dX10_setGains_39 : decode cX10_setGains 39 = .ok (.athrow, 1) := by decide +kernel
theorem dX10_setGains_40 : decode cX10_setGains 40 = .ok (.aload_n 0, 1) := by decide +kernel
theorem dX10_setGains_41 : decode cX10_setGains 41 = .ok (.getfield 47, 3) := by decide +kernel
theorem dX10_setGains_44 : decode cX10_setGains 44 = .ok (.iload_n 1, 1) := by decide +kernel
theorem dX10_setGains_45 : decode cX10_setGains 45 = .ok (.putfield 114, 3) := by decide +kernel
theorem dX10_setGains_48 : decode cX10_setGains 48 = .ok (.aload_n 0, 1) := by decide +kernel
theorem dX10_setGains_49 : decode cX10_setGains 49 = .ok (.getfield 47, 3) := by decide +kernel
theorem dX10_setGains_52 : decode cX10_setGains 52 = .ok (.iload_n 2, 1) := by decide +kernel
theorem dX10_setGains_53 : decode cX10_setGains 53 = .ok (.putfield 117, 3) := by decide +kernel
theorem dX10_setGains_56 : decode cX10_setGains 56 = .ok (.return_, 1) := by decide +kernel
set_option maxRecDepth 20000 in
theorem ggX10_setPhase_X10_isWithin : GoodIn wsX10_setPhase wsX10_isWithin := goodIn_r _ [9] (by decide +kernel) (by decide +kernel)
set_option maxRecDepth 20000 in
theorem gX10_setPhase_X10_isWithin : GoodIn wsX10_setPhase (va_wsS RX10 79 yX10_isWithin wsX10_isWithin) := goodIn_app (goodIn_of _ (by decide +kernel)) ggX10_setPhase_X10_isWithin
theorem dX10_setPhase_0 : decode cX10_setPhase 0 = .ok (.iload_n 1, 1) := by decide +kernel
theorem dX10_setPhase_1 : decode cX10_setPhase 1 = .ok (.iconst 0, 1) := by decide +kernel
theorem dX10_setPhase_2 : decode cX10_setPhase 2 = .ok (.ldc 120, 2) := by decide +kernel
theorem dX10_setPhase_4 : decode cX10_setPhase 4 = .ok (.invokestatic 79, 3) := by decide +kernel
theorem dX10_setPhase_7 : decode cX10_setPhase 7 = .ok (.ifCond .ne 13, 3) := by decide +kernel
theorem dX10_setPhase_10 : decode cX10_setPhase 10 = .ok (.new 83, 3) := by decide +kernel
theorem dX10_setPhase_13 : decode cX10_setPhase 13 = .ok (.dup, 1) := by decide +kernel
theorem dX10_setPhase_14 : decode cX10_setPhase 14 = .ok (.ldc 121, 2) := by decide +kernel
theorem dX10_setPhase_16 : decode cX10_setPhase 16 = .ok (.invokespecial 87, 3) := by decide +kernel
theorem dX10_setPhase_19 : decode cX10_setPhase 19 = .ok (.athrow, 1) := by decide +kernel
theorem dX10_setPhase_20 : decode cX10_setPhase 20 = .ok (.aload_n 0, 1) := by decide +kernel
theorem dX10_setPhase_21 : decode cX10_setPhase 21 = .ok (.getfield 33, 3) := by decide +kernel
theorem dX10_setPhase_24 : decode cX10_setPhase 24 = .ok (.getfield 123, 3) := by decide +kernel
theorem dX10_setPhase_27 : decode cX10_setPhase 27 = .ok (.istore_n 2, 1) := by decide +kernel
theorem dX10_setPhase_28 : decode cX10_setPhase 28 = .ok (.aload_n 0, 1) := by decide +kernel
theorem dX10_setPhase_29 : decode cX10_setPhase 29 = .ok (.getfield 33, 3) := by decide +kernel
theorem dX10_setPhase_32 : decode cX10_setPhase 32 = .ok (.iload_n 1, 1) := by decide +kernel
theorem dX10_setPhase_33 : decode cX10_setPhase 33 = .ok (.putfield 123, 3) := by decide +kernel
theorem dX10_setPhase_36 : decode cX10_setPhase 36 = .ok (.iload_n 2, 1) := by decide +kernel
theorem dX10_setPhase_37 : decode cX10_setPhase 37 = .ok (.ireturn, 1) := by decide +kernel
theorem dX10_release_0 : decode cX10_release 0 = .ok (.aload_n 0, 1) := by decide +kernel
theorem dX10_release_1 : decode cX10_release 1 = .ok (.getfield 47, 3) := by decide +kernel
theorem dX10_release_4 : decode cX10_release 4 = .ok (.iconst 0, 1) := by decide +kernel
theorem dX10_release_5 : decode cX10_release 5 = .ok (.putfield 126, 3) := by decide +kernel
theorem dX10_release_8 : decode cX10_release 8 = .ok (.aload_n 0, 1) := by decide +kernel
theorem dX10_release_9 : decode cX10_release 9 = .ok (.getfield 47, 3) := by decide +kernel
theorem dX10_release_12 : decode cX10_release 12 = .ok (.iconst 0, 1) := by decide +kernel
theorem dX10_release_13 : decode cX10_release 13 = .ok (.putfield 129, 3) := by decide +kernel
theorem dX10_release_16 : decode cX10_release 16 = .ok (.return_, 1) := by decide +kernel
set_option maxRecDepth 20000 in
theorem ggX10_run_X10_isWithin : GoodIn wsX10_run wsX10_isWithin := goodIn_r _ [8] (by decide +kernel) (by decide +kernel)
set_option maxRecDepth 20000 in
theorem gX10_run_X10_isWithin : GoodIn wsX10_run (va_wsS RX10 79 yX10_isWithin wsX10_isWithin) := goodIn_app (goodIn_of _ (by decide +kernel)) ggX10_run_X10_isWithin
set_option maxRecDepth 20000 in
theorem ggX10_run_X10_passTick : GoodIn wsX10_run wsX10_passTick := goodIn_r _ [12, 13, 14, 15, 16, 17, 18, 19, 20, 21, 22, 23, 24, 25, 26, 27, 28, 29, 30, 31, 32, 33, 34, 35, 36, 37, 38, 39, 40, 41, 42, 43, 44, 45, 46, 47, 48, 49, 50, 51, 52, 53, 54, 55, 56, 57, 58, 59, 60, 61, 62, 63, 64, 65, 66, 67, 68, 69, 70, 71, 72, 73, 74, 75, 76, 77, 78, 6, 7, 8, 79, 80, 81, 82, 83, 84, 85, 86, 87, 88, 89, 90, 91, 92, 93, 94, 95, 96, 97, 98, 99, 100, 101, 102, 103, 104, 105, 106, 107, 108, 109, 110, 111, 112, 113, 114, 115, 116, 117, 118, 119, 120, 121, 122, 123, 124, 125, 126, 127, 128, 129, 130, 131, 132, 133, 134, 135, 136, 137, 138, 139, 140, 141, 142, 143, 144, 145, 146, 147, 148, 149, 150, 151, 152, 153, 154, 3, 155, 156, 157, 158, 159, 160, 161, 162, 163, 164, 165, 166, 167, 168, 169, 170, 171, 172, 173, 174, 175, 176, 177, 178, 179, 180, 181, 182, 183, 184, 185, 186, 187, 188, 189, 190, 191, 192, 193, 194, 195, 196, 197, 198, 199, 200, 201, 202, 203, 204, 205, 206, 207, 208, 209, 210, 211, 212, 213, 214, 215, 216, 217, 218, 219, 220, 221, 222, 223, 224, 225, 226, 227, 228, 229, 230, 231, 232, 233, 234, 235, 236, 237, 240, 241, 242, 243, 244, 245, 246, 247, 248, 249, 250, 251, 252, 253, 254, 255, 256, 257, 258, 259, 260, 261, 262, 238, 239, 263, 264, 265, 266, 267, 268, 269, 270, 271, 272, 273, 274, 275, 276] (by decide +kernel) (by decide +kernel)
set_option maxRecDepth 20000 in
theorem gX10_run_X10_passTick : GoodIn wsX10_run (wsV RX10 137 RX10 yX10_passTick wsX10_passTick) := goodIn_app (goodIn_of _ (by decide +kernel)) ggX10_run_X10_passTick
theorem dX10_run_0 : decode cX10_run 0 = .ok (.iload_n 1, 1) := by decide +kernel
theorem dX10_run_1 : decode cX10_run 1 = .ok (.iconst 1, 1) := by decide +kernel
theorem dX10_run_2 : decode cX10_run 2 = .ok (.sipush 800, 3) := by decide +kernel
theorem dX10_run_5 : decode cX10_run 5 = .ok (.invokestatic 79, 3) := by decide +kernel
theorem dX10_run_8 : decode cX10_run 8 = .ok (.ifCond .ne 13, 3) := by decide +kernel
theorem dX10_run_11 : decode cX10_run 11 = .ok (.new 83, 3) := by decide +kernel
theorem dX10_run_14 : decode cX10_run 14 = .ok (.dup, 1) := by decide +kernel
theorem dX10_run_15 : decode cX10_run 15 = .ok (.ldc 132, 2) := by decide +kernel
theorem dX10_run_17 : decode cX10_run 17 = .ok (.invokespecial 87, 3) := by decide +kernel
theorem dX10_run_20 : decode cX10_run 20 = .ok (.athrow, 1) := by decide +kernel
theorem dX10_run_21 : decode cX10_run 21 = .ok (.aload_n 0, 1) := by decide +kernel
theorem dX10_run_22 : decode cX10_run 22 = .ok (.getfield 54, 3) := by decide +kernel
theorem dX10_run_25 : decode cX10_run 25 = .ok (.getfield 134, 3) := by decide +kernel
theorem dX10_run_28 : decode cX10_run 28 = .ok (.istore_n 2, 1) := by decide +kernel
theorem dX10_run_29 : decode cX10_run 29 = .ok (.iconst 0, 1) := by decide +kernel
theorem dX10_run_30 : decode cX10_run 30 = .ok (.istore_n 3, 1) := by decide +kernel
theorem dX10_run_31 : decode cX10_run 31 = .ok (.iload_n 3, 1) := by decide +kernel
theorem dX10_run_32 : decode cX10_run 32 = .ok (.iload_n 1, 1) := by decide +kernel
theorem dX10_run_33 : decode cX10_run 33 = .ok (.if_icmp .ge 13, 3) := by decide +kernel
theorem dX10_run_36 : decode cX10_run 36 = .ok (.aload_n 0, 1) := by decide +kernel
theorem dX10_run_37 : decode cX10_run 37 = .ok (.invokevirtual 137, 3) := by decide +kernel
theorem dX10_run_40 : decode cX10_run 40 = .ok (.iinc 3 1, 3) := by decide +kernel
theorem dX10_run_43 : decode cX10_run 43 = .ok (.goto (-12), 3) := by decide +kernel
theorem dX10_run_46 : decode cX10_run 46 = .ok (.aload_n 0, 1) := by decide +kernel
theorem dX10_run_47 : decode cX10_run 47 = .ok (.getfield 54, 3) := by decide +kernel
theorem dX10_run_50 : decode cX10_run 50 = .ok (.getfield 134, 3) := by decide +kernel
theorem dX10_run_53 : decode cX10_run 53 = .ok (.iload_n 2, 1) := by decide +kernel
theorem dX10_run_54 : decode cX10_run 54 = .ok (.isub, 1) := by decide +kernel
theorem dX10_run_55 : decode cX10_run 55 = .ok (.ireturn, 1) := by decide +kernel
theorem dX10_ticks_0 : decode cX10_ticks 0 = .ok (.aload_n 0, 1) := by decide +kernel
theorem dX10_ticks_1 : decode cX10_ticks 1 = .ok (.getfield 26, 3) := by decide +kernel
theorem dX10_ticks_4 : decode cX10_ticks 4 = .ok (.getfield 140, 3) := by decide +kernel
theorem dX10_ticks_7 : decode cX10_ticks 7 = .ok (.ireturn, 1) := by decide +kernel
theorem dX10_sent_0 : decode cX10_sent 0 = .ok (.aload_n 0, 1) := by decide +kernel
theorem dX10_sent_1 : decode cX10_sent 1 = .ok (.getfield 10, 3) := by decide +kernel
theorem dX10_sent_4 : decode cX10_sent 4 = .ok (.getfield 143, 3) := by decide +kernel
theorem dX10_sent_7 : decode cX10_sent 7 = .ok (.ireturn, 1) := by decide +kernel
theorem dX10_line_0 : decode cX10_line 0 = .ok (.aload_n 0, 1) := by decide +kernel
theorem dX10_line_1 : decode cX10_line 1 = .ok (.getfield 10, 3) := by decide +kernel
theorem dX10_line_4 : decode cX10_line 4 = .ok (.getfield 146, 3) := by decide +kernel
theorem dX10_line_7 : decode cX10_line 7 = .ok (.ireturn, 1) := by decide +kernel
set_option maxRecDepth 20000 in
theorem ggX10_level_X3_findLevel : GoodIn wsX10_level wsX3_findLevel := goodIn_r _ [6, 7, 8, 9, 10, 11, 12, 13, 14, 25] (by decide +kernel) (by decide +kernel)
set_option maxRecDepth 20000 in
theorem gX10_level_X3_findLevel : GoodIn wsX10_level (wsV RX10 149 RX3 yX3_findLevel wsX3_findLevel) := goodIn_app (goodIn_of _ (by decide +kernel)) ggX10_level_X3_findLevel
theorem dX10_level_0 : decode cX10_level 0 = .ok (.aload_n 0, 1) := by decide +kernel
theorem dX10_level_1 : decode cX10_level 1 = .ok (.getfield 19, 3) := by decide +kernel
theorem dX10_level_4 : decode cX10_level 4 = .ok (.invokevirtual 149, 3) := by decide +kernel
theorem dX10_level_7 : decode cX10_level 7 = .ok (.ireturn, 1) := by decide +kernel
theorem dX10_sender_0 : decode cX10_sender 0 = .ok (.aload_n 0, 1) := by decide +kernel
theorem dX10_sender_1 : decode cX10_sender 1 = .ok (.getfield 10, 3) := by decide +kernel
theorem dX10_sender_4 : decode cX10_sender 4 = .ok (.getfield 153, 3) := by decide +kernel
theorem dX10_sender_7 : decode cX10_sender 7 = .ok (.ireturn, 1) := by decide +kernel
theorem dX10_receiver_0 : decode cX10_receiver 0 = .ok (.aload_n 0, 1) := by decide +kernel
theorem dX10_receiver_1 : decode cX10_receiver 1 = .ok (.getfield 33, 3) := by decide +kernel
theorem dX10_receiver_4 : decode cX10_receiver 4 = .ok (.getfield 123, 3) := by decide +kernel
theorem dX10_receiver_7 : decode cX10_receiver 7 = .ok (.ireturn, 1) := by decide +kernel
theorem dX10_error_0 : decode cX10_error 0 = .ok (.aload_n 0, 1) := by decide +kernel
theorem dX10_error_1 : decode cX10_error 1 = .ok (.getfield 47, 3) := by decide +kernel
theorem dX10_error_4 : decode cX10_error 4 = .ok (.getfield 154, 3) := by decide +kernel
theorem dX10_error_7 : decode cX10_error 7 = .ok (.ireturn, 1) := by decide +kernel
theorem dX10_integral_0 : decode cX10_integral 0 = .ok (.aload_n 0, 1) := by decide +kernel
theorem dX10_integral_1 : decode cX10_integral 1 = .ok (.getfield 47, 3) := by decide +kernel
theorem dX10_integral_4 : decode cX10_integral 4 = .ok (.getfield 126, 3) := by decide +kernel
theorem dX10_integral_7 : decode cX10_integral 7 = .ok (.ireturn, 1) := by decide +kernel
theorem dX10_control_0 : decode cX10_control 0 = .ok (.aload_n 0, 1) := by decide +kernel
theorem dX10_control_1 : decode cX10_control 1 = .ok (.getfield 47, 3) := by decide +kernel
theorem dX10_control_4 : decode cX10_control 4 = .ok (.getfield 129, 3) := by decide +kernel
theorem dX10_control_7 : decode cX10_control 7 = .ok (.ireturn, 1) := by decide +kernel
theorem dX10_received_0 : decode cX10_received 0 = .ok (.aload_n 0, 1) := by decide +kernel
theorem dX10_received_1 : decode cX10_received 1 = .ok (.getfield 54, 3) := by decide +kernel
theorem dX10_received_4 : decode cX10_received 4 = .ok (.getfield 134, 3) := by decide +kernel
theorem dX10_received_7 : decode cX10_received 7 = .ok (.ireturn, 1) := by decide +kernel
set_option maxRecDepth 20000 in
theorem ggX10_bit_X1_remembers : GoodIn wsX10_bit wsX1_remembers := goodIn_r _ [8, 9, 10, 11, 12, 13, 14, 15, 16, 32, 33] (by decide +kernel) (by decide +kernel)
set_option maxRecDepth 20000 in
theorem gX10_bit_X1_remembers : GoodIn wsX10_bit (wsV RX10 157 RX1 yX1_remembers wsX1_remembers) := goodIn_app (goodIn_of _ (by decide +kernel)) ggX10_bit_X1_remembers
set_option maxRecDepth 20000 in
theorem ggX10_bit_X1_findBit : GoodIn wsX10_bit wsX1_findBit := goodIn_r _ [20, 21, 32, 33] (by decide +kernel) (by decide +kernel)
set_option maxRecDepth 20000 in
theorem gX10_bit_X1_findBit : GoodIn wsX10_bit (wsV RX10 166 RX1 yX1_findBit wsX1_findBit) := goodIn_app (goodIn_of _ (by decide +kernel)) ggX10_bit_X1_findBit
theorem dX10_bit_0 : decode cX10_bit 0 = .ok (.aload_n 0, 1) := by decide +kernel
theorem dX10_bit_1 : decode cX10_bit 1 = .ok (.getfield 54, 3) := by decide +kernel
theorem dX10_bit_4 : decode cX10_bit 4 = .ok (.iload_n 1, 1) := by decide +kernel
theorem dX10_bit_5 : decode cX10_bit 5 = .ok (.invokevirtual 157, 3) := by decide +kernel
theorem dX10_bit_8 : decode cX10_bit 8 = .ok (.ifCond .ne 13, 3) := by decide +kernel
theorem dX10_bit_11 : decode cX10_bit 11 = .ok (.new 161, 3) := by decide +kernel
theorem dX10_bit_14 : decode cX10_bit 14 = .ok (.dup, 1) := by decide +kernel
theorem dX10_bit_15 : decode cX10_bit 15 = .ok (.ldc 163, 2) := by decide +kernel
theorem dX10_bit_17 : decode cX10_bit 17 = .ok (.invokespecial 165, 3) := by decide +kernel
theorem dX10_bit_20 : decode cX10_bit 20 = .ok (.athrow, 1) := by decide +kernel
theorem dX10_bit_21 : decode cX10_bit 21 = .ok (.aload_n 0, 1) := by decide +kernel
theorem dX10_bit_22 : decode cX10_bit 22 = .ok (.getfield 54, 3) := by decide +kernel
theorem dX10_bit_25 : decode cX10_bit 25 = .ok (.iload_n 1, 1) := by decide +kernel
theorem dX10_bit_26 : decode cX10_bit 26 = .ok (.invokevirtual 166, 3) := by decide +kernel
theorem dX10_bit_29 : decode cX10_bit 29 = .ok (.ireturn, 1) := by decide +kernel
theorem dX10_phase_0 : decode cX10_phase 0 = .ok (.aload_n 0, 1) := by decide +kernel
theorem dX10_phase_1 : decode cX10_phase 1 = .ok (.getfield 68, 3) := by decide +kernel
theorem dX10_phase_4 : decode cX10_phase 4 = .ok (.getfield 170, 3) := by decide +kernel
theorem dX10_phase_7 : decode cX10_phase 7 = .ok (.ifCond .ne 13, 3) := by decide +kernel
theorem dX10_phase_10 : decode cX10_phase 10 = .ok (.new 171, 3) := by decide +kernel
theorem dX10_phase_13 : decode cX10_phase 13 = .ok (.dup, 1) := by decide +kernel
theorem dX10_phase_14 : decode cX10_phase 14 = .ok (.ldc 173, 2) := by decide +kernel
theorem dX10_phase_16 : decode cX10_phase 16 = .ok (.invokespecial 175, 3) := by decide +kernel
theorem dX10_phase_19 : decode cX10_phase 19 = .ok (.athrow, 1) := by decide +kernel
theorem dX10_phase_20 : decode cX10_phase 20 = .ok (.aload_n 0, 1) := by decide +kernel
theorem dX10_phase_21 : decode cX10_phase 21 = .ok (.getfield 68, 3) := by decide +kernel
theorem dX10_phase_24 : decode cX10_phase 24 = .ok (.getfield 176, 3) := by decide +kernel
theorem dX10_phase_27 : decode cX10_phase 27 = .ok (.ireturn, 1) := by decide +kernel
theorem dX10_repeated_0 : decode cX10_repeated 0 = .ok (.aload_n 0, 1) := by decide +kernel
theorem dX10_repeated_1 : decode cX10_repeated 1 = .ok (.getfield 61, 3) := by decide +kernel
theorem dX10_repeated_4 : decode cX10_repeated 4 = .ok (.getfield 179, 3) := by decide +kernel
theorem dX10_repeated_7 : decode cX10_repeated 7 = .ok (.ireturn, 1) := by decide +kernel
theorem dX10_skipped_0 : decode cX10_skipped 0 = .ok (.aload_n 0, 1) := by decide +kernel
theorem dX10_skipped_1 : decode cX10_skipped 1 = .ok (.getfield 61, 3) := by decide +kernel
theorem dX10_skipped_4 : decode cX10_skipped 4 = .ok (.getfield 182, 3) := by decide +kernel
theorem dX10_skipped_7 : decode cX10_skipped 7 = .ok (.ireturn, 1) := by decide +kernel
set_option maxRecDepth 20000 in
theorem ggX10_isLocked_X7_isSteady : GoodIn wsX10_isLocked wsX7_isSteady := goodIn_r _ [6, 7, 18, 19, 20, 21] (by decide +kernel) (by decide +kernel)
set_option maxRecDepth 20000 in
theorem gX10_isLocked_X7_isSteady : GoodIn wsX10_isLocked (wsV RX10 185 RX7 yX7_isSteady wsX7_isSteady) := goodIn_app (goodIn_of _ (by decide +kernel)) ggX10_isLocked_X7_isSteady
theorem dX10_isLocked_0 : decode cX10_isLocked 0 = .ok (.aload_n 0, 1) := by decide +kernel
theorem dX10_isLocked_1 : decode cX10_isLocked 1 = .ok (.getfield 68, 3) := by decide +kernel
theorem dX10_isLocked_4 : decode cX10_isLocked 4 = .ok (.invokevirtual 185, 3) := by decide +kernel
theorem dX10_isLocked_7 : decode cX10_isLocked 7 = .ok (.ireturn, 1) := by decide +kernel
set_option maxRecDepth 20000 in
theorem ggX10_wander_X7_sumAbsolutes : GoodIn wsX10_wander wsX7_sumAbsolutes := goodIn_r _ [6, 7, 8, 9, 10, 11, 22, 23, 24, 25] (by decide +kernel) (by decide +kernel)
set_option maxRecDepth 20000 in
theorem gX10_wander_X7_sumAbsolutes : GoodIn wsX10_wander (wsV RX10 189 RX7 yX7_sumAbsolutes wsX7_sumAbsolutes) := goodIn_app (goodIn_of _ (by decide +kernel)) ggX10_wander_X7_sumAbsolutes
theorem dX10_wander_0 : decode cX10_wander 0 = .ok (.aload_n 0, 1) := by decide +kernel
theorem dX10_wander_1 : decode cX10_wander 1 = .ok (.getfield 68, 3) := by decide +kernel
theorem dX10_wander_4 : decode cX10_wander 4 = .ok (.invokevirtual 189, 3) := by decide +kernel
theorem dX10_wander_7 : decode cX10_wander 7 = .ok (.ireturn, 1) := by decide +kernel
theorem dX10_alignment_0 : decode cX10_alignment 0 = .ok (.aload_n 0, 1) := by decide +kernel
theorem dX10_alignment_1 : decode cX10_alignment 1 = .ok (.getfield 75, 3) := by decide +kernel
theorem dX10_alignment_4 : decode cX10_alignment 4 = .ok (.getfield 192, 3) := by decide +kernel
theorem dX10_alignment_7 : decode cX10_alignment 7 = .ok (.ireturn, 1) := by decide +kernel
theorem dX10_frames_0 : decode cX10_frames 0 = .ok (.aload_n 0, 1) := by decide +kernel
theorem dX10_frames_1 : decode cX10_frames 1 = .ok (.getfield 75, 3) := by decide +kernel
theorem dX10_frames_4 : decode cX10_frames 4 = .ok (.getfield 195, 3) := by decide +kernel
theorem dX10_frames_7 : decode cX10_frames 7 = .ok (.ireturn, 1) := by decide +kernel
theorem dX10_losses_0 : decode cX10_losses 0 = .ok (.aload_n 0, 1) := by decide +kernel
theorem dX10_losses_1 : decode cX10_losses 1 = .ok (.getfield 75, 3) := by decide +kernel
theorem dX10_losses_4 : decode cX10_losses 4 = .ok (.getfield 198, 3) := by decide +kernel
theorem dX10_losses_7 : decode cX10_losses 7 = .ok (.ireturn, 1) := by decide +kernel
set_option maxRecDepth 20000 in
theorem ggX10_bestPhase_X2_sumCosts : GoodIn wsX10_bestPhase wsX2_sumCosts := goodIn_r _ [6, 7, 8, 9, 5, 10, 11, 12, 13, 14, 25, 26] (by decide +kernel) (by decide +kernel)
set_option maxRecDepth 20000 in
theorem gX10_bestPhase_X2_sumCosts : GoodIn wsX10_bestPhase (wsV RX10 201 RX2 yX2_sumCosts wsX2_sumCosts) := goodIn_app (goodIn_of _ (by decide +kernel)) ggX10_bestPhase_X2_sumCosts
theorem dX10_bestPhase_0 : decode cX10_bestPhase 0 = .ok (.iconst 0, 1) := by decide +kernel
theorem dX10_bestPhase_1 : decode cX10_bestPhase 1 = .ok (.istore_n 1, 1) := by decide +kernel
theorem dX10_bestPhase_2 : decode cX10_bestPhase 2 = .ok (.aload_n 0, 1) := by decide +kernel
theorem dX10_bestPhase_3 : decode cX10_bestPhase 3 = .ok (.getfield 26, 3) := by decide +kernel
theorem dX10_bestPhase_6 : decode cX10_bestPhase 6 = .ok (.iconst 0, 1) := by decide +kernel
theorem dX10_bestPhase_7 : decode cX10_bestPhase 7 = .ok (.invokevirtual 201, 3) := by decide +kernel
theorem dX10_bestPhase_10 : decode cX10_bestPhase 10 = .ok (.istore_n 2, 1) := by decide +kernel
theorem dX10_bestPhase_11 : decode cX10_bestPhase 11 = .ok (.iconst 1, 1) := by decide +kernel
theorem dX10_bestPhase_12 : decode cX10_bestPhase 12 = .ok (.istore_n 3, 1) := by decide +kernel
theorem dX10_bestPhase_13 : decode cX10_bestPhase 13 = .ok (.iload_n 3, 1) := by decide +kernel
theorem dX10_bestPhase_14 : decode cX10_bestPhase 14 = .ok (.bipush 16, 2) := by decide +kernel
theorem dX10_bestPhase_16 : decode cX10_bestPhase 16 = .ok (.if_icmp .ge 30, 3) := by decide +kernel
theorem dX10_bestPhase_19 : decode cX10_bestPhase 19 = .ok (.aload_n 0, 1) := by decide +kernel
theorem dX10_bestPhase_20 : decode cX10_bestPhase 20 = .ok (.getfield 26, 3) := by decide +kernel
theorem dX10_bestPhase_23 : decode cX10_bestPhase 23 = .ok (.iload_n 3, 1) := by decide +kernel
theorem dX10_bestPhase_24 : decode cX10_bestPhase 24 = .ok (.invokevirtual 201, 3) := by decide +kernel
theorem dX10_bestPhase_27 : decode cX10_bestPhase 27 = .ok (.istore 4, 2) := by decide +kernel
theorem dX10_bestPhase_29 : decode cX10_bestPhase 29 = .ok (.iload 4, 2) := by decide +kernel
theorem dX10_bestPhase_31 : decode cX10_bestPhase 31 = .ok (.iload_n 2, 1) := by decide +kernel
theorem dX10_bestPhase_32 : decode cX10_bestPhase 32 = .ok (.if_icmp .ge 8, 3) := by decide +kernel
theorem dX10_bestPhase_35 : decode cX10_bestPhase 35 = .ok (.iload 4, 2) := by decide +kernel
theorem dX10_bestPhase_37 : decode cX10_bestPhase 37 = .ok (.istore_n 2, 1) := by decide +kernel
theorem dX10_bestPhase_38 : decode cX10_bestPhase 38 = .ok (.iload_n 3, 1) := by decide +kernel
theorem dX10_bestPhase_39 : decode cX10_bestPhase 39 = .ok (.istore_n 1, 1) := by decide +kernel
theorem dX10_bestPhase_40 : decode cX10_bestPhase 40 = .ok (.iinc 3 1, 3) := by decide +kernel
theorem dX10_bestPhase_43 : decode cX10_bestPhase 43 = .ok (.goto (-30), 3) := by decide +kernel
theorem dX10_bestPhase_46 : decode cX10_bestPhase 46 = .ok (.iload_n 1, 1) := by decide +kernel
theorem dX10_bestPhase_47 : decode cX10_bestPhase 47 = .ok (.ireturn, 1) := by decide +kernel
set_option maxRecDepth 20000 in
theorem ggX10_cost_X10_isWithin : GoodIn wsX10_cost wsX10_isWithin := goodIn_r _ [7] (by decide +kernel) (by decide +kernel)
set_option maxRecDepth 20000 in
theorem gX10_cost_X10_isWithin : GoodIn wsX10_cost (va_wsS RX10 79 yX10_isWithin wsX10_isWithin) := goodIn_app (goodIn_of _ (by decide +kernel)) ggX10_cost_X10_isWithin
set_option maxRecDepth 20000 in
theorem ggX10_cost_X2_sumCosts : GoodIn wsX10_cost wsX2_sumCosts := goodIn_r _ [12, 13, 14, 15, 11, 16, 17, 18, 19, 20, 31, 32] (by decide +kernel) (by decide +kernel)
set_option maxRecDepth 20000 in
theorem gX10_cost_X2_sumCosts : GoodIn wsX10_cost (wsV RX10 201 RX2 yX2_sumCosts wsX2_sumCosts) := goodIn_app (goodIn_of _ (by decide +kernel)) ggX10_cost_X2_sumCosts
theorem dX10_cost_0 : decode cX10_cost 0 = .ok (.iload_n 1, 1) := by decide +kernel
theorem dX10_cost_1 : decode cX10_cost 1 = .ok (.iconst 0, 1) := by decide +kernel
theorem dX10_cost_2 : decode cX10_cost 2 = .ok (.bipush 15, 2) := by decide +kernel
theorem dX10_cost_4 : decode cX10_cost 4 = .ok (.invokestatic 79, 3) := by decide +kernel
theorem dX10_cost_7 : decode cX10_cost 7 = .ok (.ifCond .ne 13, 3) := by decide +kernel
theorem dX10_cost_10 : decode cX10_cost 10 = .ok (.new 83, 3) := by decide +kernel
theorem dX10_cost_13 : decode cX10_cost 13 = .ok (.dup, 1) := by decide +kernel
theorem dX10_cost_14 : decode cX10_cost 14 = .ok (.ldc 204, 2) := by decide +kernel
theorem dX10_cost_16 : decode cX10_cost 16 = .ok (.invokespecial 87, 3) := by decide +kernel
theorem dX10_cost_19 : decode cX10_cost 19 = .ok (.athrow, 1) := by decide +kernel
theorem dX10_cost_20 : decode cX10_cost 20 = .ok (.aload_n 0, 1) := by decide +kernel
theorem dX10_cost_21 : decode cX10_cost 21 = .ok (.getfield 26, 3) := by decide +kernel
theorem dX10_cost_24 : decode cX10_cost 24 = .ok (.iload_n 1, 1) := by decide +kernel
theorem dX10_cost_25 : decode cX10_cost 25 = .ok (.invokevirtual 201, 3) := by decide +kernel
theorem dX10_cost_28 : decode cX10_cost 28 = .ok (.ireturn, 1) := by decide +kernel
set_option maxRecDepth 20000 in
theorem ggX10_passTick_X9_advance : GoodIn wsX10_passTick wsX9_advance := goodIn_r _ [14, 15, 16, 17, 18, 19, 20, 13, 21, 22, 23, 24, 25, 26, 27, 28, 29, 30, 31, 32, 33, 34, 35, 36, 37, 38, 230, 231, 232, 233, 234, 235, 236] (by decide +kernel) (by decide +kernel)
set_option maxRecDepth 20000 in
theorem gX10_passTick_X9_advance : GoodIn wsX10_passTick (wsV RX10 206 RX9 yX9_advance wsX9_advance) := goodIn_app (goodIn_of _ (by decide +kernel)) ggX10_passTick_X9_advance
set_option maxRecDepth 20000 in
theorem ggX10_passTick_X3_remember : GoodIn wsX10_passTick wsX3_remember := goodIn_r _ [43, 44, 45, 243] (by decide +kernel) (by decide +kernel)
set_option maxRecDepth 20000 in
theorem gX10_passTick_X3_remember : GoodIn wsX10_passTick (wsV RX10 209 RX3 yX3_remember wsX3_remember) := goodIn_app (goodIn_of _ (by decide +kernel)) ggX10_passTick_X3_remember
set_option maxRecDepth 20000 in
theorem ggX10_passTick_X3_hasChangedSince : GoodIn wsX10_passTick wsX3_hasChangedSince := goodIn_r _ [49, 44, 243] (by decide +kernel) (by decide +kernel)
set_option maxRecDepth 20000 in
theorem gX10_passTick_X3_hasChangedSince : GoodIn wsX10_passTick (wsV RX10 213 RX3 yX3_hasChangedSince wsX3_hasChangedSince) := goodIn_app (goodIn_of _ (by decide +kernel)) ggX10_passTick_X3_hasChangedSince
set_option maxRecDepth 20000 in
theorem ggX10_passTick_X2_add : GoodIn wsX10_passTick wsX2_add := goodIn_r _ [54, 55, 56, 244, 245] (by decide +kernel) (by decide +kernel)
set_option maxRecDepth 20000 in
theorem gX10_passTick_X2_add : GoodIn wsX10_passTick (wsV RX10 216 RX2 yX2_add wsX2_add) := goodIn_app (goodIn_of _ (by decide +kernel)) ggX10_passTick_X2_add
set_option maxRecDepth 20000 in
theorem ggX10_passTick_X6_watchLine : GoodIn wsX10_passTick wsX6_watchLine := goodIn_r _ [61, 62, 63, 64, 65, 66, 47, 48, 42, 49, 44, 67, 68, 69, 246, 247, 248, 249, 250, 251, 252, 243] (by decide +kernel) (by decide +kernel)
set_option maxRecDepth 20000 in
theorem gX10_passTick_X6_watchLine : GoodIn wsX10_passTick (wsV RX10 220 RX6 yX6_watchLine wsX6_watchLine) := goodIn_app (goodIn_of _ (by decide +kernel)) ggX10_passTick_X6_watchLine
set_option maxRecDepth 20000 in
theorem ggX10_passTick_X5_advance : GoodIn wsX10_passTick wsX5_advance := goodIn_r _ [74, 75, 76, 77, 78, 79, 80, 81, 73, 82, 237] (by decide +kernel) (by decide +kernel)
set_option maxRecDepth 20000 in
theorem gX10_passTick_X5_advance : GoodIn wsX10_passTick (wsV RX10 224 RX5 yX5_advance wsX5_advance) := goodIn_app (goodIn_of _ (by decide +kernel)) ggX10_passTick_X5_advance
set_option maxRecDepth 20000 in
theorem ggX10_passTick_X10_actOnStrobe : GoodIn wsX10_passTick wsX10_actOnStrobe := goodIn_r _ [86, 5, 87, 8, 2, 1, 3, 88, 89, 90, 42, 91, 44, 92, 93, 94, 95, 96, 97, 98, 99, 100, 101, 60, 102, 103, 104, 105, 106, 107, 108, 109, 110, 111, 112, 113, 114, 115, 116, 117, 118, 119, 120, 121, 122, 123, 124, 125, 126, 127, 128, 129, 130, 131, 132, 133, 134, 135, 136, 137, 138, 139, 140, 141, 142, 143, 144, 68, 145, 146, 147, 148, 149, 150, 151, 152, 153, 154, 155, 156, 157, 63, 64, 158, 159, 160, 161, 162, 163, 164, 165, 166, 167, 168, 169, 170, 171, 172, 173, 174, 175, 176, 177, 178, 179, 180, 181, 182, 183, 184, 185, 186, 187, 188, 189, 190, 191, 192, 193, 194, 195, 196, 67, 69, 197, 198, 199, 200, 201, 202, 203, 204, 205, 206, 207, 208, 209, 210, 211, 212, 213, 214, 215, 216, 217, 218, 219, 220, 221, 222, 223, 224, 225, 226, 227, 228, 229, 246, 247, 248, 249, 250, 251, 252, 230, 231, 232, 233, 234, 235, 236, 243, 238, 239, 240, 241, 242, 253, 254, 255, 256, 257, 258, 259, 260, 261, 262, 263, 264, 265, 266, 267, 268] (by decide +kernel) (by decide +kernel)
set_option maxRecDepth 20000 in
theorem gX10_passTick_X10_actOnStrobe : GoodIn wsX10_passTick (wsV RX10 226 RX10 yX10_actOnStrobe wsX10_actOnStrobe) := goodIn_app (goodIn_of _ (by decide +kernel)) ggX10_passTick_X10_actOnStrobe
theorem dX10_passTick_0 : decode cX10_passTick 0 = .ok (.aload_n 0, 1) := by decide +kernel
theorem dX10_passTick_1 : decode cX10_passTick 1 = .ok (.getfield 10, 3) := by decide +kernel
theorem dX10_passTick_4 : decode cX10_passTick 4 = .ok (.invokevirtual 206, 3) := by decide +kernel
theorem dX10_passTick_7 : decode cX10_passTick 7 = .ok (.aload_n 0, 1) := by decide +kernel
theorem dX10_passTick_8 : decode cX10_passTick 8 = .ok (.getfield 19, 3) := by decide +kernel
theorem dX10_passTick_11 : decode cX10_passTick 11 = .ok (.aload_n 0, 1) := by decide +kernel
theorem dX10_passTick_12 : decode cX10_passTick 12 = .ok (.getfield 10, 3) := by decide +kernel
theorem dX10_passTick_15 : decode cX10_passTick 15 = .ok (.getfield 146, 3) := by decide +kernel
theorem dX10_passTick_18 : decode cX10_passTick 18 = .ok (.invokevirtual 209, 3) := by decide +kernel
theorem dX10_passTick_21 : decode cX10_passTick 21 = .ok (.aload_n 0, 1) := by decide +kernel
theorem dX10_passTick_22 : decode cX10_passTick 22 = .ok (.getfield 26, 3) := by decide +kernel
theorem dX10_passTick_25 : decode cX10_passTick 25 = .ok (.aload_n 0, 1) := by decide +kernel
theorem dX10_passTick_26 : decode cX10_passTick 26 = .ok (.getfield 19, 3) := by decide +kernel
theorem dX10_passTick_29 : decode cX10_passTick 29 = .ok (.iconst 1, 1) := by decide +kernel
theorem dX10_passTick_30 : decode cX10_passTick 30 = .ok (.invokevirtual 213, 3) := by decide +kernel
theorem dX10_passTick_33 : decode cX10_passTick 33 = .ok (.invokevirtual 216, 3) := by decide +kernel
theorem dX10_passTick_36 : decode cX10_passTick 36 = .ok (.aload_n 0, 1) := by decide +kernel
theorem dX10_passTick_37 : decode cX10_passTick 37 = .ok (.getfield 40, 3) := by decide +kernel
theorem dX10_passTick_40 : decode cX10_passTick 40 = .ok (.aload_n 0, 1) := by decide +kernel
theorem dX10_passTick_41 : decode cX10_passTick 41 = .ok (.getfield 19, 3) := by decide +kernel
theorem dX10_passTick_44 : decode cX10_passTick 44 = .ok (.aload_n 0, 1) := by decide +kernel
theorem dX10_passTick_45 : decode cX10_passTick 45 = .ok (.getfield 33, 3) := by decide +kernel
theorem dX10_passTick_48 : decode cX10_passTick 48 = .ok (.getfield 123, 3) := by decide +kernel
theorem dX10_passTick_51 : decode cX10_passTick 51 = .ok (.invokevirtual 220, 3) := by decide +kernel
theorem dX10_passTick_54 : decode cX10_passTick 54 = .ok (.aload_n 0, 1) := by decide +kernel
theorem dX10_passTick_55 : decode cX10_passTick 55 = .ok (.aload_n 0, 1) := by decide +kernel
theorem dX10_passTick_56 : decode cX10_passTick 56 = .ok (.getfield 33, 3) := by decide +kernel
theorem dX10_passTick_59 : decode cX10_passTick 59 = .ok (.aload_n 0, 1) := by decide +kernel
theorem dX10_passTick_60 : decode cX10_passTick 60 = .ok (.getfield 47, 3) := by decide +kernel
theorem dX10_passTick_63 : decode cX10_passTick 63 = .ok (.getfield 129, 3) := by decide +kernel
theorem dX10_passTick_66 : decode cX10_passTick 66 = .ok (.invokevirtual 224, 3) := by decide +kernel
theorem dX10_passTick_69 : decode cX10_passTick 69 = .ok (.invokevirtual 226, 3) := by decide +kernel
theorem dX10_passTick_72 : decode cX10_passTick 72 = .ok (.return_, 1) := by decide +kernel
set_option maxRecDepth 20000 in
theorem ggX10_actOnStrobe_X3_findLevel : GoodIn wsX10_actOnStrobe wsX3_findLevel := goodIn_r _ [11, 12, 13, 14, 15, 16, 17, 18, 19, 171] (by decide +kernel) (by decide +kernel)
set_option maxRecDepth 20000 in
theorem gX10_actOnStrobe_X3_findLevel : GoodIn wsX10_actOnStrobe (wsV RX10 149 RX3 yX3_findLevel wsX3_findLevel) := goodIn_app (goodIn_of _ (by decide +kernel)) ggX10_actOnStrobe_X3_findLevel
set_option maxRecDepth 20000 in
theorem ggX10_actOnStrobe_X6_measureLate : GoodIn wsX10_actOnStrobe wsX6_measureLate := goodIn_r _ [24, 25, 26, 27, 28, 29, 157, 158, 159, 160, 161, 162, 163] (by decide +kernel) (by decide +kernel)
set_option maxRecDepth 20000 in
theorem gX10_actOnStrobe_X6_measureLate : GoodIn wsX10_actOnStrobe (wsV RX10 229 RX6 yX6_measureLate wsX6_measureLate) := goodIn_app (goodIn_of _ (by decide +kernel)) ggX10_actOnStrobe_X6_measureLate
set_option maxRecDepth 20000 in
theorem ggX10_actOnStrobe_X4_takeError : GoodIn wsX10_actOnStrobe wsX4_takeError := goodIn_r _ [34, 35, 36, 37, 38, 39, 40, 41, 42, 33, 43, 44, 45, 28, 46, 47, 48, 49, 50, 51, 52, 53, 172, 173, 174, 175, 176] (by decide +kernel) (by decide +kernel)
set_option maxRecDepth 20000 in
theorem gX10_actOnStrobe_X4_takeError : GoodIn wsX10_actOnStrobe (wsV RX10 232 RX4 yX4_takeError wsX4_takeError) := goodIn_app (goodIn_of _ (by decide +kernel)) ggX10_actOnStrobe_X4_takeError
set_option maxRecDepth 20000 in
theorem ggX10_actOnStrobe_X6_keepMiddle : GoodIn wsX10_actOnStrobe wsX6_keepMiddle := goodIn_r _ [57, 58, 59, 157, 158, 159, 160, 161, 162, 163] (by decide +kernel) (by decide +kernel)
set_option maxRecDepth 20000 in
theorem gX10_actOnStrobe_X6_keepMiddle : GoodIn wsX10_actOnStrobe (wsV RX10 235 RX6 yX6_keepMiddle wsX6_keepMiddle) := goodIn_app (goodIn_of _ (by decide +kernel)) ggX10_actOnStrobe_X6_keepMiddle
set_option maxRecDepth 20000 in
theorem ggX10_actOnStrobe_X6_keepEarly : GoodIn wsX10_actOnStrobe wsX6_keepEarly := goodIn_r _ [63, 26, 27, 28, 29, 25, 157, 158, 159, 160, 161, 162, 163] (by decide +kernel) (by decide +kernel)
set_option maxRecDepth 20000 in
theorem gX10_actOnStrobe_X6_keepEarly : GoodIn wsX10_actOnStrobe (wsV RX10 239 RX6 yX6_keepEarly wsX6_keepEarly) := goodIn_app (goodIn_of _ (by decide +kernel)) ggX10_actOnStrobe_X6_keepEarly
set_option maxRecDepth 20000 in
theorem ggX10_actOnStrobe_X10_actOnDataStrobe : GoodIn wsX10_actOnStrobe wsX10_actOnDataStrobe := goodIn_r _ [68, 5, 6, 4, 1, 2, 3, 69, 70, 71, 72, 73, 74, 75, 7, 8, 9, 10, 11, 12, 13, 14, 15, 16, 17, 18, 19, 76, 77, 78, 23, 79, 80, 81, 82, 59, 83, 84, 85, 86, 87, 88, 58, 89, 90, 91, 92, 93, 94, 30, 31, 32, 33, 34, 35, 36, 37, 38, 39, 40, 41, 42, 43, 44, 45, 28, 46, 47, 48, 49, 50, 51, 52, 53, 95, 96, 97, 98, 99, 100, 101, 102, 103, 104, 105, 106, 107, 108, 109, 110, 111, 112, 113, 114, 115, 116, 117, 118, 119, 120, 121, 122, 67, 123, 124, 125, 126, 127, 128, 129, 130, 131, 132, 133, 134, 135, 136, 137, 138, 139, 140, 141, 142, 143, 144, 145, 146, 147, 148, 149, 150, 151, 152, 153, 154, 155, 156, 164, 165, 166, 167, 168, 169, 170, 157, 158, 159, 160, 161, 162, 163, 171, 177, 178, 172, 173, 174, 175, 176, 179, 180, 181, 182, 183, 184, 185, 186, 187, 188, 189, 190, 191, 192] (by decide +kernel) (by decide +kernel)
set_option maxRecDepth 20000 in
theorem gX10_actOnStrobe_X10_actOnDataStrobe : GoodIn wsX10_actOnStrobe (wsV RX10 242 RX10 yX10_actOnDataStrobe wsX10_actOnDataStrobe) := goodIn_app (goodIn_of _ (by decide +kernel)) ggX10_actOnStrobe_X10_actOnDataStrobe
theorem dX10_actOnStrobe_0 : decode cX10_actOnStrobe 0 = .ok (.iload_n 1, 1) := by decide +kernel
theorem dX10_actOnStrobe_1 : decode cX10_actOnStrobe 1 = .ok (.tableswitch 114 1 4 #[31, 66, 90, 107], 31) := by decide +kernel
theorem dX10_actOnStrobe_32 : decode cX10_actOnStrobe 32 = .ok (.aload_n 0, 1) := by decide +kernel
theorem dX10_actOnStrobe_33 : decode cX10_actOnStrobe 33 = .ok (.getfield 40, 3) := by decide +kernel
theorem dX10_actOnStrobe_36 : decode cX10_actOnStrobe 36 = .ok (.getfield 107, 3) := by decide +kernel
theorem dX10_actOnStrobe_39 : decode cX10_actOnStrobe 39 = .ok (.iconst 4, 1) := by decide +kernel
theorem dX10_actOnStrobe_40 : decode cX10_actOnStrobe 40 = .ok (.if_icmp .ne 75, 3) := by decide +kernel
theorem dX10_actOnStrobe_43 : decode cX10_actOnStrobe 43 = .ok (.aload_n 0, 1) := by decide +kernel
theorem dX10_actOnStrobe_44 : decode cX10_actOnStrobe 44 = .ok (.getfield 47, 3) := by decide +kernel
theorem dX10_actOnStrobe_47 : decode cX10_actOnStrobe 47 = .ok (.aload_n 0, 1) := by decide +kernel
theorem dX10_actOnStrobe_48 : decode cX10_actOnStrobe 48 = .ok (.getfield 40, 3) := by decide +kernel
theorem dX10_actOnStrobe_51 : decode cX10_actOnStrobe 51 = .ok (.aload_n 0, 1) := by decide +kernel
theorem dX10_actOnStrobe_52 : decode cX10_actOnStrobe 52 = .ok (.getfield 19, 3) := by decide +kernel
theorem dX10_actOnStrobe_55 : decode cX10_actOnStrobe 55 = .ok (.invokevirtual 149, 3) := by decide +kernel
theorem dX10_actOnStrobe_58 : decode cX10_actOnStrobe 58 = .ok (.invokevirtual 229, 3) := by decide +kernel
theorem dX10_actOnStrobe_61 : decode cX10_actOnStrobe 61 = .ok (.invokevirtual 232, 3) := by decide +kernel
theorem dX10_actOnStrobe_64 : decode cX10_actOnStrobe 64 = .ok (.goto 51, 3) := by decide +kernel
theorem dX10_actOnStrobe_67 : decode cX10_actOnStrobe 67 = .ok (.aload_n 0, 1) := by decide +kernel
theorem dX10_actOnStrobe_68 : decode cX10_actOnStrobe 68 = .ok (.getfield 40, 3) := by decide +kernel
theorem dX10_actOnStrobe_71 : decode cX10_actOnStrobe 71 = .ok (.aload_n 0, 1) := by decide +kernel
theorem dX10_actOnStrobe_72 : decode cX10_actOnStrobe 72 = .ok (.getfield 10, 3) := by decide +kernel
theorem dX10_actOnStrobe_75 : decode cX10_actOnStrobe 75 = .ok (.getfield 146, 3) := by decide +kernel
theorem dX10_actOnStrobe_78 : decode cX10_actOnStrobe 78 = .ok (.aload_n 0, 1) := by decide +kernel
theorem dX10_actOnStrobe_79 : decode cX10_actOnStrobe 79 = .ok (.getfield 19, 3) := by decide +kernel
theorem dX10_actOnStrobe_82 : decode cX10_actOnStrobe 82 = .ok (.invokevirtual 149, 3) := by decide +kernel
theorem dX10_actOnStrobe_85 : decode cX10_actOnStrobe 85 = .ok (.invokevirtual 235, 3) := by decide +kernel
theorem dX10_actOnStrobe_88 : decode cX10_actOnStrobe 88 = .ok (.goto 27, 3) := by decide +kernel
theorem dX10_actOnStrobe_91 : decode cX10_actOnStrobe 91 = .ok (.aload_n 0, 1) := by decide +kernel
theorem dX10_actOnStrobe_92 : decode cX10_actOnStrobe 92 = .ok (.getfield 40, 3) := by decide +kernel
theorem dX10_actOnStrobe_95 : decode cX10_actOnStrobe 95 = .ok (.aload_n 0, 1) := by decide +kernel
theorem dX10_actOnStrobe_96 : decode cX10_actOnStrobe 96 = .ok (.getfield 19, 3) := by decide +kernel
theorem dX10_actOnStrobe_99 : decode cX10_actOnStrobe 99 = .ok (.invokevirtual 149, 3) := by decide +kernel
theorem dX10_actOnStrobe_102 : decode cX10_actOnStrobe 102 = .ok (.invokevirtual 239, 3) := by decide +kernel
theorem dX10_actOnStrobe_105 : decode cX10_actOnStrobe 105 = .ok (.goto 10, 3) := by decide +kernel
theorem dX10_actOnStrobe_108 : decode cX10_actOnStrobe 108 = .ok (.aload_n 0, 1) := by decide +kernel
theorem dX10_actOnStrobe_109 : decode cX10_actOnStrobe 109 = .ok (.invokevirtual 242, 3) := by decide +kernel
theorem dX10_actOnStrobe_112 : decode cX10_actOnStrobe 112 = .ok (.goto 3, 3) := by decide +kernel
theorem dX10_actOnStrobe_115 : decode cX10_actOnStrobe 115 = .ok (.return_, 1) := by decide +kernel
set_option maxRecDepth 20000 in
theorem ggX10_actOnDataStrobe_X3_findLevel : GoodIn wsX10_actOnDataStrobe wsX3_findLevel := goodIn_r _ [18, 19, 20, 21, 22, 23, 24, 25, 26, 151] (by decide +kernel) (by decide +kernel)
set_option maxRecDepth 20000 in
theorem gX10_actOnDataStrobe_X3_findLevel : GoodIn wsX10_actOnDataStrobe (wsV RX10 149 RX3 yX3_findLevel wsX3_findLevel) := goodIn_app (goodIn_of _ (by decide +kernel)) ggX10_actOnDataStrobe_X3_findLevel
set_option maxRecDepth 20000 in
theorem ggX10_actOnDataStrobe_X6_measureAtData : GoodIn wsX10_actOnDataStrobe wsX6_measureAtData := goodIn_r _ [31, 32, 33, 34, 35, 36, 37, 38, 39, 30, 40, 41, 42, 43, 44, 45, 46, 47, 48, 144, 145, 146, 147, 148, 149, 150, 152, 153] (by decide +kernel) (by decide +kernel)
set_option maxRecDepth 20000 in
theorem gX10_actOnDataStrobe_X6_measureAtData : GoodIn wsX10_actOnDataStrobe (wsV RX10 245 RX6 yX6_measureAtData wsX6_measureAtData) := goodIn_app (goodIn_of _ (by decide +kernel)) ggX10_actOnDataStrobe_X6_measureAtData
set_option maxRecDepth 20000 in
theorem ggX10_actOnDataStrobe_X4_takeError : GoodIn wsX10_actOnDataStrobe wsX4_takeError := goodIn_r _ [53, 54, 55, 56, 57, 58, 59, 60, 61, 52, 62, 63, 64, 65, 66, 67, 68, 69, 70, 71, 72, 73, 154, 155, 156, 157, 158] (by decide +kernel) (by decide +kernel)
set_option maxRecDepth 20000 in
theorem gX10_actOnDataStrobe_X4_takeError : GoodIn wsX10_actOnDataStrobe (wsV RX10 232 RX4 yX4_takeError wsX4_takeError) := goodIn_app (goodIn_of _ (by decide +kernel)) ggX10_actOnDataStrobe_X4_takeError
set_option maxRecDepth 20000 in
theorem ggX10_actOnDataStrobe_X6_finishBit : GoodIn wsX10_actOnDataStrobe wsX6_finishBit := goodIn_r _ [77, 33, 34, 36, 144, 145, 146, 147, 148, 149, 150] (by decide +kernel) (by decide +kernel)
set_option maxRecDepth 20000 in
theorem gX10_actOnDataStrobe_X6_finishBit : GoodIn wsX10_actOnDataStrobe (wsV RX10 249 RX6 yX6_finishBit wsX6_finishBit) := goodIn_app (goodIn_of _ (by decide +kernel)) ggX10_actOnDataStrobe_X6_finishBit
set_option maxRecDepth 20000 in
theorem ggX10_actOnDataStrobe_X1_add : GoodIn wsX10_actOnDataStrobe wsX1_add := goodIn_r _ [81, 82, 48, 152, 153] (by decide +kernel) (by decide +kernel)
set_option maxRecDepth 20000 in
theorem gX10_actOnDataStrobe_X1_add : GoodIn wsX10_actOnDataStrobe (wsV RX10 252 RX1 yX1_add wsX1_add) := goodIn_app (goodIn_of _ (by decide +kernel)) ggX10_actOnDataStrobe_X1_add
set_option maxRecDepth 20000 in
theorem ggX10_actOnDataStrobe_X8_compare : GoodIn wsX10_actOnDataStrobe wsX8_compare := goodIn_r _ [87, 88, 89, 90, 91, 159, 160, 161, 162] (by decide +kernel) (by decide +kernel)
set_option maxRecDepth 20000 in
theorem gX10_actOnDataStrobe_X8_compare : GoodIn wsX10_actOnDataStrobe (wsV RX10 254 RX8 yX8_compare wsX8_compare) := goodIn_app (goodIn_of _ (by decide +kernel)) ggX10_actOnDataStrobe_X8_compare
set_option maxRecDepth 20000 in
theorem ggX10_actOnDataStrobe_X7_add : GoodIn wsX10_actOnDataStrobe wsX7_add := goodIn_r _ [96, 97, 98, 99, 100, 101, 102, 103, 163, 164, 165, 166] (by decide +kernel) (by decide +kernel)
set_option maxRecDepth 20000 in
theorem gX10_actOnDataStrobe_X7_add : GoodIn wsX10_actOnDataStrobe (wsV RX10 258 RX7 yX7_add wsX7_add) := goodIn_app (goodIn_of _ (by decide +kernel)) ggX10_actOnDataStrobe_X7_add
set_option maxRecDepth 20000 in
theorem ggX10_actOnDataStrobe_X1_endsWithSyncWord : GoodIn wsX10_actOnDataStrobe wsX1_endsWithSyncWord := goodIn_r _ [107, 82, 48, 152, 153] (by decide +kernel) (by decide +kernel)
set_option maxRecDepth 20000 in
theorem gX10_actOnDataStrobe_X1_endsWithSyncWord : GoodIn wsX10_actOnDataStrobe (wsV RX10 261 RX1 yX1_endsWithSyncWord wsX1_endsWithSyncWord) := goodIn_app (goodIn_of _ (by decide +kernel)) ggX10_actOnDataStrobe_X1_endsWithSyncWord
set_option maxRecDepth 20000 in
theorem ggX10_actOnDataStrobe_X0_take : GoodIn wsX10_actOnDataStrobe wsX0_take := goodIn_r _ [112, 113, 114, 115, 116, 117, 118, 111, 119, 120, 121, 122, 123, 124, 125, 126, 167, 168, 169, 170, 171, 172] (by decide +kernel) (by decide +kernel)
set_option maxRecDepth 20000 in
theorem gX10_actOnDataStrobe_X0_take : GoodIn wsX10_actOnDataStrobe (wsV RX10 264 RX0 yX0_take wsX0_take) := goodIn_app (goodIn_of _ (by decide +kernel)) ggX10_actOnDataStrobe_X0_take
theorem dX10_actOnDataStrobe_0 : decode cX10_actOnDataStrobe 0 = .ok (.aload_n 0, 1) := by decide +kernel
theorem dX10_actOnDataStrobe_1 : decode cX10_actOnDataStrobe 1 = .ok (.getfield 10, 3) := by decide +kernel
theorem dX10_actOnDataStrobe_4 : decode cX10_actOnDataStrobe 4 = .ok (.getfield 146, 3) := by decide +kernel
theorem dX10_actOnDataStrobe_7 : decode cX10_actOnDataStrobe 7 = .ok (.istore_n 1, 1) := by decide +kernel
theorem dX10_actOnDataStrobe_8 : decode cX10_actOnDataStrobe 8 = .ok (.aload_n 0, 1) := by decide +kernel
theorem dX10_actOnDataStrobe_9 : decode cX10_actOnDataStrobe 9 = .ok (.getfield 19, 3) := by decide +kernel
theorem dX10_actOnDataStrobe_12 : decode cX10_actOnDataStrobe 12 = .ok (.invokevirtual 149, 3) := by decide +kernel
theorem dX10_actOnDataStrobe_15 : decode cX10_actOnDataStrobe 15 = .ok (.istore_n 2, 1) := by decide +kernel
theorem dX10_actOnDataStrobe_16 : decode cX10_actOnDataStrobe 16 = .ok (.aload_n 0, 1) := by decide +kernel
theorem dX10_actOnDataStrobe_17 : decode cX10_actOnDataStrobe 17 = .ok (.getfield 40, 3) := by decide +kernel
theorem dX10_actOnDataStrobe_20 : decode cX10_actOnDataStrobe 20 = .ok (.getfield 107, 3) := by decide +kernel
theorem dX10_actOnDataStrobe_23 : decode cX10_actOnDataStrobe 23 = .ok (.iconst 4, 1) := by decide +kernel
theorem dX10_actOnDataStrobe_24 : decode cX10_actOnDataStrobe 24 = .ok (.if_icmp .eq 23, 3) := by decide +kernel
theorem dX10_actOnDataStrobe_27 : decode cX10_actOnDataStrobe 27 = .ok (.aload_n 0, 1) := by decide +kernel
theorem dX10_actOnDataStrobe_28 : decode cX10_actOnDataStrobe 28 = .ok (.getfield 47, 3) := by decide +kernel
theorem dX10_actOnDataStrobe_31 : decode cX10_actOnDataStrobe 31 = .ok (.aload_n 0, 1) := by decide +kernel
theorem dX10_actOnDataStrobe_32 : decode cX10_actOnDataStrobe 32 = .ok (.getfield 40, 3) := by decide +kernel
theorem dX10_actOnDataStrobe_35 : decode cX10_actOnDataStrobe 35 = .ok (.iload_n 1, 1) := by decide +kernel
theorem dX10_actOnDataStrobe_36 : decode cX10_actOnDataStrobe 36 = .ok (.iload_n 2, 1) := by decide +kernel
theorem dX10_actOnDataStrobe_37 : decode cX10_actOnDataStrobe 37 = .ok (.aload_n 0, 1) := by decide +kernel
theorem dX10_actOnDataStrobe_38 : decode cX10_actOnDataStrobe 38 = .ok (.getfield 54, 3) := by decide +kernel
theorem dX10_actOnDataStrobe_41 : decode cX10_actOnDataStrobe 41 = .ok (.invokevirtual 245, 3) := by decide +kernel
theorem dX10_actOnDataStrobe_44 : decode cX10_actOnDataStrobe 44 = .ok (.invokevirtual 232, 3) := by decide +kernel
theorem dX10_actOnDataStrobe_47 : decode cX10_actOnDataStrobe 47 = .ok (.aload_n 0, 1) := by decide +kernel
theorem dX10_actOnDataStrobe_48 : decode cX10_actOnDataStrobe 48 = .ok (.getfield 40, 3) := by decide +kernel
theorem dX10_actOnDataStrobe_51 : decode cX10_actOnDataStrobe 51 = .ok (.iload_n 2, 1) := by decide +kernel
theorem dX10_actOnDataStrobe_52 : decode cX10_actOnDataStrobe 52 = .ok (.invokevirtual 249, 3) := by decide +kernel
theorem dX10_actOnDataStrobe_55 : decode cX10_actOnDataStrobe 55 = .ok (.aload_n 0, 1) := by decide +kernel
theorem dX10_actOnDataStrobe_56 : decode cX10_actOnDataStrobe 56 = .ok (.getfield 54, 3) := by decide +kernel
theorem dX10_actOnDataStrobe_59 : decode cX10_actOnDataStrobe 59 = .ok (.iload_n 1, 1) := by decide +kernel
theorem dX10_actOnDataStrobe_60 : decode cX10_actOnDataStrobe 60 = .ok (.invokevirtual 252, 3) := by decide +kernel
theorem dX10_actOnDataStrobe_63 : decode cX10_actOnDataStrobe 63 = .ok (.aload_n 0, 1) := by decide +kernel
theorem dX10_actOnDataStrobe_64 : decode cX10_actOnDataStrobe 64 = .ok (.getfield 61, 3) := by decide +kernel
theorem dX10_actOnDataStrobe_67 : decode cX10_actOnDataStrobe 67 = .ok (.aload_n 0, 1) := by decide +kernel
theorem dX10_actOnDataStrobe_68 : decode cX10_actOnDataStrobe 68 = .ok (.getfield 10, 3) := by decide +kernel
theorem dX10_actOnDataStrobe_71 : decode cX10_actOnDataStrobe 71 = .ok (.getfield 143, 3) := by decide +kernel
theorem dX10_actOnDataStrobe_74 : decode cX10_actOnDataStrobe 74 = .ok (.invokevirtual 254, 3) := by decide +kernel
theorem dX10_actOnDataStrobe_77 : decode cX10_actOnDataStrobe 77 = .ok (.istore_n 3, 1) := by decide +kernel
theorem dX10_actOnDataStrobe_78 : decode cX10_actOnDataStrobe 78 = .ok (.aload_n 0, 1) := by decide +kernel
theorem dX10_actOnDataStrobe_79 : decode cX10_actOnDataStrobe 79 = .ok (.getfield 68, 3) := by decide +kernel
theorem dX10_actOnDataStrobe_82 : decode cX10_actOnDataStrobe 82 = .ok (.aload_n 0, 1) := by decide +kernel
theorem dX10_actOnDataStrobe_83 : decode cX10_actOnDataStrobe 83 = .ok (.getfield 10, 3) := by decide +kernel
theorem dX10_actOnDataStrobe_86 : decode cX10_actOnDataStrobe 86 = .ok (.getfield 153, 3) := by decide +kernel
theorem dX10_actOnDataStrobe_89 : decode cX10_actOnDataStrobe 89 = .ok (.ldc_w 257, 3) := by decide +kernel
theorem dX10_actOnDataStrobe_92 : decode cX10_actOnDataStrobe 92 = .ok (.isub, 1) := by decide +kernel
theorem dX10_actOnDataStrobe_93 : decode cX10_actOnDataStrobe 93 = .ok (.iload_n 3, 1) := by decide +kernel
theorem dX10_actOnDataStrobe_94 : decode cX10_actOnDataStrobe 94 = .ok (.invokevirtual 258, 3) := by decide +kernel
theorem dX10_actOnDataStrobe_97 : decode cX10_actOnDataStrobe 97 = .ok (.aload_n 0, 1) := by decide +kernel
theorem dX10_actOnDataStrobe_98 : decode cX10_actOnDataStrobe 98 = .ok (.getfield 75, 3) := by decide +kernel
theorem dX10_actOnDataStrobe_101 : decode cX10_actOnDataStrobe 101 = .ok (.aload_n 0, 1) := by decide +kernel
theorem dX10_actOnDataStrobe_102 : decode cX10_actOnDataStrobe 102 = .ok (.getfield 54, 3) := by decide +kernel
theorem dX10_actOnDataStrobe_105 : decode cX10_actOnDataStrobe 105 = .ok (.invokevirtual 261, 3) := by decide +kernel
theorem dX10_actOnDataStrobe_108 : decode cX10_actOnDataStrobe 108 = .ok (.invokevirtual 264, 3) := by decide +kernel
theorem dX10_actOnDataStrobe_111 : decode cX10_actOnDataStrobe 111 = .ok (.return_, 1) := by decide +kernel
theorem dX10_isWithin_0 : decode cX10_isWithin 0 = .ok (.iload_n 0, 1) := by decide +kernel
theorem dX10_isWithin_1 : decode cX10_isWithin 1 = .ok (.iload_n 1, 1) := by decide +kernel
theorem dX10_isWithin_2 : decode cX10_isWithin 2 = .ok (.if_icmp .lt 12, 3) := by decide +kernel
theorem dX10_isWithin_5 : decode cX10_isWithin 5 = .ok (.iload_n 0, 1) := by decide +kernel
theorem dX10_isWithin_6 : decode cX10_isWithin 6 = .ok (.iload_n 2, 1) := by decide +kernel
theorem dX10_isWithin_7 : decode cX10_isWithin 7 = .ok (.if_icmp .gt 7, 3) := by decide +kernel
theorem dX10_isWithin_10 : decode cX10_isWithin 10 = .ok (.iconst 1, 1) := by decide +kernel
theorem dX10_isWithin_11 : decode cX10_isWithin 11 = .ok (.goto 4, 3) := by decide +kernel
theorem dX10_isWithin_14 : decode cX10_isWithin 14 = .ok (.iconst 0, 1) := by decide +kernel
theorem dX10_isWithin_15 : decode cX10_isWithin 15 = .ok (.ireturn, 1) := by decide +kernel
theorem dX11_init_0 : decode cX11_init 0 = .ok (.aload_n 0, 1) := by decide +kernel
theorem dX11_init_1 : decode cX11_init 1 = .ok (.invokespecial 1, 3) := by decide +kernel
theorem dX11_init_4 : decode cX11_init 4 = .ok (.aload_n 0, 1) := by decide +kernel
theorem dX11_init_5 : decode cX11_init 5 = .ok (.sipush 4096, 3) := by decide +kernel
theorem dX11_init_8 : decode cX11_init 8 = .ok (.putfield 9, 3) := by decide +kernel
theorem dX11_init_11 : decode cX11_init 11 = .ok (.aload_n 0, 1) := by decide +kernel
theorem dX11_init_12 : decode cX11_init 12 = .ok (.lconst 1, 1) := by decide +kernel
theorem dX11_init_13 : decode cX11_init 13 = .ok (.putfield 13, 3) := by decide +kernel
theorem dX11_init_16 : decode cX11_init 16 = .ok (.aload_n 0, 1) := by decide +kernel
theorem dX11_init_17 : decode cX11_init 17 = .ok (.bipush 127, 2) := by decide +kernel
theorem dX11_init_19 : decode cX11_init 19 = .ok (.putfield 17, 3) := by decide +kernel
theorem dX11_init_22 : decode cX11_init 22 = .ok (.aload_n 0, 1) := by decide +kernel
theorem dX11_init_23 : decode cX11_init 23 = .ok (.iconst 1, 1) := by decide +kernel
theorem dX11_init_24 : decode cX11_init 24 = .ok (.putfield 20, 3) := by decide +kernel
theorem dX11_init_27 : decode cX11_init 27 = .ok (.aload_n 0, 1) := by decide +kernel
theorem dX11_init_28 : decode cX11_init 28 = .ok (.ldc 23, 2) := by decide +kernel
theorem dX11_init_30 : decode cX11_init 30 = .ok (.putfield 24, 3) := by decide +kernel
theorem dX11_init_33 : decode cX11_init 33 = .ok (.aload_n 0, 1) := by decide +kernel
theorem dX11_init_34 : decode cX11_init 34 = .ok (.sipush 256, 3) := by decide +kernel
theorem dX11_init_37 : decode cX11_init 37 = .ok (.newarray .boolean, 2) := by decide +kernel
theorem dX11_init_39 : decode cX11_init 39 = .ok (.putfield 27, 3) := by decide +kernel
theorem dX11_init_42 : decode cX11_init 42 = .ok (.aload_n 0, 1) := by decide +kernel
theorem dX11_init_43 : decode cX11_init 43 = .ok (.bipush 8, 2) := by decide +kernel
theorem dX11_init_45 : decode cX11_init 45 = .ok (.putfield 31, 3) := by decide +kernel
theorem dX11_init_48 : decode cX11_init 48 = .ok (.aload_n 0, 1) := by decide +kernel
theorem dX11_init_49 : decode cX11_init 49 = .ok (.iconst 1, 1) := by decide +kernel
theorem dX11_init_50 : decode cX11_init 50 = .ok (.putfield 34, 3) := by decide +kernel
theorem dX11_init_53 : decode cX11_init 53 = .ok (.aload_n 0, 1) := by decide +kernel
theorem dX11_init_54 : decode cX11_init 54 = .ok (.bipush 32, 2) := by decide +kernel
theorem dX11_init_56 : decode cX11_init 56 = .ok (.newarray .int, 2) := by decide +kernel
theorem dX11_init_58 : decode cX11_init 58 = .ok (.putfield 37, 3) := by decide +kernel
theorem dX11_init_61 : decode cX11_init 61 = .ok (.return_, 1) := by decide +kernel
theorem dX11_thrown_0 : decode cX11_thrown 0 = .ok (.aload_n 0, 1) := by decide +kernel
theorem dX11_thrown_1 : decode cX11_thrown 1 = .ok (.getfield 41, 3) := by decide +kernel
theorem dX11_thrown_4 : decode cX11_thrown 4 = .ok (.ireturn, 1) := by decide +kernel
theorem dX11_holds_0 : decode cX11_holds 0 = .ok (.aload_n 0, 1) := by decide +kernel
theorem dX11_holds_1 : decode cX11_holds 1 = .ok (.iload_n 1, 1) := by decide +kernel
theorem dX11_holds_2 : decode cX11_holds 2 = .ok (.putfield 41, 3) := by decide +kernel
theorem dX11_holds_5 : decode cX11_holds 5 = .ok (.iload_n 1, 1) := by decide +kernel
theorem dX11_holds_6 : decode cX11_holds 6 = .ok (.ifCond .ne 7, 3) := by decide +kernel
theorem dX11_holds_9 : decode cX11_holds 9 = .ok (.iconst 1, 1) := by decide +kernel
theorem dX11_holds_10 : decode cX11_holds 10 = .ok (.goto 4, 3) := by decide +kernel
theorem dX11_holds_13 : decode cX11_holds 13 = .ok (.iconst 0, 1) := by decide +kernel
theorem dX11_holds_14 : decode cX11_holds 14 = .ok (.ireturn, 1) := by decide +kernel
theorem dX11_in_0 : decode cX11_in 0 = .ok (.iload_n 0, 1) := by decide +kernel
theorem dX11_in_1 : decode cX11_in 1 = .ok (.iload_n 1, 1) := by decide +kernel
theorem dX11_in_2 : decode cX11_in 2 = .ok (.if_icmp .lt 12, 3) := by decide +kernel
theorem dX11_in_5 : decode cX11_in 5 = .ok (.iload_n 0, 1) := by decide +kernel
theorem dX11_in_6 : decode cX11_in 6 = .ok (.iload_n 2, 1) := by decide +kernel
theorem dX11_in_7 : decode cX11_in 7 = .ok (.if_icmp .gt 7, 3) := by decide +kernel
theorem dX11_in_10 : decode cX11_in 10 = .ok (.iconst 1, 1) := by decide +kernel
theorem dX11_in_11 : decode cX11_in 11 = .ok (.goto 4, 3) := by decide +kernel
theorem dX11_in_14 : decode cX11_in 14 = .ok (.iconst 0, 1) := by decide +kernel
theorem dX11_in_15 : decode cX11_in 15 = .ok (.ireturn, 1) := by decide +kernel
set_option maxRecDepth 20000 in
theorem ggX11_setOffset_X11_in : GoodIn wsX11_setOffset wsX11_in := goodIn_r _ [5] (by decide +kernel) (by decide +kernel)
set_option maxRecDepth 20000 in
theorem gX11_setOffset_X11_in : GoodIn wsX11_setOffset (va_wsS RX11 44 yX11_in wsX11_in) := goodIn_app (goodIn_of _ (by decide +kernel)) ggX11_setOffset_X11_in
set_option maxRecDepth 20000 in
theorem ggX11_setOffset_X11_holds : GoodIn wsX11_setOffset wsX11_holds := goodIn_r _ [9, 10, 11, 12, 13, 14, 15, 16, 17, 18, 19, 20, 21, 22, 23, 24, 25, 26, 27, 28, 29, 30, 31, 32, 33, 34, 35, 36, 37, 38, 39, 40, 41, 42, 43, 44, 45, 46, 47] (by decide +kernel) (by decide +kernel)
set_option maxRecDepth 20000 in
theorem gX11_setOffset_X11_holds : GoodIn wsX11_setOffset (wsV RX11 48 RX11 yX11_holds wsX11_holds) := goodIn_app (goodIn_of _ (by decide +kernel)) ggX11_setOffset_X11_holds
theorem dX11_setOffset_0 : decode cX11_setOffset 0 = .ok (.aload_n 0, 1) := by decide +kernel
theorem dX11_setOffset_1 : decode cX11_setOffset 1 = .ok (.iload_n 1, 1) := by decide +kernel
theorem dX11_setOffset_2 : decode cX11_setOffset 2 = .ok (.sipush (-300), 3) := by decide +kernel
theorem dX11_setOffset_5 : decode cX11_setOffset 5 = .ok (.sipush 300, 3) := by decide +kernel
theorem dX11_setOffset_8 : decode cX11_setOffset 8 = .ok (.invokestatic 44, 3) := by decide +kernel
theorem dX11_setOffset_11 : decode cX11_setOffset 11 = .ok (.ifCond .eq 7, 3) := by decide +kernel
theorem dX11_setOffset_14 : decode cX11_setOffset 14 = .ok (.iconst 0, 1) := by decide +kernel
theorem dX11_setOffset_15 : decode cX11_setOffset 15 = .ok (.goto 4, 3) := by decide +kernel
theorem dX11_setOffset_18 : decode cX11_setOffset 18 = .ok (.iconst 1, 1) := by decide +kernel
theorem dX11_setOffset_19 : decode cX11_setOffset 19 = .ok (.invokevirtual 48, 3) := by decide +kernel
theorem dX11_setOffset_22 : decode cX11_setOffset 22 = .ok (.ifCond .ne 5, 3) := by decide +kernel
theorem dX11_setOffset_25 : decode cX11_setOffset 25 = .ok (.iconst 0, 1) := by decide +kernel
theorem dX11_setOffset_26 : decode cX11_setOffset 26 = .ok (.ireturn, 1) := by decide +kernel
theorem dX11_setOffset_27 : decode cX11_setOffset 27 = .ok (.aload_n 0, 1) := by decide +kernel
theorem dX11_setOffset_28 : decode cX11_setOffset 28 = .ok (.sipush 4096, 3) := by decide +kernel
theorem dX11_setOffset_31 : decode cX11_setOffset 31 = .ok (.iload_n 1, 1) := by decide +kernel
theorem dX11_setOffset_32 : decode cX11_setOffset 32 = .ok (.iadd, 1) := by decide +kernel
theorem dX11_setOffset_33 : decode cX11_setOffset 33 = .ok (.putfield 9, 3) := by decide +kernel
theorem dX11_setOffset_36 : decode cX11_setOffset 36 = .ok (.aload_n 0, 1) := by decide +kernel
theorem dX11_setOffset_37 : decode cX11_setOffset 37 = .ok (.getfield 9, 3) := by decide +kernel
theorem dX11_setOffset_40 : decode cX11_setOffset 40 = .ok (.ireturn, 1) := by decide +kernel
set_option maxRecDepth 20000 in
theorem ggX11_setJitter_X11_in : GoodIn wsX11_setJitter wsX11_in := goodIn_r _ [6] (by decide +kernel) (by decide +kernel)
set_option maxRecDepth 20000 in
theorem gX11_setJitter_X11_in : GoodIn wsX11_setJitter (va_wsS RX11 44 yX11_in wsX11_in) := goodIn_app (goodIn_of _ (by decide +kernel)) ggX11_setJitter_X11_in
set_option maxRecDepth 20000 in
theorem ggX11_setJitter_X11_holds : GoodIn wsX11_setJitter wsX11_holds := goodIn_r _ [10, 11, 12, 13, 14, 15, 16, 17, 18, 19, 20, 21, 22, 23, 24, 25, 26, 27, 28, 29, 30, 31, 32, 33, 34, 35, 36, 37, 38, 39, 40, 41, 42, 43, 44, 45, 46, 47, 48] (by decide +kernel) (by decide +kernel)
set_option maxRecDepth 20000 in
theorem gX11_setJitter_X11_holds : GoodIn wsX11_setJitter (wsV RX11 48 RX11 yX11_holds wsX11_holds) := goodIn_app (goodIn_of _ (by decide +kernel)) ggX11_setJitter_X11_holds
theorem dX11_setJitter_0 : decode cX11_setJitter 0 = .ok (.aload_n 0, 1) := by decide +kernel
theorem dX11_setJitter_1 : decode cX11_setJitter 1 = .ok (.iload_n 1, 1) := by decide +kernel
theorem dX11_setJitter_2 : decode cX11_setJitter 2 = .ok (.iconst 0, 1) := by decide +kernel
theorem dX11_setJitter_3 : decode cX11_setJitter 3 = .ok (.sipush 2000, 3) := by decide +kernel
theorem dX11_setJitter_6 : decode cX11_setJitter 6 = .ok (.invokestatic 44, 3) := by decide +kernel
theorem dX11_setJitter_9 : decode cX11_setJitter 9 = .ok (.ifCond .eq 11, 3) := by decide +kernel
theorem dX11_setJitter_12 : decode cX11_setJitter 12 = .ok (.iload_n 2, 1) := by decide +kernel
theorem dX11_setJitter_13 : decode cX11_setJitter 13 = .ok (.ifCond .lt 7, 3) := by decide +kernel
theorem dX11_setJitter_16 : decode cX11_setJitter 16 = .ok (.iconst 0, 1) := by decide +kernel
theorem dX11_setJitter_17 : decode cX11_setJitter 17 = .ok (.goto 4, 3) := by decide +kernel
theorem dX11_setJitter_20 : decode cX11_setJitter 20 = .ok (.iconst 1, 1) := by decide +kernel
theorem dX11_setJitter_21 : decode cX11_setJitter 21 = .ok (.invokevirtual 48, 3) := by decide +kernel
theorem dX11_setJitter_24 : decode cX11_setJitter 24 = .ok (.ifCond .eq 14, 3) := by decide +kernel
theorem dX11_setJitter_27 : decode cX11_setJitter 27 = .ok (.aload_n 0, 1) := by decide +kernel
theorem dX11_setJitter_28 : decode cX11_setJitter 28 = .ok (.iload_n 1, 1) := by decide +kernel
theorem dX11_setJitter_29 : decode cX11_setJitter 29 = .ok (.putfield 52, 3) := by decide +kernel
theorem dX11_setJitter_32 : decode cX11_setJitter 32 = .ok (.aload_n 0, 1) := by decide +kernel
theorem dX11_setJitter_33 : decode cX11_setJitter 33 = .ok (.iload_n 2, 1) := by decide +kernel
theorem dX11_setJitter_34 : decode cX11_setJitter 34 = .ok (.i2l, 1) := by decide +kernel
theorem dX11_setJitter_35 : decode cX11_setJitter 35 = .ok (.putfield 13, 3) := by decide +kernel
theorem dX11_setJitter_38 : decode cX11_setJitter 38 = .ok (.return_, 1) := by decide +kernel
set_option maxRecDepth 20000 in
theorem ggX11_setDetector_X11_in : GoodIn wsX11_setDetector wsX11_in := goodIn_r _ [5] (by decide +kernel) (by decide +kernel)
set_option maxRecDepth 20000 in
theorem gX11_setDetector_X11_in : GoodIn wsX11_setDetector (va_wsS RX11 44 yX11_in wsX11_in) := goodIn_app (goodIn_of _ (by decide +kernel)) ggX11_setDetector_X11_in
set_option maxRecDepth 20000 in
theorem ggX11_setDetector_X11_holds : GoodIn wsX11_setDetector wsX11_holds := goodIn_r _ [9, 10, 11, 12, 13, 14, 15, 16, 17, 18, 19, 20, 21, 22, 23, 24, 25, 26, 27, 28, 29, 30, 31, 32, 33, 34, 35, 36, 37, 38, 39, 40, 41, 42, 43, 44, 45, 46, 47] (by decide +kernel) (by decide +kernel)
set_option maxRecDepth 20000 in
theorem gX11_setDetector_X11_holds : GoodIn wsX11_setDetector (wsV RX11 48 RX11 yX11_holds wsX11_holds) := goodIn_app (goodIn_of _ (by decide +kernel)) ggX11_setDetector_X11_holds
theorem dX11_setDetector_0 : decode cX11_setDetector 0 = .ok (.aload_n 0, 1) := by decide +kernel
theorem dX11_setDetector_1 : decode cX11_setDetector 1 = .ok (.iload_n 1, 1) := by decide +kernel
theorem dX11_setDetector_2 : decode cX11_setDetector 2 = .ok (.iconst 0, 1) := by decide +kernel
theorem dX11_setDetector_3 : decode cX11_setDetector 3 = .ok (.iconst 4, 1) := by decide +kernel
theorem dX11_setDetector_4 : decode cX11_setDetector 4 = .ok (.invokestatic 44, 3) := by decide +kernel
theorem dX11_setDetector_7 : decode cX11_setDetector 7 = .ok (.ifCond .eq 7, 3) := by decide +kernel
theorem dX11_setDetector_10 : decode cX11_setDetector 10 = .ok (.iconst 0, 1) := by decide +kernel
theorem dX11_setDetector_11 : decode cX11_setDetector 11 = .ok (.goto 4, 3) := by decide +kernel
theorem dX11_setDetector_14 : decode cX11_setDetector 14 = .ok (.iconst 1, 1) := by decide +kernel
theorem dX11_setDetector_15 : decode cX11_setDetector 15 = .ok (.invokevirtual 48, 3) := by decide +kernel
theorem dX11_setDetector_18 : decode cX11_setDetector 18 = .ok (.ifCond .ne 5, 3) := by decide +kernel
theorem dX11_setDetector_21 : decode cX11_setDetector 21 = .ok (.iconst 0, 1) := by decide +kernel
theorem dX11_setDetector_22 : decode cX11_setDetector 22 = .ok (.ireturn, 1) := by decide +kernel
theorem dX11_setDetector_23 : decode cX11_setDetector 23 = .ok (.aload_n 0, 1) := by decide +kernel
theorem dX11_setDetector_24 : decode cX11_setDetector 24 = .ok (.getfield 55, 3) := by decide +kernel
theorem dX11_setDetector_27 : decode cX11_setDetector 27 = .ok (.istore_n 2, 1) := by decide +kernel
theorem dX11_setDetector_28 : decode cX11_setDetector 28 = .ok (.aload_n 0, 1) := by decide +kernel
theorem dX11_setDetector_29 : decode cX11_setDetector 29 = .ok (.iload_n 1, 1) := by decide +kernel
theorem dX11_setDetector_30 : decode cX11_setDetector 30 = .ok (.putfield 55, 3) := by decide +kernel
theorem dX11_setDetector_33 : decode cX11_setDetector 33 = .ok (.iload_n 2, 1) := by decide +kernel
theorem dX11_setDetector_34 : decode cX11_setDetector 34 = .ok (.ireturn, 1) := by decide +kernel
set_option maxRecDepth 20000 in
theorem ggX11_setGains_X11_in : GoodIn wsX11_setGains wsX11_in := goodIn_r _ [6] (by decide +kernel) (by decide +kernel)
set_option maxRecDepth 20000 in
theorem gX11_setGains_X11_in : GoodIn wsX11_setGains (va_wsS RX11 44 yX11_in wsX11_in) := goodIn_app (goodIn_of _ (by decide +kernel)) ggX11_setGains_X11_in
set_option maxRecDepth 20000 in
theorem ggX11_setGains_X11_holds : GoodIn wsX11_setGains wsX11_holds := goodIn_r _ [10, 11, 12, 13, 14, 15, 16, 17, 18, 19, 20, 21, 22, 23, 24, 25, 26, 27, 28, 29, 30, 31, 32, 33, 34, 35, 36, 37, 38, 39, 40, 41, 42, 43, 44, 45, 46, 47, 48] (by decide +kernel) (by decide +kernel)
set_option maxRecDepth 20000 in
theorem gX11_setGains_X11_holds : GoodIn wsX11_setGains (wsV RX11 48 RX11 yX11_holds wsX11_holds) := goodIn_app (goodIn_of _ (by decide +kernel)) ggX11_setGains_X11_holds
theorem dX11_setGains_0 : decode cX11_setGains 0 = .ok (.aload_n 0, 1) := by decide +kernel
theorem dX11_setGains_1 : decode cX11_setGains 1 = .ok (.iload_n 1, 1) := by decide +kernel
theorem dX11_setGains_2 : decode cX11_setGains 2 = .ok (.iconst 0, 1) := by decide +kernel
theorem dX11_setGains_3 : decode cX11_setGains 3 = .ok (.bipush 64, 2) := by decide +kernel
theorem dX11_setGains_5 : decode cX11_setGains 5 = .ok (.invokestatic 44, 3) := by decide +kernel
theorem dX11_setGains_8 : decode cX11_setGains 8 = .ok (.ifCond .eq 17, 3) := by decide +kernel
theorem dX11_setGains_11 : decode cX11_setGains 11 = .ok (.iload_n 2, 1) := by decide +kernel
theorem dX11_setGains_12 : decode cX11_setGains 12 = .ok (.iconst 0, 1) := by decide +kernel
theorem dX11_setGains_13 : decode cX11_setGains 13 = .ok (.bipush 64, 2) := by decide +kernel
theorem dX11_setGains_15 : decode cX11_setGains 15 = .ok (.invokestatic 44, 3) := by decide +kernel
theorem dX11_setGains_18 : decode cX11_setGains 18 = .ok (.ifCond .eq 7, 3) := by decide +kernel
theorem dX11_setGains_21 : decode cX11_setGains 21 = .ok (.iconst 0, 1) := by decide +kernel
theorem dX11_setGains_22 : decode cX11_setGains 22 = .ok (.goto 4, 3) := by decide +kernel
theorem dX11_setGains_25 : decode cX11_setGains 25 = .ok (.iconst 1, 1) := by decide +kernel
theorem dX11_setGains_26 : decode cX11_setGains 26 = .ok (.invokevirtual 48, 3) := by decide +kernel
theorem dX11_setGains_29 : decode cX11_setGains 29 = .ok (.ifCond .eq 13, 3) := by decide +kernel
theorem dX11_setGains_32 : decode cX11_setGains 32 = .ok (.aload_n 0, 1) := by decide +kernel
theorem dX11_setGains_33 : decode cX11_setGains 33 = .ok (.iload_n 1, 1) := by decide +kernel
theorem dX11_setGains_34 : decode cX11_setGains 34 = .ok (.putfield 31, 3) := by decide +kernel
theorem dX11_setGains_37 : decode cX11_setGains 37 = .ok (.aload_n 0, 1) := by decide +kernel
theorem dX11_setGains_38 : decode cX11_setGains 38 = .ok (.iload_n 2, 1) := by decide +kernel
theorem dX11_setGains_39 : decode cX11_setGains 39 = .ok (.putfield 34, 3) := by decide +kernel
theorem dX11_setGains_42 : decode cX11_setGains 42 = .ok (.return_, 1) := by decide +kernel
set_option maxRecDepth 20000 in
theorem ggX11_setPhase_X11_in : GoodIn wsX11_setPhase wsX11_in := goodIn_r _ [6] (by decide +kernel) (by decide +kernel)
set_option maxRecDepth 20000 in
theorem gX11_setPhase_X11_in : GoodIn wsX11_setPhase (va_wsS RX11 44 yX11_in wsX11_in) := goodIn_app (goodIn_of _ (by decide +kernel)) ggX11_setPhase_X11_in
set_option maxRecDepth 20000 in
theorem ggX11_setPhase_X11_holds : GoodIn wsX11_setPhase wsX11_holds := goodIn_r _ [10, 11, 12, 13, 14, 15, 16, 17, 18, 19, 20, 21, 22, 23, 24, 25, 26, 27, 28, 29, 30, 31, 32, 33, 34, 35, 36, 37, 38, 39, 40, 41, 42, 43, 44, 45, 46, 47, 48] (by decide +kernel) (by decide +kernel)
set_option maxRecDepth 20000 in
theorem gX11_setPhase_X11_holds : GoodIn wsX11_setPhase (wsV RX11 48 RX11 yX11_holds wsX11_holds) := goodIn_app (goodIn_of _ (by decide +kernel)) ggX11_setPhase_X11_holds
theorem dX11_setPhase_0 : decode cX11_setPhase 0 = .ok (.aload_n 0, 1) := by decide +kernel
theorem dX11_setPhase_1 : decode cX11_setPhase 1 = .ok (.iload_n 1, 1) := by decide +kernel
theorem dX11_setPhase_2 : decode cX11_setPhase 2 = .ok (.iconst 0, 1) := by decide +kernel
theorem dX11_setPhase_3 : decode cX11_setPhase 3 = .ok (.ldc 23, 2) := by decide +kernel
theorem dX11_setPhase_5 : decode cX11_setPhase 5 = .ok (.invokestatic 44, 3) := by decide +kernel
theorem dX11_setPhase_8 : decode cX11_setPhase 8 = .ok (.ifCond .eq 7, 3) := by decide +kernel
theorem dX11_setPhase_11 : decode cX11_setPhase 11 = .ok (.iconst 0, 1) := by decide +kernel
theorem dX11_setPhase_12 : decode cX11_setPhase 12 = .ok (.goto 4, 3) := by decide +kernel
theorem dX11_setPhase_15 : decode cX11_setPhase 15 = .ok (.iconst 1, 1) := by decide +kernel
theorem dX11_setPhase_16 : decode cX11_setPhase 16 = .ok (.invokevirtual 48, 3) := by decide +kernel
theorem dX11_setPhase_19 : decode cX11_setPhase 19 = .ok (.ifCond .ne 5, 3) := by decide +kernel
theorem dX11_setPhase_22 : decode cX11_setPhase 22 = .ok (.iconst 0, 1) := by decide +kernel
theorem dX11_setPhase_23 : decode cX11_setPhase 23 = .ok (.ireturn, 1) := by decide +kernel
theorem dX11_setPhase_24 : decode cX11_setPhase 24 = .ok (.aload_n 0, 1) := by decide +kernel
theorem dX11_setPhase_25 : decode cX11_setPhase 25 = .ok (.getfield 58, 3) := by decide +kernel
theorem dX11_setPhase_28 : decode cX11_setPhase 28 = .ok (.istore_n 2, 1) := by decide +kernel
theorem dX11_setPhase_29 : decode cX11_setPhase 29 = .ok (.aload_n 0, 1) := by decide +kernel
theorem dX11_setPhase_30 : decode cX11_setPhase 30 = .ok (.iload_n 1, 1) := by decide +kernel
theorem dX11_setPhase_31 : decode cX11_setPhase 31 = .ok (.putfield 58, 3) := by decide +kernel
theorem dX11_setPhase_34 : decode cX11_setPhase 34 = .ok (.iload_n 2, 1) := by decide +kernel
theorem dX11_setPhase_35 : decode cX11_setPhase 35 = .ok (.ireturn, 1) := by decide +kernel
theorem dX11_release_0 : decode cX11_release 0 = .ok (.aload_n 0, 1) := by decide +kernel
theorem dX11_release_1 : decode cX11_release 1 = .ok (.iconst 0, 1) := by decide +kernel
theorem dX11_release_2 : decode cX11_release 2 = .ok (.putfield 41, 3) := by decide +kernel
theorem dX11_release_5 : decode cX11_release 5 = .ok (.aload_n 0, 1) := by decide +kernel
theorem dX11_release_6 : decode cX11_release 6 = .ok (.iconst 0, 1) := by decide +kernel
theorem dX11_release_7 : decode cX11_release 7 = .ok (.putfield 61, 3) := by decide +kernel
theorem dX11_release_10 : decode cX11_release 10 = .ok (.aload_n 0, 1) := by decide +kernel
theorem dX11_release_11 : decode cX11_release 11 = .ok (.iconst 0, 1) := by decide +kernel
theorem dX11_release_12 : decode cX11_release 12 = .ok (.putfield 64, 3) := by decide +kernel
theorem dX11_release_15 : decode cX11_release 15 = .ok (.return_, 1) := by decide +kernel
theorem dX11_kept_0 : decode cX11_kept 0 = .ok (.iload_n 0, 1) := by decide +kernel
theorem dX11_kept_1 : decode cX11_kept 1 = .ok (.iload_n 1, 1) := by decide +kernel
theorem dX11_kept_2 : decode cX11_kept 2 = .ok (.if_icmp .le 7, 3) := by decide +kernel
theorem dX11_kept_5 : decode cX11_kept 5 = .ok (.iload_n 1, 1) := by decide +kernel
theorem dX11_kept_6 : decode cX11_kept 6 = .ok (.goto 15, 3) := by decide +kernel
theorem dX11_kept_9 : decode cX11_kept 9 = .ok (.iload_n 0, 1) := by decide +kernel
theorem dX11_kept_10 : decode cX11_kept 10 = .ok (.iload_n 1, 1) := by decide +kernel
theorem dX11_kept_11 : decode cX11_kept 11 = .ok (.ineg, 1) := by decide +kernel
theorem dX11_kept_12 : decode cX11_kept 12 = .ok (.if_icmp .ge 8, 3) := by decide +kernel
theorem dX11_kept_15 : decode cX11_kept 15 = .ok (.iload_n 1, 1) := by decide +kernel
theorem dX11_kept_16 : decode cX11_kept 16 = .ok (.ineg, 1) := by decide +kernel
theorem dX11_kept_17 : decode cX11_kept 17 = .ok (.goto 4, 3) := by decide +kernel
theorem dX11_kept_20 : decode cX11_kept 20 = .ok (.iload_n 0, 1) := by decide +kernel
theorem dX11_kept_21 : decode cX11_kept 21 = .ok (.ireturn, 1) := by decide +kernel
set_option maxRecDepth 20000 in
theorem ggX11_measures_X11_kept : GoodIn wsX11_measures wsX11_kept := goodIn_r _ [10] (by decide +kernel) (by decide +kernel)
set_option maxRecDepth 20000 in
theorem gX11_measures_X11_kept : GoodIn wsX11_measures (va_wsS RX11 71 yX11_kept wsX11_kept) := goodIn_app (goodIn_of _ (by decide +kernel)) ggX11_measures_X11_kept
theorem dX11_measures_0 : decode cX11_measures 0 = .ok (.aload_n 0, 1) := by decide +kernel
theorem dX11_measures_1 : decode cX11_measures 1 = .ok (.iload_n 1, 1) := by decide +kernel
theorem dX11_measures_2 : decode cX11_measures 2 = .ok (.putfield 67, 3) := by decide +kernel
theorem dX11_measures_5 : decode cX11_measures 5 = .ok (.aload_n 0, 1) := by decide +kernel
theorem dX11_measures_6 : decode cX11_measures 6 = .ok (.aload_n 0, 1) := by decide +kernel
theorem dX11_measures_7 : decode cX11_measures 7 = .ok (.getfield 61, 3) := by decide +kernel
theorem dX11_measures_10 : decode cX11_measures 10 = .ok (.aload_n 0, 1) := by decide +kernel
theorem dX11_measures_11 : decode cX11_measures 11 = .ok (.getfield 34, 3) := by decide +kernel
theorem dX11_measures_14 : decode cX11_measures 14 = .ok (.iload_n 1, 1) := by decide +kernel
theorem dX11_measures_15 : decode cX11_measures 15 = .ok (.imul, 1) := by decide +kernel
theorem dX11_measures_16 : decode cX11_measures 16 = .ok (.iadd, 1) := by decide +kernel
theorem dX11_measures_17 : decode cX11_measures 17 = .ok (.ldc 70, 2) := by decide +kernel
theorem dX11_measures_19 : decode cX11_measures 19 = .ok (.invokestatic 71, 3) := by decide +kernel
theorem dX11_measures_22 : decode cX11_measures 22 = .ok (.putfield 61, 3) := by decide +kernel
theorem dX11_measures_25 : decode cX11_measures 25 = .ok (.aload_n 0, 1) := by decide +kernel
theorem dX11_measures_26 : decode cX11_measures 26 = .ok (.aload_n 0, 1) := by decide +kernel
theorem dX11_measures_27 : decode cX11_measures 27 = .ok (.getfield 31, 3) := by decide +kernel
theorem dX11_measures_30 : decode cX11_measures 30 = .ok (.iload_n 1, 1) := by decide +kernel
theorem dX11_measures_31 : decode cX11_measures 31 = .ok (.imul, 1) := by decide +kernel
theorem dX11_measures_32 : decode cX11_measures 32 = .ok (.aload_n 0, 1) := by decide +kernel
theorem dX11_measures_33 : decode cX11_measures 33 = .ok (.getfield 61, 3) := by decide +kernel
theorem dX11_measures_36 : decode cX11_measures 36 = .ok (.bipush 8, 2) := by decide +kernel
theorem dX11_measures_38 : decode cX11_measures 38 = .ok (.ishr, 1) := by decide +kernel
theorem dX11_measures_39 : decode cX11_measures 39 = .ok (.iadd, 1) := by decide +kernel
theorem dX11_measures_40 : decode cX11_measures 40 = .ok (.sipush 1024, 3) := by decide +kernel
theorem dX11_measures_43 : decode cX11_measures 43 = .ok (.invokestatic 71, 3) := by decide +kernel
theorem dX11_measures_46 : decode cX11_measures 46 = .ok (.putfield 64, 3) := by decide +kernel
theorem dX11_measures_49 : decode cX11_measures 49 = .ok (.return_, 1) := by decide +kernel
theorem dX11_sends_0 : decode cX11_sends 0 = .ok (.aload_n 0, 1) := by decide +kernel
theorem dX11_sends_1 : decode cX11_sends 1 = .ok (.dup, 1) := by decide +kernel
theorem dX11_sends_2 : decode cX11_sends 2 = .ok (.getfield 75, 3) := by decide +kernel
theorem dX11_sends_5 : decode cX11_sends 5 = .ok (.iconst 1, 1) := by decide +kernel
theorem dX11_sends_6 : decode cX11_sends 6 = .ok (.iadd, 1) := by decide +kernel
theorem dX11_sends_7 : decode cX11_sends 7 = .ok (.putfield 75, 3) := by decide +kernel
theorem dX11_sends_10 : decode cX11_sends 10 = .ok (.aload_n 0, 1) := by decide +kernel
theorem dX11_sends_11 : decode cX11_sends 11 = .ok (.getfield 75, 3) := by decide +kernel
theorem dX11_sends_14 : decode cX11_sends 14 = .ok (.bipush 24, 2) := by decide +kernel
theorem dX11_sends_16 : decode cX11_sends 16 = .ok (.irem, 1) := by decide +kernel
theorem dX11_sends_17 : decode cX11_sends 17 = .ok (.istore_n 1, 1) := by decide +kernel
theorem dX11_sends_18 : decode cX11_sends 18 = .ok (.iload_n 1, 1) := by decide +kernel
theorem dX11_sends_19 : decode cX11_sends 19 = .ok (.bipush 6, 2) := by decide +kernel
theorem dX11_sends_21 : decode cX11_sends 21 = .ok (.if_icmp .ge 18, 3) := by decide +kernel
theorem dX11_sends_24 : decode cX11_sends 24 = .ok (.aload_n 0, 1) := by decide +kernel
end
section
theorem dX11_sends_25 : decode cX11_sends 25 = .ok (.bipush 52, 2) := by decide +kernel
theorem dX11_sends_27 : decode cX11_sends 27 = .ok (.iconst 5, 1) := by decide +kernel
theorem dX11_sends_28 : decode cX11_sends 28 = .ok (.iload_n 1, 1) := by decide +kernel
theorem dX11_sends_29 : decode cX11_sends 29 = .ok (.isub, 1) := by decide +kernel
theorem dX11_sends_30 : decode cX11_sends 30 = .ok (.ishr, 1) := by decide +kernel
theorem dX11_sends_31 : decode cX11_sends 31 = .ok (.iconst 1, 1) := by decide +kernel
theorem dX11_sends_32 : decode cX11_sends 32 = .ok (.iand, 1) := by decide +kernel
theorem dX11_sends_33 : decode cX11_sends 33 = .ok (.putfield 20, 3) := by decide +kernel
theorem dX11_sends_36 : decode cX11_sends 36 = .ok (.goto 40, 3) := by decide +kernel
theorem dX11_sends_39 : decode cX11_sends 39 = .ok (.aload_n 0, 1) := by decide +kernel
theorem dX11_sends_40 : decode cX11_sends 40 = .ok (.aload_n 0, 1) := by decide +kernel
theorem dX11_sends_41 : decode cX11_sends 41 = .ok (.getfield 17, 3) := by decide +kernel
theorem dX11_sends_44 : decode cX11_sends 44 = .ok (.iconst 1, 1) := by decide +kernel
theorem dX11_sends_45 : decode cX11_sends 45 = .ok (.iand, 1) := by decide +kernel
theorem dX11_sends_46 : decode cX11_sends 46 = .ok (.putfield 20, 3) := by decide +kernel
theorem dX11_sends_49 : decode cX11_sends 49 = .ok (.aload_n 0, 1) := by decide +kernel
theorem dX11_sends_50 : decode cX11_sends 50 = .ok (.aload_n 0, 1) := by decide +kernel
theorem dX11_sends_51 : decode cX11_sends 51 = .ok (.getfield 17, 3) := by decide +kernel
theorem dX11_sends_54 : decode cX11_sends 54 = .ok (.iconst 1, 1) := by decide +kernel
theorem dX11_sends_55 : decode cX11_sends 55 = .ok (.ishr, 1) := by decide +kernel
theorem dX11_sends_56 : decode cX11_sends 56 = .ok (.aload_n 0, 1) := by decide +kernel
theorem dX11_sends_57 : decode cX11_sends 57 = .ok (.getfield 17, 3) := by decide +kernel
theorem dX11_sends_60 : decode cX11_sends 60 = .ok (.aload_n 0, 1) := by decide +kernel
theorem dX11_sends_61 : decode cX11_sends 61 = .ok (.getfield 17, 3) := by decide +kernel
theorem dX11_sends_64 : decode cX11_sends 64 = .ok (.iconst 1, 1) := by decide +kernel
theorem dX11_sends_65 : decode cX11_sends 65 = .ok (.ishr, 1) := by decide +kernel
theorem dX11_sends_66 : decode cX11_sends 66 = .ok (.ixor, 1) := by decide +kernel
theorem dX11_sends_67 : decode cX11_sends 67 = .ok (.iconst 1, 1) := by decide +kernel
theorem dX11_sends_68 : decode cX11_sends 68 = .ok (.iand, 1) := by decide +kernel
theorem dX11_sends_69 : decode cX11_sends 69 = .ok (.bipush 6, 2) := by decide +kernel
theorem dX11_sends_71 : decode cX11_sends 71 = .ok (.ishl, 1) := by decide +kernel
theorem dX11_sends_72 : decode cX11_sends 72 = .ok (.ior, 1) := by decide +kernel
theorem dX11_sends_73 : decode cX11_sends 73 = .ok (.putfield 17, 3) := by decide +kernel
theorem dX11_sends_76 : decode cX11_sends 76 = .ok (.return_, 1) := by decide +kernel
set_option maxRecDepth 20000 in
theorem ggX11_transmits_X11_sends : GoodIn wsX11_transmits wsX11_sends := goodIn_r _ [19, 20, 13, 21, 22, 23, 24, 25, 26, 27, 28, 29, 30, 31, 32, 33, 34, 35, 36, 37, 38, 39, 40, 41, 42, 43, 44, 45, 46, 47, 48, 49, 50, 51, 52, 53, 54, 55, 56, 57, 58] (by decide +kernel) (by decide +kernel)
set_option maxRecDepth 20000 in
theorem gX11_transmits_X11_sends : GoodIn wsX11_transmits (wsV RX11 90 RX11 yX11_sends wsX11_sends) := goodIn_app (goodIn_of _ (by decide +kernel)) ggX11_transmits_X11_sends
theorem dX11_transmits_0 : decode cX11_transmits 0 = .ok (.iconst 0, 1) := by decide +kernel
theorem dX11_transmits_1 : decode cX11_transmits 1 = .ok (.istore_n 1, 1) := by decide +kernel
theorem dX11_transmits_2 : decode cX11_transmits 2 = .ok (.aload_n 0, 1) := by decide +kernel
theorem dX11_transmits_3 : decode cX11_transmits 3 = .ok (.getfield 52, 3) := by decide +kernel
theorem dX11_transmits_6 : decode cX11_transmits 6 = .ok (.ifCond .eq 48, 3) := by decide +kernel
theorem dX11_transmits_9 : decode cX11_transmits 9 = .ok (.aload_n 0, 1) := by decide +kernel
theorem dX11_transmits_10 : decode cX11_transmits 10 = .ok (.ldc2_w 78, 3) := by decide +kernel
theorem dX11_transmits_13 : decode cX11_transmits 13 = .ok (.aload_n 0, 1) := by decide +kernel
theorem dX11_transmits_14 : decode cX11_transmits 14 = .ok (.getfield 13, 3) := by decide +kernel
theorem dX11_transmits_17 : decode cX11_transmits 17 = .ok (.lmul, 1) := by decide +kernel
theorem dX11_transmits_18 : decode cX11_transmits 18 = .ok (.ldc2_w 80, 3) := by decide +kernel
theorem dX11_transmits_21 : decode cX11_transmits 21 = .ok (.ladd, 1) := by decide +kernel
theorem dX11_transmits_22 : decode cX11_transmits 22 = .ok (.ldc2_w 82, 3) := by decide +kernel
theorem dX11_transmits_25 : decode cX11_transmits 25 = .ok (.lrem, 1) := by decide +kernel
theorem dX11_transmits_26 : decode cX11_transmits 26 = .ok (.putfield 13, 3) := by decide +kernel
theorem dX11_transmits_29 : decode cX11_transmits 29 = .ok (.aload_n 0, 1) := by decide +kernel
theorem dX11_transmits_30 : decode cX11_transmits 30 = .ok (.getfield 13, 3) := by decide +kernel
theorem dX11_transmits_33 : decode cX11_transmits 33 = .ok (.ldc2_w 84, 3) := by decide +kernel
theorem dX11_transmits_36 : decode cX11_transmits 36 = .ok (.ldiv, 1) := by decide +kernel
theorem dX11_transmits_37 : decode cX11_transmits 37 = .ok (.iconst 2, 1) := by decide +kernel
theorem dX11_transmits_38 : decode cX11_transmits 38 = .ok (.aload_n 0, 1) := by decide +kernel
theorem dX11_transmits_39 : decode cX11_transmits 39 = .ok (.getfield 52, 3) := by decide +kernel
theorem dX11_transmits_42 : decode cX11_transmits 42 = .ok (.imul, 1) := by decide +kernel
theorem dX11_transmits_43 : decode cX11_transmits 43 = .ok (.iconst 1, 1) := by decide +kernel
theorem dX11_transmits_44 : decode cX11_transmits 44 = .ok (.iadd, 1) := by decide +kernel
theorem dX11_transmits_45 : decode cX11_transmits 45 = .ok (.i2l, 1) := by decide +kernel
theorem dX11_transmits_46 : decode cX11_transmits 46 = .ok (.lrem, 1) := by decide +kernel
theorem dX11_transmits_47 : decode cX11_transmits 47 = .ok (.l2i, 1) := by decide +kernel
theorem dX11_transmits_48 : decode cX11_transmits 48 = .ok (.aload_n 0, 1) := by decide +kernel
theorem dX11_transmits_49 : decode cX11_transmits 49 = .ok (.getfield 52, 3) := by decide +kernel
theorem dX11_transmits_52 : decode cX11_transmits 52 = .ok (.isub, 1) := by decide +kernel
theorem dX11_transmits_53 : decode cX11_transmits 53 = .ok (.istore_n 1, 1) := by decide +kernel
theorem dX11_transmits_54 : decode cX11_transmits 54 = .ok (.aload_n 0, 1) := by decide +kernel
theorem dX11_transmits_55 : decode cX11_transmits 55 = .ok (.dup, 1) := by decide +kernel
theorem dX11_transmits_56 : decode cX11_transmits 56 = .ok (.getfield 86, 3) := by decide +kernel
theorem dX11_transmits_59 : decode cX11_transmits 59 = .ok (.aload_n 0, 1) := by decide +kernel
theorem dX11_transmits_60 : decode cX11_transmits 60 = .ok (.getfield 9, 3) := by decide +kernel
theorem dX11_transmits_63 : decode cX11_transmits 63 = .ok (.iload_n 1, 1) := by decide +kernel
theorem dX11_transmits_64 : decode cX11_transmits 64 = .ok (.iadd, 1) := by decide +kernel
theorem dX11_transmits_65 : decode cX11_transmits 65 = .ok (.iadd, 1) := by decide +kernel
theorem dX11_transmits_66 : decode cX11_transmits 66 = .ok (.putfield 86, 3) := by decide +kernel
theorem dX11_transmits_69 : decode cX11_transmits 69 = .ok (.aload_n 0, 1) := by decide +kernel
theorem dX11_transmits_70 : decode cX11_transmits 70 = .ok (.getfield 86, 3) := by decide +kernel
theorem dX11_transmits_73 : decode cX11_transmits 73 = .ok (.ldc 89, 2) := by decide +kernel
theorem dX11_transmits_75 : decode cX11_transmits 75 = .ok (.if_icmp .lt 18, 3) := by decide +kernel
theorem dX11_transmits_78 : decode cX11_transmits 78 = .ok (.aload_n 0, 1) := by decide +kernel
theorem dX11_transmits_79 : decode cX11_transmits 79 = .ok (.dup, 1) := by decide +kernel
theorem dX11_transmits_80 : decode cX11_transmits 80 = .ok (.getfield 86, 3) := by decide +kernel
theorem dX11_transmits_83 : decode cX11_transmits 83 = .ok (.ldc 89, 2) := by decide +kernel
theorem dX11_transmits_85 : decode cX11_transmits 85 = .ok (.isub, 1) := by decide +kernel
theorem dX11_transmits_86 : decode cX11_transmits 86 = .ok (.putfield 86, 3) := by decide +kernel
theorem dX11_transmits_89 : decode cX11_transmits 89 = .ok (.aload_n 0, 1) := by decide +kernel
theorem dX11_transmits_90 : decode cX11_transmits 90 = .ok (.invokevirtual 90, 3) := by decide +kernel
theorem dX11_transmits_93 : decode cX11_transmits 93 = .ok (.aload_n 0, 1) := by decide +kernel
theorem dX11_transmits_94 : decode cX11_transmits 94 = .ok (.dup, 1) := by decide +kernel
theorem dX11_transmits_95 : decode cX11_transmits 95 = .ok (.getfield 93, 3) := by decide +kernel
theorem dX11_transmits_98 : decode cX11_transmits 98 = .ok (.iconst 1, 1) := by decide +kernel
theorem dX11_transmits_99 : decode cX11_transmits 99 = .ok (.iadd, 1) := by decide +kernel
theorem dX11_transmits_100 : decode cX11_transmits 100 = .ok (.putfield 93, 3) := by decide +kernel
theorem dX11_transmits_103 : decode cX11_transmits 103 = .ok (.aload_n 0, 1) := by decide +kernel
theorem dX11_transmits_104 : decode cX11_transmits 104 = .ok (.aload_n 0, 1) := by decide +kernel
theorem dX11_transmits_105 : decode cX11_transmits 105 = .ok (.getfield 24, 3) := by decide +kernel
theorem dX11_transmits_108 : decode cX11_transmits 108 = .ok (.iconst 1, 1) := by decide +kernel
theorem dX11_transmits_109 : decode cX11_transmits 109 = .ok (.ishl, 1) := by decide +kernel
theorem dX11_transmits_110 : decode cX11_transmits 110 = .ok (.ldc 23, 2) := by decide +kernel
theorem dX11_transmits_112 : decode cX11_transmits 112 = .ok (.iand, 1) := by decide +kernel
theorem dX11_transmits_113 : decode cX11_transmits 113 = .ok (.aload_n 0, 1) := by decide +kernel
theorem dX11_transmits_114 : decode cX11_transmits 114 = .ok (.getfield 20, 3) := by decide +kernel
theorem dX11_transmits_117 : decode cX11_transmits 117 = .ok (.ior, 1) := by decide +kernel
theorem dX11_transmits_118 : decode cX11_transmits 118 = .ok (.putfield 24, 3) := by decide +kernel
theorem dX11_transmits_121 : decode cX11_transmits 121 = .ok (.aload_n 0, 1) := by decide +kernel
theorem dX11_transmits_122 : decode cX11_transmits 122 = .ok (.getfield 27, 3) := by decide +kernel
theorem dX11_transmits_125 : decode cX11_transmits 125 = .ok (.aload_n 0, 1) := by decide +kernel
theorem dX11_transmits_126 : decode cX11_transmits 126 = .ok (.getfield 93, 3) := by decide +kernel
theorem dX11_transmits_129 : decode cX11_transmits 129 = .ok (.sipush 256, 3) := by decide +kernel
theorem dX11_transmits_132 : decode cX11_transmits 132 = .ok (.irem, 1) := by decide +kernel
theorem dX11_transmits_133 : decode cX11_transmits 133 = .ok (.aload_n 0, 1) := by decide +kernel
theorem dX11_transmits_134 : decode cX11_transmits 134 = .ok (.getfield 24, 3) := by decide +kernel
theorem dX11_transmits_137 : decode cX11_transmits 137 = .ok (.iconst 1, 1) := by decide +kernel
theorem dX11_transmits_138 : decode cX11_transmits 138 = .ok (.iand, 1) := by decide +kernel
theorem dX11_transmits_139 : decode cX11_transmits 139 = .ok (.aload_n 0, 1) := by decide +kernel
theorem dX11_transmits_140 : decode cX11_transmits 140 = .ok (.getfield 24, 3) := by decide +kernel
theorem dX11_transmits_143 : decode cX11_transmits 143 = .ok (.iconst 1, 1) := by decide +kernel
theorem dX11_transmits_144 : decode cX11_transmits 144 = .ok (.ishr, 1) := by decide +kernel
theorem dX11_transmits_145 : decode cX11_transmits 145 = .ok (.iconst 1, 1) := by decide +kernel
theorem dX11_transmits_146 : decode cX11_transmits 146 = .ok (.iand, 1) := by decide +kernel
theorem dX11_transmits_147 : decode cX11_transmits 147 = .ok (.if_icmp .eq 7, 3) := by decide +kernel
theorem dX11_transmits_150 : decode cX11_transmits 150 = .ok (.iconst 1, 1) := by decide +kernel
theorem dX11_transmits_151 : decode cX11_transmits 151 = .ok (.goto 4, 3) := by decide +kernel
theorem dX11_transmits_154 : decode cX11_transmits 154 = .ok (.iconst 0, 1) := by decide +kernel
theorem dX11_transmits_155 : decode cX11_transmits 155 = .ok (.bastore, 1) := by decide +kernel
theorem dX11_transmits_156 : decode cX11_transmits 156 = .ok (.return_, 1) := by decide +kernel
theorem dX11_levelNow_0 : decode cX11_levelNow 0 = .ok (.iconst 0, 1) := by decide +kernel
theorem dX11_levelNow_1 : decode cX11_levelNow 1 = .ok (.istore_n 1, 1) := by decide +kernel
theorem dX11_levelNow_2 : decode cX11_levelNow 2 = .ok (.iconst 0, 1) := by decide +kernel
theorem dX11_levelNow_3 : decode cX11_levelNow 3 = .ok (.istore_n 2, 1) := by decide +kernel
theorem dX11_levelNow_4 : decode cX11_levelNow 4 = .ok (.iload_n 2, 1) := by decide +kernel
theorem dX11_levelNow_5 : decode cX11_levelNow 5 = .ok (.bipush 8, 2) := by decide +kernel
theorem dX11_levelNow_7 : decode cX11_levelNow 7 = .ok (.if_icmp .ge 20, 3) := by decide +kernel
theorem dX11_levelNow_10 : decode cX11_levelNow 10 = .ok (.iload_n 1, 1) := by decide +kernel
theorem dX11_levelNow_11 : decode cX11_levelNow 11 = .ok (.aload_n 0, 1) := by decide +kernel
theorem dX11_levelNow_12 : decode cX11_levelNow 12 = .ok (.getfield 24, 3) := by decide +kernel
theorem dX11_levelNow_15 : decode cX11_levelNow 15 = .ok (.iload_n 2, 1) := by decide +kernel
theorem dX11_levelNow_16 : decode cX11_levelNow 16 = .ok (.ishr, 1) := by decide +kernel
theorem dX11_levelNow_17 : decode cX11_levelNow 17 = .ok (.iconst 1, 1) := by decide +kernel
theorem dX11_levelNow_18 : decode cX11_levelNow 18 = .ok (.iand, 1) := by decide +kernel
theorem dX11_levelNow_19 : decode cX11_levelNow 19 = .ok (.iadd, 1) := by decide +kernel
theorem dX11_levelNow_20 : decode cX11_levelNow 20 = .ok (.istore_n 1, 1) := by decide +kernel
theorem dX11_levelNow_21 : decode cX11_levelNow 21 = .ok (.iinc 2 1, 3) := by decide +kernel
theorem dX11_levelNow_24 : decode cX11_levelNow 24 = .ok (.goto (-20), 3) := by decide +kernel
theorem dX11_levelNow_27 : decode cX11_levelNow 27 = .ok (.iconst 2, 1) := by decide +kernel
theorem dX11_levelNow_28 : decode cX11_levelNow 28 = .ok (.iload_n 1, 1) := by decide +kernel
theorem dX11_levelNow_29 : decode cX11_levelNow 29 = .ok (.imul, 1) := by decide +kernel
theorem dX11_levelNow_30 : decode cX11_levelNow 30 = .ok (.bipush 8, 2) := by decide +kernel
theorem dX11_levelNow_32 : decode cX11_levelNow 32 = .ok (.isub, 1) := by decide +kernel
theorem dX11_levelNow_33 : decode cX11_levelNow 33 = .ok (.ireturn, 1) := by decide +kernel
theorem dX11_size_0 : decode cX11_size 0 = .ok (.iload_n 0, 1) := by decide +kernel
theorem dX11_size_1 : decode cX11_size 1 = .ok (.ifCond .ge 8, 3) := by decide +kernel
theorem dX11_size_4 : decode cX11_size 4 = .ok (.iload_n 0, 1) := by decide +kernel
theorem dX11_size_5 : decode cX11_size 5 = .ok (.ineg, 1) := by decide +kernel
theorem dX11_size_6 : decode cX11_size 6 = .ok (.goto 4, 3) := by decide +kernel
theorem dX11_size_9 : decode cX11_size 9 = .ok (.iload_n 0, 1) := by decide +kernel
theorem dX11_size_10 : decode cX11_size 10 = .ok (.ireturn, 1) := by decide +kernel
set_option maxRecDepth 20000 in
theorem ggX11_measured_X11_levelNow : GoodIn wsX11_measured wsX11_levelNow := goodIn_r _ [13, 14, 15, 16, 17, 18, 19, 20, 21, 22, 23, 24, 25, 26, 27, 28, 29, 30, 31, 32, 33, 34, 35, 36, 37, 38, 39, 40, 41, 42, 43, 44, 45, 46, 47, 48, 49, 50, 51] (by decide +kernel) (by decide +kernel)
set_option maxRecDepth 20000 in
theorem gX11_measured_X11_levelNow : GoodIn wsX11_measured (wsV RX11 114 RX11 yX11_levelNow wsX11_levelNow) := goodIn_app (goodIn_of _ (by decide +kernel)) ggX11_measured_X11_levelNow
theorem dX11_measured_0 : decode cX11_measured 0 = .ok (.aload_n 0, 1) := by decide +kernel
theorem dX11_measured_1 : decode cX11_measured 1 = .ok (.getfield 96, 3) := by decide +kernel
theorem dX11_measured_4 : decode cX11_measured 4 = .ok (.iconst 1, 1) := by decide +kernel
theorem dX11_measured_5 : decode cX11_measured 5 = .ok (.ishr, 1) := by decide +kernel
theorem dX11_measured_6 : decode cX11_measured 6 = .ok (.iconst 1, 1) := by decide +kernel
theorem dX11_measured_7 : decode cX11_measured 7 = .ok (.iand, 1) := by decide +kernel
theorem dX11_measured_8 : decode cX11_measured 8 = .ok (.istore_n 1, 1) := by decide +kernel
theorem dX11_measured_9 : decode cX11_measured 9 = .ok (.aload_n 0, 1) := by decide +kernel
theorem dX11_measured_10 : decode cX11_measured 10 = .ok (.getfield 55, 3) := by decide +kernel
theorem dX11_measured_13 : decode cX11_measured 13 = .ok (.ifCond .ne 39, 3) := by decide +kernel
theorem dX11_measured_16 : decode cX11_measured 16 = .ok (.aload_n 0, 1) := by decide +kernel
theorem dX11_measured_17 : decode cX11_measured 17 = .ok (.getfield 99, 3) := by decide +kernel
theorem dX11_measured_20 : decode cX11_measured 20 = .ok (.iconst 1, 1) := by decide +kernel
theorem dX11_measured_21 : decode cX11_measured 21 = .ok (.if_icmp .eq 13, 3) := by decide +kernel
theorem dX11_measured_24 : decode cX11_measured 24 = .ok (.aload_n 0, 1) := by decide +kernel
theorem dX11_measured_25 : decode cX11_measured 25 = .ok (.getfield 96, 3) := by decide +kernel
theorem dX11_measured_28 : decode cX11_measured 28 = .ok (.iconst 1, 1) := by decide +kernel
theorem dX11_measured_29 : decode cX11_measured 29 = .ok (.iand, 1) := by decide +kernel
theorem dX11_measured_30 : decode cX11_measured 30 = .ok (.iload_n 1, 1) := by decide +kernel
theorem dX11_measured_31 : decode cX11_measured 31 = .ok (.if_icmp .ne 7, 3) := by decide +kernel
theorem dX11_measured_34 : decode cX11_measured 34 = .ok (.iconst 0, 1) := by decide +kernel
theorem dX11_measured_35 : decode cX11_measured 35 = .ok (.goto 16, 3) := by decide +kernel
theorem dX11_measured_38 : decode cX11_measured 38 = .ok (.aload_n 0, 1) := by decide +kernel
theorem dX11_measured_39 : decode cX11_measured 39 = .ok (.getfield 102, 3) := by decide +kernel
theorem dX11_measured_42 : decode cX11_measured 42 = .ok (.iload_n 1, 1) := by decide +kernel
theorem dX11_measured_43 : decode cX11_measured 43 = .ok (.if_icmp .ne 7, 3) := by decide +kernel
theorem dX11_measured_46 : decode cX11_measured 46 = .ok (.iconst (-1), 1) := by decide +kernel
theorem dX11_measured_47 : decode cX11_measured 47 = .ok (.goto 4, 3) := by decide +kernel
theorem dX11_measured_50 : decode cX11_measured 50 = .ok (.iconst 1, 1) := by decide +kernel
theorem dX11_measured_51 : decode cX11_measured 51 = .ok (.ireturn, 1) := by decide +kernel
theorem dX11_measured_52 : decode cX11_measured 52 = .ok (.aload_n 0, 1) := by decide +kernel
theorem dX11_measured_53 : decode cX11_measured 53 = .ok (.getfield 55, 3) := by decide +kernel
theorem dX11_measured_56 : decode cX11_measured 56 = .ok (.iconst 1, 1) := by decide +kernel
theorem dX11_measured_57 : decode cX11_measured 57 = .ok (.if_icmp .ne 10, 3) := by decide +kernel
theorem dX11_measured_60 : decode cX11_measured 60 = .ok (.aload_n 0, 1) := by decide +kernel
theorem dX11_measured_61 : decode cX11_measured 61 = .ok (.getfield 105, 3) := by decide +kernel
theorem dX11_measured_64 : decode cX11_measured 64 = .ok (.goto 32, 3) := by decide +kernel
theorem dX11_measured_67 : decode cX11_measured 67 = .ok (.aload_n 0, 1) := by decide +kernel
theorem dX11_measured_68 : decode cX11_measured 68 = .ok (.getfield 55, 3) := by decide +kernel
theorem dX11_measured_71 : decode cX11_measured 71 = .ok (.iconst 2, 1) := by decide +kernel
theorem dX11_measured_72 : decode cX11_measured 72 = .ok (.if_icmp .ne 10, 3) := by decide +kernel
theorem dX11_measured_75 : decode cX11_measured 75 = .ok (.aload_n 0, 1) := by decide +kernel
theorem dX11_measured_76 : decode cX11_measured 76 = .ok (.getfield 108, 3) := by decide +kernel
theorem dX11_measured_79 : decode cX11_measured 79 = .ok (.goto 17, 3) := by decide +kernel
theorem dX11_measured_82 : decode cX11_measured 82 = .ok (.aload_n 0, 1) := by decide +kernel
theorem dX11_measured_83 : decode cX11_measured 83 = .ok (.getfield 111, 3) := by decide +kernel
theorem dX11_measured_86 : decode cX11_measured 86 = .ok (.aload_n 0, 1) := by decide +kernel
theorem dX11_measured_87 : decode cX11_measured 87 = .ok (.invokevirtual 114, 3) := by decide +kernel
theorem dX11_measured_90 : decode cX11_measured 90 = .ok (.aload_n 0, 1) := by decide +kernel
theorem dX11_measured_91 : decode cX11_measured 91 = .ok (.getfield 118, 3) := by decide +kernel
theorem dX11_measured_94 : decode cX11_measured 94 = .ok (.isub, 1) := by decide +kernel
theorem dX11_measured_95 : decode cX11_measured 95 = .ok (.imul, 1) := by decide +kernel
theorem dX11_measured_96 : decode cX11_measured 96 = .ok (.ireturn, 1) := by decide +kernel
set_option maxRecDepth 20000 in
theorem ggX11_receives_X11_measured : GoodIn wsX11_receives wsX11_measured := goodIn_r _ [20, 10, 12, 3, 21, 13, 14, 22, 15, 23, 24, 25, 19, 26, 27, 51, 52, 53, 54, 55, 56, 57, 58, 59, 60, 61, 62, 63, 64, 65, 66, 67, 68, 69, 70, 71, 72, 73, 74, 75, 76, 77, 78, 79, 80, 81, 82, 83, 84, 85, 86, 87] (by decide +kernel) (by decide +kernel)
set_option maxRecDepth 20000 in
theorem gX11_receives_X11_measured : GoodIn wsX11_receives (wsV RX11 134 RX11 yX11_measured wsX11_measured) := goodIn_app (goodIn_of _ (by decide +kernel)) ggX11_receives_X11_measured
set_option maxRecDepth 20000 in
theorem ggX11_receives_X11_measures : GoodIn wsX11_receives wsX11_measures := goodIn_r _ [31, 32, 33, 34, 35, 36, 37, 38, 39, 19, 40, 51, 52, 53, 54, 55, 56, 57, 58, 59, 60, 61, 62, 63, 64, 65, 66, 67, 68, 69, 70, 71, 72, 73, 74, 75, 76, 77, 78, 79, 80, 81, 82, 83, 84, 85, 86, 87] (by decide +kernel) (by decide +kernel)
set_option maxRecDepth 20000 in
theorem gX11_receives_X11_measures : GoodIn wsX11_receives (wsV RX11 137 RX11 yX11_measures wsX11_measures) := goodIn_app (goodIn_of _ (by decide +kernel)) ggX11_receives_X11_measures
set_option maxRecDepth 20000 in
theorem ggX11_receives_X11_levelNow : GoodIn wsX11_receives wsX11_levelNow := goodIn_r _ [26, 27, 51, 52, 53, 54, 55, 56, 57, 58, 59, 60, 61, 62, 63, 64, 65, 66, 67, 68, 69, 70, 71, 72, 73, 74, 75, 76, 77, 78, 79, 80, 81, 82, 83, 84, 85, 86, 87] (by decide +kernel) (by decide +kernel)
set_option maxRecDepth 20000 in
theorem gX11_receives_X11_levelNow : GoodIn wsX11_receives (wsV RX11 114 RX11 yX11_levelNow wsX11_levelNow) := goodIn_app (goodIn_of _ (by decide +kernel)) ggX11_receives_X11_levelNow
set_option maxRecDepth 20000 in
theorem ggX11_receives_X11_aligns : GoodIn wsX11_receives wsX11_aligns := goodIn_r _ [44, 3, 10, 45, 46, 47, 48, 49, 50, 51, 52, 53, 54, 55, 56, 57, 58, 59, 60, 61, 62, 63, 64, 65, 66, 67, 68, 69, 70, 71, 72, 73, 74, 75, 76, 77, 78, 79, 80, 81, 82, 83, 84, 85, 86, 87] (by decide +kernel) (by decide +kernel)
set_option maxRecDepth 20000 in
theorem gX11_receives_X11_aligns : GoodIn wsX11_receives (wsV RX11 141 RX11 yX11_aligns wsX11_aligns) := goodIn_app (goodIn_of _ (by decide +kernel)) ggX11_receives_X11_aligns
theorem dX11_receives_0 : decode cX11_receives 0 = .ok (.aload_n 0, 1) := by decide +kernel
theorem dX11_receives_1 : decode cX11_receives 1 = .ok (.getfield 75, 3) := by decide +kernel
theorem dX11_receives_4 : decode cX11_receives 4 = .ok (.aload_n 0, 1) := by decide +kernel
theorem dX11_receives_5 : decode cX11_receives 5 = .ok (.getfield 121, 3) := by decide +kernel
theorem dX11_receives_8 : decode cX11_receives 8 = .ok (.isub, 1) := by decide +kernel
theorem dX11_receives_9 : decode cX11_receives 9 = .ok (.istore_n 1, 1) := by decide +kernel
theorem dX11_receives_10 : decode cX11_receives 10 = .ok (.aload_n 0, 1) := by decide +kernel
theorem dX11_receives_11 : decode cX11_receives 11 = .ok (.getfield 99, 3) := by decide +kernel
theorem dX11_receives_14 : decode cX11_receives 14 = .ok (.ifCond .le 12, 3) := by decide +kernel
theorem dX11_receives_17 : decode cX11_receives 17 = .ok (.iload_n 1, 1) := by decide +kernel
theorem dX11_receives_18 : decode cX11_receives 18 = .ok (.iconst 1, 1) := by decide +kernel
theorem dX11_receives_19 : decode cX11_receives 19 = .ok (.if_icmp .eq 7, 3) := by decide +kernel
theorem dX11_receives_22 : decode cX11_receives 22 = .ok (.iconst 1, 1) := by decide +kernel
theorem dX11_receives_23 : decode cX11_receives 23 = .ok (.goto 4, 3) := by decide +kernel
theorem dX11_receives_26 : decode cX11_receives 26 = .ok (.iconst 0, 1) := by decide +kernel
theorem dX11_receives_27 : decode cX11_receives 27 = .ok (.istore_n 2, 1) := by decide +kernel
theorem dX11_receives_28 : decode cX11_receives 28 = .ok (.aload_n 0, 1) := by decide +kernel
theorem dX11_receives_29 : decode cX11_receives 29 = .ok (.dup, 1) := by decide +kernel
theorem dX11_receives_30 : decode cX11_receives 30 = .ok (.getfield 124, 3) := by decide +kernel
theorem dX11_receives_33 : decode cX11_receives 33 = .ok (.iload_n 2, 1) := by decide +kernel
theorem dX11_receives_34 : decode cX11_receives 34 = .ok (.ifCond .eq 11, 3) := by decide +kernel
theorem dX11_receives_37 : decode cX11_receives 37 = .ok (.iload_n 1, 1) := by decide +kernel
theorem dX11_receives_38 : decode cX11_receives 38 = .ok (.ifCond .ne 7, 3) := by decide +kernel
theorem dX11_receives_41 : decode cX11_receives 41 = .ok (.iconst 1, 1) := by decide +kernel
theorem dX11_receives_42 : decode cX11_receives 42 = .ok (.goto 4, 3) := by decide +kernel
theorem dX11_receives_45 : decode cX11_receives 45 = .ok (.iconst 0, 1) := by decide +kernel
theorem dX11_receives_46 : decode cX11_receives 46 = .ok (.iadd, 1) := by decide +kernel
theorem dX11_receives_47 : decode cX11_receives 47 = .ok (.putfield 124, 3) := by decide +kernel
theorem dX11_receives_50 : decode cX11_receives 50 = .ok (.aload_n 0, 1) := by decide +kernel
theorem dX11_receives_51 : decode cX11_receives 51 = .ok (.dup, 1) := by decide +kernel
theorem dX11_receives_52 : decode cX11_receives 52 = .ok (.getfield 127, 3) := by decide +kernel
theorem dX11_receives_55 : decode cX11_receives 55 = .ok (.iload_n 2, 1) := by decide +kernel
theorem dX11_receives_56 : decode cX11_receives 56 = .ok (.ifCond .eq 14, 3) := by decide +kernel
theorem dX11_receives_59 : decode cX11_receives 59 = .ok (.iload_n 1, 1) := by decide +kernel
theorem dX11_receives_60 : decode cX11_receives 60 = .ok (.iconst 1, 1) := by decide +kernel
theorem dX11_receives_61 : decode cX11_receives 61 = .ok (.if_icmp .le 9, 3) := by decide +kernel
theorem dX11_receives_64 : decode cX11_receives 64 = .ok (.iload_n 1, 1) := by decide +kernel
theorem dX11_receives_65 : decode cX11_receives 65 = .ok (.iconst 1, 1) := by decide +kernel
theorem dX11_receives_66 : decode cX11_receives 66 = .ok (.isub, 1) := by decide +kernel
theorem dX11_receives_67 : decode cX11_receives 67 = .ok (.goto 4, 3) := by decide +kernel
theorem dX11_receives_70 : decode cX11_receives 70 = .ok (.iconst 0, 1) := by decide +kernel
theorem dX11_receives_71 : decode cX11_receives 71 = .ok (.iadd, 1) := by decide +kernel
theorem dX11_receives_72 : decode cX11_receives 72 = .ok (.putfield 127, 3) := by decide +kernel
theorem dX11_receives_75 : decode cX11_receives 75 = .ok (.aload_n 0, 1) := by decide +kernel
theorem dX11_receives_76 : decode cX11_receives 76 = .ok (.aload_n 0, 1) := by decide +kernel
theorem dX11_receives_77 : decode cX11_receives 77 = .ok (.getfield 130, 3) := by decide +kernel
theorem dX11_receives_80 : decode cX11_receives 80 = .ok (.iconst 1, 1) := by decide +kernel
theorem dX11_receives_81 : decode cX11_receives 81 = .ok (.ishl, 1) := by decide +kernel
theorem dX11_receives_82 : decode cX11_receives 82 = .ok (.iload_n 2, 1) := by decide +kernel
theorem dX11_receives_83 : decode cX11_receives 83 = .ok (.ifCond .eq 7, 3) := by decide +kernel
theorem dX11_receives_86 : decode cX11_receives 86 = .ok (.iconst 1, 1) := by decide +kernel
theorem dX11_receives_87 : decode cX11_receives 87 = .ok (.goto 4, 3) := by decide +kernel
theorem dX11_receives_90 : decode cX11_receives 90 = .ok (.iconst 0, 1) := by decide +kernel
theorem dX11_receives_91 : decode cX11_receives 91 = .ok (.ior, 1) := by decide +kernel
theorem dX11_receives_92 : decode cX11_receives 92 = .ok (.putfield 130, 3) := by decide +kernel
theorem dX11_receives_95 : decode cX11_receives 95 = .ok (.aload_n 0, 1) := by decide +kernel
theorem dX11_receives_96 : decode cX11_receives 96 = .ok (.getfield 37, 3) := by decide +kernel
theorem dX11_receives_99 : decode cX11_receives 99 = .ok (.aload_n 0, 1) := by decide +kernel
theorem dX11_receives_100 : decode cX11_receives 100 = .ok (.getfield 99, 3) := by decide +kernel
theorem dX11_receives_103 : decode cX11_receives 103 = .ok (.bipush 32, 2) := by decide +kernel
theorem dX11_receives_105 : decode cX11_receives 105 = .ok (.irem, 1) := by decide +kernel
theorem dX11_receives_106 : decode cX11_receives 106 = .ok (.aload_n 0, 1) := by decide +kernel
theorem dX11_receives_107 : decode cX11_receives 107 = .ok (.getfield 86, 3) := by decide +kernel
theorem dX11_receives_110 : decode cX11_receives 110 = .ok (.ldc 133, 2) := by decide +kernel
theorem dX11_receives_112 : decode cX11_receives 112 = .ok (.isub, 1) := by decide +kernel
theorem dX11_receives_113 : decode cX11_receives 113 = .ok (.iastore, 1) := by decide +kernel
theorem dX11_receives_114 : decode cX11_receives 114 = .ok (.aload_n 0, 1) := by decide +kernel
theorem dX11_receives_115 : decode cX11_receives 115 = .ok (.aload_n 0, 1) := by decide +kernel
theorem dX11_receives_116 : decode cX11_receives 116 = .ok (.getfield 75, 3) := by decide +kernel
theorem dX11_receives_119 : decode cX11_receives 119 = .ok (.putfield 121, 3) := by decide +kernel
theorem dX11_receives_122 : decode cX11_receives 122 = .ok (.aload_n 0, 1) := by decide +kernel
theorem dX11_receives_123 : decode cX11_receives 123 = .ok (.aload_n 0, 1) := by decide +kernel
theorem dX11_receives_124 : decode cX11_receives 124 = .ok (.getfield 96, 3) := by decide +kernel
theorem dX11_receives_127 : decode cX11_receives 127 = .ok (.iconst 1, 1) := by decide +kernel
theorem dX11_receives_128 : decode cX11_receives 128 = .ok (.ishl, 1) := by decide +kernel
theorem dX11_receives_129 : decode cX11_receives 129 = .ok (.aload_n 0, 1) := by decide +kernel
theorem dX11_receives_130 : decode cX11_receives 130 = .ok (.getfield 20, 3) := by decide +kernel
theorem dX11_receives_133 : decode cX11_receives 133 = .ok (.ior, 1) := by decide +kernel
theorem dX11_receives_134 : decode cX11_receives 134 = .ok (.putfield 96, 3) := by decide +kernel
theorem dX11_receives_137 : decode cX11_receives 137 = .ok (.aload_n 0, 1) := by decide +kernel
theorem dX11_receives_138 : decode cX11_receives 138 = .ok (.dup, 1) := by decide +kernel
theorem dX11_receives_139 : decode cX11_receives 139 = .ok (.getfield 99, 3) := by decide +kernel
theorem dX11_receives_142 : decode cX11_receives 142 = .ok (.iconst 1, 1) := by decide +kernel
theorem dX11_receives_143 : decode cX11_receives 143 = .ok (.iadd, 1) := by decide +kernel
theorem dX11_receives_144 : decode cX11_receives 144 = .ok (.putfield 99, 3) := by decide +kernel
theorem dX11_receives_147 : decode cX11_receives 147 = .ok (.aload_n 0, 1) := by decide +kernel
theorem dX11_receives_148 : decode cX11_receives 148 = .ok (.getfield 55, 3) := by decide +kernel
theorem dX11_receives_151 : decode cX11_receives 151 = .ok (.iconst 4, 1) := by decide +kernel
theorem dX11_receives_152 : decode cX11_receives 152 = .ok (.if_icmp .ge 11, 3) := by decide +kernel
theorem dX11_receives_155 : decode cX11_receives 155 = .ok (.aload_n 0, 1) := by decide +kernel
theorem dX11_receives_156 : decode cX11_receives 156 = .ok (.aload_n 0, 1) := by decide +kernel
theorem dX11_receives_157 : decode cX11_receives 157 = .ok (.invokevirtual 134, 3) := by decide +kernel
theorem dX11_receives_160 : decode cX11_receives 160 = .ok (.invokevirtual 137, 3) := by decide +kernel
theorem dX11_receives_163 : decode cX11_receives 163 = .ok (.aload_n 0, 1) := by decide +kernel
theorem dX11_receives_164 : decode cX11_receives 164 = .ok (.iconst 0, 1) := by decide +kernel
theorem dX11_receives_165 : decode cX11_receives 165 = .ok (.putfield 105, 3) := by decide +kernel
theorem dX11_receives_168 : decode cX11_receives 168 = .ok (.aload_n 0, 1) := by decide +kernel
theorem dX11_receives_169 : decode cX11_receives 169 = .ok (.iconst 0, 1) := by decide +kernel
theorem dX11_receives_170 : decode cX11_receives 170 = .ok (.putfield 108, 3) := by decide +kernel
theorem dX11_receives_173 : decode cX11_receives 173 = .ok (.aload_n 0, 1) := by decide +kernel
theorem dX11_receives_174 : decode cX11_receives 174 = .ok (.aload_n 0, 1) := by decide +kernel
theorem dX11_receives_175 : decode cX11_receives 175 = .ok (.invokevirtual 114, 3) := by decide +kernel
theorem dX11_receives_178 : decode cX11_receives 178 = .ok (.putfield 118, 3) := by decide +kernel
theorem dX11_receives_181 : decode cX11_receives 181 = .ok (.aload_n 0, 1) := by decide +kernel
theorem dX11_receives_182 : decode cX11_receives 182 = .ok (.invokevirtual 141, 3) := by decide +kernel
theorem dX11_receives_185 : decode cX11_receives 185 = .ok (.return_, 1) := by decide +kernel
theorem dX11_aligns_0 : decode cX11_aligns 0 = .ok (.aload_n 0, 1) := by decide +kernel
theorem dX11_aligns_1 : decode cX11_aligns 1 = .ok (.getfield 99, 3) := by decide +kernel
theorem dX11_aligns_4 : decode cX11_aligns 4 = .ok (.bipush 6, 2) := by decide +kernel
theorem dX11_aligns_6 : decode cX11_aligns 6 = .ok (.if_icmp .lt 19, 3) := by decide +kernel
theorem dX11_aligns_9 : decode cX11_aligns 9 = .ok (.aload_n 0, 1) := by decide +kernel
theorem dX11_aligns_10 : decode cX11_aligns 10 = .ok (.getfield 96, 3) := by decide +kernel
theorem dX11_aligns_13 : decode cX11_aligns 13 = .ok (.bipush 63, 2) := by decide +kernel
theorem dX11_aligns_15 : decode cX11_aligns 15 = .ok (.iand, 1) := by decide +kernel
theorem dX11_aligns_16 : decode cX11_aligns 16 = .ok (.bipush 52, 2) := by decide +kernel
theorem dX11_aligns_18 : decode cX11_aligns 18 = .ok (.if_icmp .ne 7, 3) := by decide +kernel
theorem dX11_aligns_21 : decode cX11_aligns 21 = .ok (.iconst 1, 1) := by decide +kernel
theorem dX11_aligns_22 : decode cX11_aligns 22 = .ok (.goto 4, 3) := by decide +kernel
theorem dX11_aligns_25 : decode cX11_aligns 25 = .ok (.iconst 0, 1) := by decide +kernel
theorem dX11_aligns_26 : decode cX11_aligns 26 = .ok (.istore_n 1, 1) := by decide +kernel
theorem dX11_aligns_27 : decode cX11_aligns 27 = .ok (.aload_n 0, 1) := by decide +kernel
theorem dX11_aligns_28 : decode cX11_aligns 28 = .ok (.dup, 1) := by decide +kernel
theorem dX11_aligns_29 : decode cX11_aligns 29 = .ok (.getfield 144, 3) := by decide +kernel
theorem dX11_aligns_32 : decode cX11_aligns 32 = .ok (.iconst 1, 1) := by decide +kernel
theorem dX11_aligns_33 : decode cX11_aligns 33 = .ok (.iadd, 1) := by decide +kernel
theorem dX11_aligns_34 : decode cX11_aligns 34 = .ok (.putfield 144, 3) := by decide +kernel
theorem dX11_aligns_37 : decode cX11_aligns 37 = .ok (.aload_n 0, 1) := by decide +kernel
theorem dX11_aligns_38 : decode cX11_aligns 38 = .ok (.getfield 147, 3) := by decide +kernel
theorem dX11_aligns_41 : decode cX11_aligns 41 = .ok (.ifCond .ne 29, 3) := by decide +kernel
theorem dX11_aligns_44 : decode cX11_aligns 44 = .ok (.aload_n 0, 1) := by decide +kernel
theorem dX11_aligns_45 : decode cX11_aligns 45 = .ok (.iload_n 1, 1) := by decide +kernel
theorem dX11_aligns_46 : decode cX11_aligns 46 = .ok (.ifCond .eq 7, 3) := by decide +kernel
theorem dX11_aligns_49 : decode cX11_aligns 49 = .ok (.iconst 1, 1) := by decide +kernel
theorem dX11_aligns_50 : decode cX11_aligns 50 = .ok (.goto 4, 3) := by decide +kernel
theorem dX11_aligns_53 : decode cX11_aligns 53 = .ok (.iconst 0, 1) := by decide +kernel
theorem dX11_aligns_54 : decode cX11_aligns 54 = .ok (.putfield 147, 3) := by decide +kernel
theorem dX11_aligns_57 : decode cX11_aligns 57 = .ok (.aload_n 0, 1) := by decide +kernel
theorem dX11_aligns_58 : decode cX11_aligns 58 = .ok (.iconst 0, 1) := by decide +kernel
theorem dX11_aligns_59 : decode cX11_aligns 59 = .ok (.putfield 150, 3) := by decide +kernel
theorem dX11_aligns_62 : decode cX11_aligns 62 = .ok (.aload_n 0, 1) := by decide +kernel
theorem dX11_aligns_63 : decode cX11_aligns 63 = .ok (.iconst 0, 1) := by decide +kernel
theorem dX11_aligns_64 : decode cX11_aligns 64 = .ok (.putfield 144, 3) := by decide +kernel
theorem dX11_aligns_67 : decode cX11_aligns 67 = .ok (.goto 139, 3) := by decide +kernel
theorem dX11_aligns_70 : decode cX11_aligns 70 = .ok (.aload_n 0, 1) := by decide +kernel
theorem dX11_aligns_71 : decode cX11_aligns 71 = .ok (.getfield 144, 3) := by decide +kernel
theorem dX11_aligns_74 : decode cX11_aligns 74 = .ok (.bipush 24, 2) := by decide +kernel
theorem dX11_aligns_76 : decode cX11_aligns 76 = .ok (.irem, 1) := by decide +kernel
theorem dX11_aligns_77 : decode cX11_aligns 77 = .ok (.ifCond .ne 129, 3) := by decide +kernel
theorem dX11_aligns_80 : decode cX11_aligns 80 = .ok (.aload_n 0, 1) := by decide +kernel
theorem dX11_aligns_81 : decode cX11_aligns 81 = .ok (.getfield 147, 3) := by decide +kernel
theorem dX11_aligns_84 : decode cX11_aligns 84 = .ok (.iconst 1, 1) := by decide +kernel
theorem dX11_aligns_85 : decode cX11_aligns 85 = .ok (.if_icmp .ne 46, 3) := by decide +kernel
theorem dX11_aligns_88 : decode cX11_aligns 88 = .ok (.aload_n 0, 1) := by decide +kernel
theorem dX11_aligns_89 : decode cX11_aligns 89 = .ok (.dup, 1) := by decide +kernel
theorem dX11_aligns_90 : decode cX11_aligns 90 = .ok (.getfield 150, 3) := by decide +kernel
theorem dX11_aligns_93 : decode cX11_aligns 93 = .ok (.iconst 1, 1) := by decide +kernel
theorem dX11_aligns_94 : decode cX11_aligns 94 = .ok (.iadd, 1) := by decide +kernel
theorem dX11_aligns_95 : decode cX11_aligns 95 = .ok (.putfield 150, 3) := by decide +kernel
theorem dX11_aligns_98 : decode cX11_aligns 98 = .ok (.aload_n 0, 1) := by decide +kernel
theorem dX11_aligns_99 : decode cX11_aligns 99 = .ok (.iconst 0, 1) := by decide +kernel
theorem dX11_aligns_100 : decode cX11_aligns 100 = .ok (.putfield 153, 3) := by decide +kernel
theorem dX11_aligns_103 : decode cX11_aligns 103 = .ok (.aload_n 0, 1) := by decide +kernel
theorem dX11_aligns_104 : decode cX11_aligns 104 = .ok (.iload_n 1, 1) := by decide +kernel
theorem dX11_aligns_105 : decode cX11_aligns 105 = .ok (.ifCond .ne 7, 3) := by decide +kernel
theorem dX11_aligns_108 : decode cX11_aligns 108 = .ok (.iconst 0, 1) := by decide +kernel
theorem dX11_aligns_109 : decode cX11_aligns 109 = .ok (.goto 16, 3) := by decide +kernel
theorem dX11_aligns_112 : decode cX11_aligns 112 = .ok (.aload_n 0, 1) := by decide +kernel
theorem dX11_aligns_113 : decode cX11_aligns 113 = .ok (.getfield 150, 3) := by decide +kernel
theorem dX11_aligns_116 : decode cX11_aligns 116 = .ok (.iconst 2, 1) := by decide +kernel
theorem dX11_aligns_117 : decode cX11_aligns 117 = .ok (.if_icmp .ne 7, 3) := by decide +kernel
theorem dX11_aligns_120 : decode cX11_aligns 120 = .ok (.iconst 2, 1) := by decide +kernel
theorem dX11_aligns_121 : decode cX11_aligns 121 = .ok (.goto 4, 3) := by decide +kernel
theorem dX11_aligns_124 : decode cX11_aligns 124 = .ok (.iconst 1, 1) := by decide +kernel
theorem dX11_aligns_125 : decode cX11_aligns 125 = .ok (.putfield 147, 3) := by decide +kernel
theorem dX11_aligns_128 : decode cX11_aligns 128 = .ok (.goto 78, 3) := by decide +kernel
theorem dX11_aligns_131 : decode cX11_aligns 131 = .ok (.aload_n 0, 1) := by decide +kernel
theorem dX11_aligns_132 : decode cX11_aligns 132 = .ok (.dup, 1) := by decide +kernel
theorem dX11_aligns_133 : decode cX11_aligns 133 = .ok (.getfield 156, 3) := by decide +kernel
theorem dX11_aligns_136 : decode cX11_aligns 136 = .ok (.iload_n 1, 1) := by decide +kernel
theorem dX11_aligns_137 : decode cX11_aligns 137 = .ok (.ifCond .eq 7, 3) := by decide +kernel
theorem dX11_aligns_140 : decode cX11_aligns 140 = .ok (.iconst 1, 1) := by decide +kernel
theorem dX11_aligns_141 : decode cX11_aligns 141 = .ok (.goto 4, 3) := by decide +kernel
theorem dX11_aligns_144 : decode cX11_aligns 144 = .ok (.iconst 0, 1) := by decide +kernel
theorem dX11_aligns_145 : decode cX11_aligns 145 = .ok (.iadd, 1) := by decide +kernel
theorem dX11_aligns_146 : decode cX11_aligns 146 = .ok (.putfield 156, 3) := by decide +kernel
theorem dX11_aligns_149 : decode cX11_aligns 149 = .ok (.aload_n 0, 1) := by decide +kernel
theorem dX11_aligns_150 : decode cX11_aligns 150 = .ok (.iload_n 1, 1) := by decide +kernel
theorem dX11_aligns_151 : decode cX11_aligns 151 = .ok (.ifCond .eq 7, 3) := by decide +kernel
theorem dX11_aligns_154 : decode cX11_aligns 154 = .ok (.iconst 0, 1) := by decide +kernel
theorem dX11_aligns_155 : decode cX11_aligns 155 = .ok (.goto 9, 3) := by decide +kernel
theorem dX11_aligns_158 : decode cX11_aligns 158 = .ok (.aload_n 0, 1) := by decide +kernel
theorem dX11_aligns_159 : decode cX11_aligns 159 = .ok (.getfield 153, 3) := by decide +kernel
theorem dX11_aligns_162 : decode cX11_aligns 162 = .ok (.iconst 1, 1) := by decide +kernel
theorem dX11_aligns_163 : decode cX11_aligns 163 = .ok (.iadd, 1) := by decide +kernel
theorem dX11_aligns_164 : decode cX11_aligns 164 = .ok (.putfield 153, 3) := by decide +kernel
theorem dX11_aligns_167 : decode cX11_aligns 167 = .ok (.aload_n 0, 1) := by decide +kernel
theorem dX11_aligns_168 : decode cX11_aligns 168 = .ok (.dup, 1) := by decide +kernel
theorem dX11_aligns_169 : decode cX11_aligns 169 = .ok (.getfield 159, 3) := by decide +kernel
theorem dX11_aligns_172 : decode cX11_aligns 172 = .ok (.aload_n 0, 1) := by decide +kernel
theorem dX11_aligns_173 : decode cX11_aligns 173 = .ok (.getfield 153, 3) := by decide +kernel
theorem dX11_aligns_176 : decode cX11_aligns 176 = .ok (.iconst 3, 1) := by decide +kernel
theorem dX11_aligns_177 : decode cX11_aligns 177 = .ok (.if_icmp .ne 7, 3) := by decide +kernel
theorem dX11_aligns_180 : decode cX11_aligns 180 = .ok (.iconst 1, 1) := by decide +kernel
theorem dX11_aligns_181 : decode cX11_aligns 181 = .ok (.goto 4, 3) := by decide +kernel
theorem dX11_aligns_184 : decode cX11_aligns 184 = .ok (.iconst 0, 1) := by decide +kernel
theorem dX11_aligns_185 : decode cX11_aligns 185 = .ok (.iadd, 1) := by decide +kernel
theorem dX11_aligns_186 : decode cX11_aligns 186 = .ok (.putfield 159, 3) := by decide +kernel
theorem dX11_aligns_189 : decode cX11_aligns 189 = .ok (.aload_n 0, 1) := by decide +kernel
theorem dX11_aligns_190 : decode cX11_aligns 190 = .ok (.aload_n 0, 1) := by decide +kernel
theorem dX11_aligns_191 : decode cX11_aligns 191 = .ok (.getfield 153, 3) := by decide +kernel
theorem dX11_aligns_194 : decode cX11_aligns 194 = .ok (.iconst 3, 1) := by decide +kernel
theorem dX11_aligns_195 : decode cX11_aligns 195 = .ok (.if_icmp .ne 7, 3) := by decide +kernel
theorem dX11_aligns_198 : decode cX11_aligns 198 = .ok (.iconst 0, 1) := by decide +kernel
theorem dX11_aligns_199 : decode cX11_aligns 199 = .ok (.goto 4, 3) := by decide +kernel
theorem dX11_aligns_202 : decode cX11_aligns 202 = .ok (.iconst 2, 1) := by decide +kernel
theorem dX11_aligns_203 : decode cX11_aligns 203 = .ok (.putfield 147, 3) := by decide +kernel
theorem dX11_aligns_206 : decode cX11_aligns 206 = .ok (.return_, 1) := by decide +kernel
set_option maxRecDepth 20000 in
theorem ggX11_strobes_X11_levelNow : GoodIn wsX11_strobes wsX11_levelNow := goodIn_r _ [14, 15, 62, 63, 64, 65, 66, 67, 68, 69, 70, 71, 72, 73, 74, 75, 76, 77, 78, 79, 80, 81, 82, 83, 84, 85, 86, 87, 88, 89, 90, 91, 92, 93, 94, 95, 96, 97, 98] (by decide +kernel) (by decide +kernel)
set_option maxRecDepth 20000 in
theorem gX11_strobes_X11_levelNow : GoodIn wsX11_strobes (wsV RX11 114 RX11 yX11_levelNow wsX11_levelNow) := goodIn_app (goodIn_of _ (by decide +kernel)) ggX11_strobes_X11_levelNow
set_option maxRecDepth 20000 in
theorem ggX11_strobes_X11_size : GoodIn wsX11_strobes wsX11_size := goodIn_r _ [18] (by decide +kernel) (by decide +kernel)
set_option maxRecDepth 20000 in
theorem gX11_strobes_X11_size : GoodIn wsX11_strobes (va_wsS RX11 165 yX11_size wsX11_size) := goodIn_app (goodIn_of _ (by decide +kernel)) ggX11_strobes_X11_size
set_option maxRecDepth 20000 in
theorem ggX11_strobes_X11_measures : GoodIn wsX11_strobes wsX11_measures := goodIn_r _ [22, 23, 24, 25, 26, 27, 28, 29, 30, 13, 31, 62, 63, 64, 65, 66, 67, 68, 69, 70, 71, 72, 73, 74, 75, 76, 77, 78, 79, 80, 81, 82, 83, 84, 85, 86, 87, 88, 89, 90, 91, 92, 93, 94, 95, 96, 97, 98] (by decide +kernel) (by decide +kernel)
set_option maxRecDepth 20000 in
theorem gX11_strobes_X11_measures : GoodIn wsX11_strobes (wsV RX11 137 RX11 yX11_measures wsX11_measures) := goodIn_app (goodIn_of _ (by decide +kernel)) ggX11_strobes_X11_measures
set_option maxRecDepth 20000 in
theorem ggX11_strobes_X11_receives : GoodIn wsX11_strobes wsX11_receives := goodIn_r _ [35, 36, 37, 38, 39, 40, 41, 42, 43, 4, 44, 5, 2, 45, 46, 47, 48, 49, 50, 13, 51, 6, 7, 10, 11, 12, 14, 15, 19, 20, 21, 22, 23, 24, 25, 26, 27, 28, 29, 30, 31, 52, 53, 54, 55, 56, 57, 58, 59, 60, 61, 62, 63, 64, 65, 66, 67, 68, 69, 70, 71, 72, 73, 74, 75, 76, 77, 78, 79, 80, 81, 82, 83, 84, 85, 86, 87, 88, 89, 90, 91, 92, 93, 94, 95, 96, 97, 98] (by decide +kernel) (by decide +kernel)
set_option maxRecDepth 20000 in
theorem gX11_strobes_X11_receives : GoodIn wsX11_strobes (wsV RX11 170 RX11 yX11_receives wsX11_receives) := goodIn_app (goodIn_of _ (by decide +kernel)) ggX11_strobes_X11_receives
theorem dX11_strobes_0 : decode cX11_strobes 0 = .ok (.iload_n 1, 1) := by decide +kernel
theorem dX11_strobes_1 : decode cX11_strobes 1 = .ok (.sipush 16384, 3) := by decide +kernel
theorem dX11_strobes_4 : decode cX11_strobes 4 = .ok (.if_icmp .ge 37, 3) := by decide +kernel
theorem dX11_strobes_7 : decode cX11_strobes 7 = .ok (.aload_n 0, 1) := by decide +kernel
theorem dX11_strobes_8 : decode cX11_strobes 8 = .ok (.getfield 58, 3) := by decide +kernel
theorem dX11_strobes_11 : decode cX11_strobes 11 = .ok (.sipush 16384, 3) := by decide +kernel
theorem dX11_strobes_14 : decode cX11_strobes 14 = .ok (.if_icmp .lt 27, 3) := by decide +kernel
theorem dX11_strobes_17 : decode cX11_strobes 17 = .ok (.aload_n 0, 1) := by decide +kernel
theorem dX11_strobes_18 : decode cX11_strobes 18 = .ok (.getfield 55, 3) := by decide +kernel
theorem dX11_strobes_21 : decode cX11_strobes 21 = .ok (.iconst 4, 1) := by decide +kernel
theorem dX11_strobes_22 : decode cX11_strobes 22 = .ok (.if_icmp .ne 19, 3) := by decide +kernel
theorem dX11_strobes_25 : decode cX11_strobes 25 = .ok (.aload_n 0, 1) := by decide +kernel
theorem dX11_strobes_26 : decode cX11_strobes 26 = .ok (.aload_n 0, 1) := by decide +kernel
theorem dX11_strobes_27 : decode cX11_strobes 27 = .ok (.getfield 162, 3) := by decide +kernel
theorem dX11_strobes_30 : decode cX11_strobes 30 = .ok (.aload_n 0, 1) := by decide +kernel
theorem dX11_strobes_31 : decode cX11_strobes 31 = .ok (.invokevirtual 114, 3) := by decide +kernel
theorem dX11_strobes_34 : decode cX11_strobes 34 = .ok (.invokestatic 165, 3) := by decide +kernel
theorem dX11_strobes_37 : decode cX11_strobes 37 = .ok (.isub, 1) := by decide +kernel
theorem dX11_strobes_38 : decode cX11_strobes 38 = .ok (.invokevirtual 137, 3) := by decide +kernel
theorem dX11_strobes_41 : decode cX11_strobes 41 = .ok (.iload_n 1, 1) := by decide +kernel
theorem dX11_strobes_42 : decode cX11_strobes 42 = .ok (.ldc 133, 2) := by decide +kernel
theorem dX11_strobes_44 : decode cX11_strobes 44 = .ok (.if_icmp .ge 28, 3) := by decide +kernel
theorem dX11_strobes_47 : decode cX11_strobes 47 = .ok (.aload_n 0, 1) := by decide +kernel
theorem dX11_strobes_48 : decode cX11_strobes 48 = .ok (.getfield 58, 3) := by decide +kernel
theorem dX11_strobes_51 : decode cX11_strobes 51 = .ok (.ldc 133, 2) := by decide +kernel
theorem dX11_strobes_53 : decode cX11_strobes 53 = .ok (.if_icmp .lt 19, 3) := by decide +kernel
theorem dX11_strobes_56 : decode cX11_strobes 56 = .ok (.aload_n 0, 1) := by decide +kernel
theorem dX11_strobes_57 : decode cX11_strobes 57 = .ok (.aload_n 0, 1) := by decide +kernel
theorem dX11_strobes_58 : decode cX11_strobes 58 = .ok (.getfield 20, 3) := by decide +kernel
theorem dX11_strobes_61 : decode cX11_strobes 61 = .ok (.putfield 102, 3) := by decide +kernel
theorem dX11_strobes_64 : decode cX11_strobes 64 = .ok (.aload_n 0, 1) := by decide +kernel
theorem dX11_strobes_65 : decode cX11_strobes 65 = .ok (.aload_n 0, 1) := by decide +kernel
theorem dX11_strobes_66 : decode cX11_strobes 66 = .ok (.invokevirtual 114, 3) := by decide +kernel
theorem dX11_strobes_69 : decode cX11_strobes 69 = .ok (.putfield 111, 3) := by decide +kernel
theorem dX11_strobes_72 : decode cX11_strobes 72 = .ok (.iload_n 1, 1) := by decide +kernel
theorem dX11_strobes_73 : decode cX11_strobes 73 = .ok (.ldc 169, 2) := by decide +kernel
theorem dX11_strobes_75 : decode cX11_strobes 75 = .ok (.if_icmp .ge 23, 3) := by decide +kernel
theorem dX11_strobes_78 : decode cX11_strobes 78 = .ok (.aload_n 0, 1) := by decide +kernel
theorem dX11_strobes_79 : decode cX11_strobes 79 = .ok (.getfield 58, 3) := by decide +kernel
theorem dX11_strobes_82 : decode cX11_strobes 82 = .ok (.ldc 169, 2) := by decide +kernel
theorem dX11_strobes_84 : decode cX11_strobes 84 = .ok (.if_icmp .lt 14, 3) := by decide +kernel
theorem dX11_strobes_87 : decode cX11_strobes 87 = .ok (.aload_n 0, 1) := by decide +kernel
theorem dX11_strobes_88 : decode cX11_strobes 88 = .ok (.aload_n 0, 1) := by decide +kernel
theorem dX11_strobes_89 : decode cX11_strobes 89 = .ok (.invokevirtual 114, 3) := by decide +kernel
theorem dX11_strobes_92 : decode cX11_strobes 92 = .ok (.invokestatic 165, 3) := by decide +kernel
theorem dX11_strobes_95 : decode cX11_strobes 95 = .ok (.putfield 162, 3) := by decide +kernel
theorem dX11_strobes_98 : decode cX11_strobes 98 = .ok (.aload_n 0, 1) := by decide +kernel
theorem dX11_strobes_99 : decode cX11_strobes 99 = .ok (.getfield 58, 3) := by decide +kernel
theorem dX11_strobes_102 : decode cX11_strobes 102 = .ok (.ldc 89, 2) := by decide +kernel
theorem dX11_strobes_104 : decode cX11_strobes 104 = .ok (.if_icmp .lt 18, 3) := by decide +kernel
theorem dX11_strobes_107 : decode cX11_strobes 107 = .ok (.aload_n 0, 1) := by decide +kernel
theorem dX11_strobes_108 : decode cX11_strobes 108 = .ok (.dup, 1) := by decide +kernel
theorem dX11_strobes_109 : decode cX11_strobes 109 = .ok (.getfield 58, 3) := by decide +kernel
theorem dX11_strobes_112 : decode cX11_strobes 112 = .ok (.ldc 89, 2) := by decide +kernel
theorem dX11_strobes_114 : decode cX11_strobes 114 = .ok (.isub, 1) := by decide +kernel
theorem dX11_strobes_115 : decode cX11_strobes 115 = .ok (.putfield 58, 3) := by decide +kernel
theorem dX11_strobes_118 : decode cX11_strobes 118 = .ok (.aload_n 0, 1) := by decide +kernel
theorem dX11_strobes_119 : decode cX11_strobes 119 = .ok (.invokevirtual 170, 3) := by decide +kernel
theorem dX11_strobes_122 : decode cX11_strobes 122 = .ok (.return_, 1) := by decide +kernel
set_option maxRecDepth 20000 in
theorem ggX11_passes_X11_transmits : GoodIn wsX11_passes wsX11_transmits := goodIn_r _ [14, 15, 16, 17, 18, 19, 20, 21, 22, 23, 2, 6, 24, 25, 1, 26, 27, 28, 13, 29, 30, 31, 89, 90, 91, 92, 93, 94, 95, 96, 97, 98, 99, 100, 101, 102, 103, 104, 105, 106, 107, 108, 109, 110, 111, 112, 113, 114, 115, 116, 117, 118, 119, 120, 121, 122, 123, 124, 125] (by decide +kernel) (by decide +kernel)
set_option maxRecDepth 20000 in
theorem gX11_passes_X11_transmits : GoodIn wsX11_passes (wsV RX11 173 RX11 yX11_transmits wsX11_transmits) := goodIn_app (goodIn_of _ (by decide +kernel)) ggX11_passes_X11_transmits
set_option maxRecDepth 20000 in
theorem ggX11_passes_X11_in : GoodIn wsX11_passes wsX11_in := goodIn_r _ [34] (by decide +kernel) (by decide +kernel)
set_option maxRecDepth 20000 in
theorem gX11_passes_X11_in : GoodIn wsX11_passes (va_wsS RX11 44 yX11_in wsX11_in) := goodIn_app (goodIn_of _ (by decide +kernel)) ggX11_passes_X11_in
set_option maxRecDepth 20000 in
theorem ggX11_passes_X11_strobes : GoodIn wsX11_passes wsX11_strobes := goodIn_r _ [38, 4, 39, 40, 3, 25, 41, 42, 43, 23, 44, 45, 46, 13, 47, 6, 48, 49, 50, 51, 52, 53, 54, 55, 56, 57, 58, 59, 9, 60, 61, 62, 63, 64, 65, 66, 30, 67, 68, 69, 70, 71, 72, 21, 73, 5, 7, 74, 75, 76, 77, 78, 79, 80, 81, 82, 83, 84, 85, 86, 87, 88, 89, 90, 91, 92, 93, 94, 95, 96, 97, 98, 99, 100, 101, 102, 103, 104, 105, 106, 107, 108, 109, 110, 111, 112, 113, 114, 115, 116, 117, 118, 119, 120, 121, 122, 123, 124, 125] (by decide +kernel) (by decide +kernel)
set_option maxRecDepth 20000 in
theorem gX11_passes_X11_strobes : GoodIn wsX11_passes (wsV RX11 177 RX11 yX11_strobes wsX11_strobes) := goodIn_app (goodIn_of _ (by decide +kernel)) ggX11_passes_X11_strobes
theorem dX11_passes_0 : decode cX11_passes 0 = .ok (.aload_n 0, 1) := by decide +kernel
theorem dX11_passes_1 : decode cX11_passes 1 = .ok (.invokevirtual 173, 3) := by decide +kernel
theorem dX11_passes_4 : decode cX11_passes 4 = .ok (.aload_n 0, 1) := by decide +kernel
theorem dX11_passes_5 : decode cX11_passes 5 = .ok (.getfield 27, 3) := by decide +kernel
theorem dX11_passes_8 : decode cX11_passes 8 = .ok (.aload_n 0, 1) := by decide +kernel
theorem dX11_passes_9 : decode cX11_passes 9 = .ok (.getfield 93, 3) := by decide +kernel
theorem dX11_passes_12 : decode cX11_passes 12 = .ok (.sipush 256, 3) := by decide +kernel
theorem dX11_passes_15 : decode cX11_passes 15 = .ok (.irem, 1) := by decide +kernel
theorem dX11_passes_16 : decode cX11_passes 16 = .ok (.baload, 1) := by decide +kernel
theorem dX11_passes_17 : decode cX11_passes 17 = .ok (.ifCond .eq 18, 3) := by decide +kernel
theorem dX11_passes_20 : decode cX11_passes 20 = .ok (.aload_n 0, 1) := by decide +kernel
theorem dX11_passes_21 : decode cX11_passes 21 = .ok (.ldc 133, 2) := by decide +kernel
theorem dX11_passes_23 : decode cX11_passes 23 = .ok (.aload_n 0, 1) := by decide +kernel
theorem dX11_passes_24 : decode cX11_passes 24 = .ok (.getfield 58, 3) := by decide +kernel
theorem dX11_passes_27 : decode cX11_passes 27 = .ok (.isub, 1) := by decide +kernel
theorem dX11_passes_28 : decode cX11_passes 28 = .ok (.sipush 256, 3) := by decide +kernel
theorem dX11_passes_31 : decode cX11_passes 31 = .ok (.idiv, 1) := by decide +kernel
theorem dX11_passes_32 : decode cX11_passes 32 = .ok (.putfield 105, 3) := by decide +kernel
theorem dX11_passes_35 : decode cX11_passes 35 = .ok (.aload_n 0, 1) := by decide +kernel
theorem dX11_passes_36 : decode cX11_passes 36 = .ok (.getfield 24, 3) := by decide +kernel
theorem dX11_passes_39 : decode cX11_passes 39 = .ok (.iconst 1, 1) := by decide +kernel
theorem dX11_passes_40 : decode cX11_passes 40 = .ok (.iand, 1) := by decide +kernel
theorem dX11_passes_41 : decode cX11_passes 41 = .ok (.aload_n 0, 1) := by decide +kernel
theorem dX11_passes_42 : decode cX11_passes 42 = .ok (.getfield 24, 3) := by decide +kernel
theorem dX11_passes_45 : decode cX11_passes 45 = .ok (.bipush 8, 2) := by decide +kernel
theorem dX11_passes_47 : decode cX11_passes 47 = .ok (.ishr, 1) := by decide +kernel
theorem dX11_passes_48 : decode cX11_passes 48 = .ok (.iconst 1, 1) := by decide +kernel
theorem dX11_passes_49 : decode cX11_passes 49 = .ok (.iand, 1) := by decide +kernel
theorem dX11_passes_50 : decode cX11_passes 50 = .ok (.if_icmp .eq 32, 3) := by decide +kernel
theorem dX11_passes_53 : decode cX11_passes 53 = .ok (.aload_n 0, 1) := by decide +kernel
theorem dX11_passes_54 : decode cX11_passes 54 = .ok (.dup, 1) := by decide +kernel
theorem dX11_passes_55 : decode cX11_passes 55 = .ok (.getfield 108, 3) := by decide +kernel
theorem dX11_passes_58 : decode cX11_passes 58 = .ok (.aload_n 0, 1) := by decide +kernel
theorem dX11_passes_59 : decode cX11_passes 59 = .ok (.getfield 58, 3) := by decide +kernel
theorem dX11_passes_62 : decode cX11_passes 62 = .ok (.sipush 16384, 3) := by decide +kernel
theorem dX11_passes_65 : decode cX11_passes 65 = .ok (.ldc 176, 2) := by decide +kernel
theorem dX11_passes_67 : decode cX11_passes 67 = .ok (.invokestatic 44, 3) := by decide +kernel
theorem dX11_passes_70 : decode cX11_passes 70 = .ok (.ifCond .eq 7, 3) := by decide +kernel
theorem dX11_passes_73 : decode cX11_passes 73 = .ok (.iconst 1, 1) := by decide +kernel
theorem dX11_passes_74 : decode cX11_passes 74 = .ok (.goto 4, 3) := by decide +kernel
theorem dX11_passes_77 : decode cX11_passes 77 = .ok (.iconst (-1), 1) := by decide +kernel
theorem dX11_passes_78 : decode cX11_passes 78 = .ok (.iadd, 1) := by decide +kernel
theorem dX11_passes_79 : decode cX11_passes 79 = .ok (.putfield 108, 3) := by decide +kernel
theorem dX11_passes_82 : decode cX11_passes 82 = .ok (.aload_n 0, 1) := by decide +kernel
theorem dX11_passes_83 : decode cX11_passes 83 = .ok (.getfield 58, 3) := by decide +kernel
theorem dX11_passes_86 : decode cX11_passes 86 = .ok (.istore_n 1, 1) := by decide +kernel
theorem dX11_passes_87 : decode cX11_passes 87 = .ok (.aload_n 0, 1) := by decide +kernel
theorem dX11_passes_88 : decode cX11_passes 88 = .ok (.dup, 1) := by decide +kernel
theorem dX11_passes_89 : decode cX11_passes 89 = .ok (.getfield 58, 3) := by decide +kernel
theorem dX11_passes_92 : decode cX11_passes 92 = .ok (.sipush 4096, 3) := by decide +kernel
theorem dX11_passes_95 : decode cX11_passes 95 = .ok (.aload_n 0, 1) := by decide +kernel
theorem dX11_passes_96 : decode cX11_passes 96 = .ok (.getfield 64, 3) := by decide +kernel
theorem dX11_passes_99 : decode cX11_passes 99 = .ok (.iadd, 1) := by decide +kernel
theorem dX11_passes_100 : decode cX11_passes 100 = .ok (.iadd, 1) := by decide +kernel
theorem dX11_passes_101 : decode cX11_passes 101 = .ok (.putfield 58, 3) := by decide +kernel
theorem dX11_passes_104 : decode cX11_passes 104 = .ok (.aload_n 0, 1) := by decide +kernel
theorem dX11_passes_105 : decode cX11_passes 105 = .ok (.iload_n 1, 1) := by decide +kernel
theorem dX11_passes_106 : decode cX11_passes 106 = .ok (.invokevirtual 177, 3) := by decide +kernel
theorem dX11_passes_109 : decode cX11_passes 109 = .ok (.return_, 1) := by decide +kernel
set_option maxRecDepth 20000 in
theorem ggX11_run_X11_in : GoodIn wsX11_run wsX11_in := goodIn_r _ [5] (by decide +kernel) (by decide +kernel)
set_option maxRecDepth 20000 in
theorem gX11_run_X11_in : GoodIn wsX11_run (va_wsS RX11 44 yX11_in wsX11_in) := goodIn_app (goodIn_of _ (by decide +kernel)) ggX11_run_X11_in
set_option maxRecDepth 20000 in
theorem ggX11_run_X11_holds : GoodIn wsX11_run wsX11_holds := goodIn_r _ [9, 10, 98, 99, 100, 101, 102, 103, 104, 105, 106, 107, 108, 109, 110, 111, 112, 113, 114, 115, 116, 117, 118, 119, 120, 121, 122, 123, 124, 125, 126, 127, 128, 129, 130, 131, 132, 133, 134] (by decide +kernel) (by decide +kernel)
set_option maxRecDepth 20000 in
theorem gX11_run_X11_holds : GoodIn wsX11_run (wsV RX11 48 RX11 yX11_holds wsX11_holds) := goodIn_app (goodIn_of _ (by decide +kernel)) ggX11_run_X11_holds
set_option maxRecDepth 20000 in
theorem ggX11_run_X11_passes : GoodIn wsX11_run wsX11_passes := goodIn_r _ [14, 15, 16, 17, 18, 19, 20, 21, 22, 23, 24, 25, 26, 4, 27, 28, 29, 30, 31, 32, 33, 34, 35, 36, 37, 38, 39, 40, 41, 42, 43, 44, 2, 3, 5, 45, 46, 47, 48, 49, 50, 51, 52, 53, 54, 55, 56, 57, 58, 59, 60, 61, 62, 63, 64, 65, 66, 67, 68, 69, 70, 71, 72, 73, 74, 75, 76, 77, 1, 78, 79, 80, 81, 82, 83, 84, 85, 86, 87, 88, 89, 90, 91, 92, 93, 94, 95, 96, 97, 98, 99, 100, 101, 102, 103, 104, 105, 106, 107, 108, 109, 110, 111, 112, 113, 114, 115, 116, 117, 118, 119, 120, 121, 122, 123, 124, 125, 126, 127, 128, 129, 130, 131, 132, 133, 134] (by decide +kernel) (by decide +kernel)
set_option maxRecDepth 20000 in
theorem gX11_run_X11_passes : GoodIn wsX11_run (wsV RX11 180 RX11 yX11_passes wsX11_passes) := goodIn_app (goodIn_of _ (by decide +kernel)) ggX11_run_X11_passes
theorem dX11_run_0 : decode cX11_run 0 = .ok (.aload_n 0, 1) := by decide +kernel
theorem dX11_run_1 : decode cX11_run 1 = .ok (.iload_n 1, 1) := by decide +kernel
theorem dX11_run_2 : decode cX11_run 2 = .ok (.iconst 1, 1) := by decide +kernel
theorem dX11_run_3 : decode cX11_run 3 = .ok (.sipush 800, 3) := by decide +kernel
theorem dX11_run_6 : decode cX11_run 6 = .ok (.invokestatic 44, 3) := by decide +kernel
theorem dX11_run_9 : decode cX11_run 9 = .ok (.ifCond .eq 7, 3) := by decide +kernel
theorem dX11_run_12 : decode cX11_run 12 = .ok (.iconst 0, 1) := by decide +kernel
theorem dX11_run_13 : decode cX11_run 13 = .ok (.goto 4, 3) := by decide +kernel
theorem dX11_run_16 : decode cX11_run 16 = .ok (.iconst 1, 1) := by decide +kernel
theorem dX11_run_17 : decode cX11_run 17 = .ok (.invokevirtual 48, 3) := by decide +kernel
theorem dX11_run_20 : decode cX11_run 20 = .ok (.ifCond .ne 5, 3) := by decide +kernel
theorem dX11_run_23 : decode cX11_run 23 = .ok (.iconst 0, 1) := by decide +kernel
theorem dX11_run_24 : decode cX11_run 24 = .ok (.ireturn, 1) := by decide +kernel
theorem dX11_run_25 : decode cX11_run 25 = .ok (.aload_n 0, 1) := by decide +kernel
theorem dX11_run_26 : decode cX11_run 26 = .ok (.getfield 99, 3) := by decide +kernel
theorem dX11_run_29 : decode cX11_run 29 = .ok (.istore_n 2, 1) := by decide +kernel
theorem dX11_run_30 : decode cX11_run 30 = .ok (.iconst 0, 1) := by decide +kernel
theorem dX11_run_31 : decode cX11_run 31 = .ok (.istore_n 3, 1) := by decide +kernel
theorem dX11_run_32 : decode cX11_run 32 = .ok (.iload_n 3, 1) := by decide +kernel
theorem dX11_run_33 : decode cX11_run 33 = .ok (.iload_n 1, 1) := by decide +kernel
theorem dX11_run_34 : decode cX11_run 34 = .ok (.if_icmp .ge 13, 3) := by decide +kernel
theorem dX11_run_37 : decode cX11_run 37 = .ok (.aload_n 0, 1) := by decide +kernel
theorem dX11_run_38 : decode cX11_run 38 = .ok (.invokevirtual 180, 3) := by decide +kernel
theorem dX11_run_41 : decode cX11_run 41 = .ok (.iinc 3 1, 3) := by decide +kernel
theorem dX11_run_44 : decode cX11_run 44 = .ok (.goto (-12), 3) := by decide +kernel
theorem dX11_run_47 : decode cX11_run 47 = .ok (.aload_n 0, 1) := by decide +kernel
theorem dX11_run_48 : decode cX11_run 48 = .ok (.getfield 99, 3) := by decide +kernel
theorem dX11_run_51 : decode cX11_run 51 = .ok (.iload_n 2, 1) := by decide +kernel
theorem dX11_run_52 : decode cX11_run 52 = .ok (.isub, 1) := by decide +kernel
theorem dX11_run_53 : decode cX11_run 53 = .ok (.ireturn, 1) := by decide +kernel
theorem dX11_ticks_0 : decode cX11_ticks 0 = .ok (.aload_n 0, 1) := by decide +kernel
theorem dX11_ticks_1 : decode cX11_ticks 1 = .ok (.iconst 0, 1) := by decide +kernel
theorem dX11_ticks_2 : decode cX11_ticks 2 = .ok (.putfield 41, 3) := by decide +kernel
theorem dX11_ticks_5 : decode cX11_ticks 5 = .ok (.aload_n 0, 1) := by decide +kernel
theorem dX11_ticks_6 : decode cX11_ticks 6 = .ok (.getfield 93, 3) := by decide +kernel
theorem dX11_ticks_9 : decode cX11_ticks 9 = .ok (.ireturn, 1) := by decide +kernel
theorem dX11_sent_0 : decode cX11_sent 0 = .ok (.aload_n 0, 1) := by decide +kernel
theorem dX11_sent_1 : decode cX11_sent 1 = .ok (.iconst 0, 1) := by decide +kernel
theorem dX11_sent_2 : decode cX11_sent 2 = .ok (.putfield 41, 3) := by decide +kernel
theorem dX11_sent_5 : decode cX11_sent 5 = .ok (.aload_n 0, 1) := by decide +kernel
theorem dX11_sent_6 : decode cX11_sent 6 = .ok (.getfield 75, 3) := by decide +kernel
theorem dX11_sent_9 : decode cX11_sent 9 = .ok (.ireturn, 1) := by decide +kernel
theorem dX11_line_0 : decode cX11_line 0 = .ok (.aload_n 0, 1) := by decide +kernel
theorem dX11_line_1 : decode cX11_line 1 = .ok (.iconst 0, 1) := by decide +kernel
theorem dX11_line_2 : decode cX11_line 2 = .ok (.putfield 41, 3) := by decide +kernel
theorem dX11_line_5 : decode cX11_line 5 = .ok (.aload_n 0, 1) := by decide +kernel
theorem dX11_line_6 : decode cX11_line 6 = .ok (.getfield 20, 3) := by decide +kernel
theorem dX11_line_9 : decode cX11_line 9 = .ok (.ireturn, 1) := by decide +kernel
set_option maxRecDepth 20000 in
theorem ggX11_level_X11_levelNow : GoodIn wsX11_level wsX11_levelNow := goodIn_r _ [6, 7, 8, 9, 10, 11, 12, 13, 14, 15, 16, 17, 18, 19, 20, 21, 22, 23, 24, 25, 26, 27, 28, 29, 30, 31, 32, 33, 34, 35, 36, 37, 38, 39, 40, 41, 42, 43, 44] (by decide +kernel) (by decide +kernel)
set_option maxRecDepth 20000 in
theorem gX11_level_X11_levelNow : GoodIn wsX11_level (wsV RX11 114 RX11 yX11_levelNow wsX11_levelNow) := goodIn_app (goodIn_of _ (by decide +kernel)) ggX11_level_X11_levelNow
theorem dX11_level_0 : decode cX11_level 0 = .ok (.aload_n 0, 1) := by decide +kernel
theorem dX11_level_1 : decode cX11_level 1 = .ok (.iconst 0, 1) := by decide +kernel
theorem dX11_level_2 : decode cX11_level 2 = .ok (.putfield 41, 3) := by decide +kernel
theorem dX11_level_5 : decode cX11_level 5 = .ok (.aload_n 0, 1) := by decide +kernel
theorem dX11_level_6 : decode cX11_level 6 = .ok (.invokevirtual 114, 3) := by decide +kernel
theorem dX11_level_9 : decode cX11_level 9 = .ok (.ireturn, 1) := by decide +kernel
theorem dX11_sender_0 : decode cX11_sender 0 = .ok (.aload_n 0, 1) := by decide +kernel
theorem dX11_sender_1 : decode cX11_sender 1 = .ok (.iconst 0, 1) := by decide +kernel
theorem dX11_sender_2 : decode cX11_sender 2 = .ok (.putfield 41, 3) := by decide +kernel
theorem dX11_sender_5 : decode cX11_sender 5 = .ok (.aload_n 0, 1) := by decide +kernel
theorem dX11_sender_6 : decode cX11_sender 6 = .ok (.getfield 86, 3) := by decide +kernel
theorem dX11_sender_9 : decode cX11_sender 9 = .ok (.ireturn, 1) := by decide +kernel
theorem dX11_receiver_0 : decode cX11_receiver 0 = .ok (.aload_n 0, 1) := by decide +kernel
theorem dX11_receiver_1 : decode cX11_receiver 1 = .ok (.iconst 0, 1) := by decide +kernel
theorem dX11_receiver_2 : decode cX11_receiver 2 = .ok (.putfield 41, 3) := by decide +kernel
theorem dX11_receiver_5 : decode cX11_receiver 5 = .ok (.aload_n 0, 1) := by decide +kernel
theorem dX11_receiver_6 : decode cX11_receiver 6 = .ok (.getfield 58, 3) := by decide +kernel
theorem dX11_receiver_9 : decode cX11_receiver 9 = .ok (.ireturn, 1) := by decide +kernel
theorem dX11_error_0 : decode cX11_error 0 = .ok (.aload_n 0, 1) := by decide +kernel
theorem dX11_error_1 : decode cX11_error 1 = .ok (.iconst 0, 1) := by decide +kernel
theorem dX11_error_2 : decode cX11_error 2 = .ok (.putfield 41, 3) := by decide +kernel
theorem dX11_error_5 : decode cX11_error 5 = .ok (.aload_n 0, 1) := by decide +kernel
theorem dX11_error_6 : decode cX11_error 6 = .ok (.getfield 67, 3) := by decide +kernel
theorem dX11_error_9 : decode cX11_error 9 = .ok (.ireturn, 1) := by decide +kernel
theorem dX11_integral_0 : decode cX11_integral 0 = .ok (.aload_n 0, 1) := by decide +kernel
theorem dX11_integral_1 : decode cX11_integral 1 = .ok (.iconst 0, 1) := by decide +kernel
theorem dX11_integral_2 : decode cX11_integral 2 = .ok (.putfield 41, 3) := by decide +kernel
theorem dX11_integral_5 : decode cX11_integral 5 = .ok (.aload_n 0, 1) := by decide +kernel
theorem dX11_integral_6 : decode cX11_integral 6 = .ok (.getfield 61, 3) := by decide +kernel
theorem dX11_integral_9 : decode cX11_integral 9 = .ok (.ireturn, 1) := by decide +kernel
theorem dX11_control_0 : decode cX11_control 0 = .ok (.aload_n 0, 1) := by decide +kernel
theorem dX11_control_1 : decode cX11_control 1 = .ok (.iconst 0, 1) := by decide +kernel
theorem dX11_control_2 : decode cX11_control 2 = .ok (.putfield 41, 3) := by decide +kernel
theorem dX11_control_5 : decode cX11_control 5 = .ok (.aload_n 0, 1) := by decide +kernel
theorem dX11_control_6 : decode cX11_control 6 = .ok (.getfield 64, 3) := by decide +kernel
theorem dX11_control_9 : decode cX11_control 9 = .ok (.ireturn, 1) := by decide +kernel
theorem dX11_received_0 : decode cX11_received 0 = .ok (.aload_n 0, 1) := by decide +kernel
theorem dX11_received_1 : decode cX11_received 1 = .ok (.iconst 0, 1) := by decide +kernel
theorem dX11_received_2 : decode cX11_received 2 = .ok (.putfield 41, 3) := by decide +kernel
theorem dX11_received_5 : decode cX11_received 5 = .ok (.aload_n 0, 1) := by decide +kernel
theorem dX11_received_6 : decode cX11_received 6 = .ok (.getfield 99, 3) := by decide +kernel
theorem dX11_received_9 : decode cX11_received 9 = .ok (.ireturn, 1) := by decide +kernel
theorem dX11_recent_0 : decode cX11_recent 0 = .ok (.aload_n 0, 1) := by decide +kernel
theorem dX11_recent_1 : decode cX11_recent 1 = .ok (.getfield 99, 3) := by decide +kernel
theorem dX11_recent_4 : decode cX11_recent 4 = .ok (.bipush 32, 2) := by decide +kernel
theorem dX11_recent_6 : decode cX11_recent 6 = .ok (.if_icmp .ge 10, 3) := by decide +kernel
theorem dX11_recent_9 : decode cX11_recent 9 = .ok (.aload_n 0, 1) := by decide +kernel
theorem dX11_recent_10 : decode cX11_recent 10 = .ok (.getfield 99, 3) := by decide +kernel
theorem dX11_recent_13 : decode cX11_recent 13 = .ok (.goto 5, 3) := by decide +kernel
theorem dX11_recent_16 : decode cX11_recent 16 = .ok (.bipush 32, 2) := by decide +kernel
theorem dX11_recent_18 : decode cX11_recent 18 = .ok (.ireturn, 1) := by decide +kernel
set_option maxRecDepth 20000 in
theorem ggX11_bit_X11_recent : GoodIn wsX11_bit wsX11_recent := goodIn_r _ [6, 7, 16, 17, 18, 19, 20, 21, 22, 23, 24, 25, 26, 27, 28, 29, 30, 31, 32, 33, 34, 35, 36, 37, 38, 39, 40, 41, 42, 43, 44, 45, 46, 47, 48, 49, 50, 51, 52] (by decide +kernel) (by decide +kernel)
set_option maxRecDepth 20000 in
theorem gX11_bit_X11_recent : GoodIn wsX11_bit (wsV RX11 183 RX11 yX11_recent wsX11_recent) := goodIn_app (goodIn_of _ (by decide +kernel)) ggX11_bit_X11_recent
set_option maxRecDepth 20000 in
theorem ggX11_bit_X11_in : GoodIn wsX11_bit wsX11_in := goodIn_r _ [10] (by decide +kernel) (by decide +kernel)
set_option maxRecDepth 20000 in
theorem gX11_bit_X11_in : GoodIn wsX11_bit (va_wsS RX11 44 yX11_in wsX11_in) := goodIn_app (goodIn_of _ (by decide +kernel)) ggX11_bit_X11_in
set_option maxRecDepth 20000 in
theorem ggX11_bit_X11_holds : GoodIn wsX11_bit wsX11_holds := goodIn_r _ [14, 15, 16, 17, 18, 19, 20, 21, 22, 23, 24, 25, 26, 27, 28, 29, 30, 31, 32, 33, 34, 35, 36, 37, 38, 39, 40, 41, 42, 43, 44, 45, 46, 47, 48, 49, 50, 51, 52] (by decide +kernel) (by decide +kernel)
set_option maxRecDepth 20000 in
theorem gX11_bit_X11_holds : GoodIn wsX11_bit (wsV RX11 48 RX11 yX11_holds wsX11_holds) := goodIn_app (goodIn_of _ (by decide +kernel)) ggX11_bit_X11_holds
theorem dX11_bit_0 : decode cX11_bit 0 = .ok (.aload_n 0, 1) := by decide +kernel
theorem dX11_bit_1 : decode cX11_bit 1 = .ok (.iload_n 1, 1) := by decide +kernel
theorem dX11_bit_2 : decode cX11_bit 2 = .ok (.iconst 1, 1) := by decide +kernel
theorem dX11_bit_3 : decode cX11_bit 3 = .ok (.aload_n 0, 1) := by decide +kernel
theorem dX11_bit_4 : decode cX11_bit 4 = .ok (.invokevirtual 183, 3) := by decide +kernel
theorem dX11_bit_7 : decode cX11_bit 7 = .ok (.invokestatic 44, 3) := by decide +kernel
theorem dX11_bit_10 : decode cX11_bit 10 = .ok (.ifCond .eq 7, 3) := by decide +kernel
theorem dX11_bit_13 : decode cX11_bit 13 = .ok (.iconst 0, 1) := by decide +kernel
theorem dX11_bit_14 : decode cX11_bit 14 = .ok (.goto 4, 3) := by decide +kernel
theorem dX11_bit_17 : decode cX11_bit 17 = .ok (.iconst 1, 1) := by decide +kernel
theorem dX11_bit_18 : decode cX11_bit 18 = .ok (.invokevirtual 48, 3) := by decide +kernel
theorem dX11_bit_21 : decode cX11_bit 21 = .ok (.ifCond .eq 16, 3) := by decide +kernel
theorem dX11_bit_24 : decode cX11_bit 24 = .ok (.aload_n 0, 1) := by decide +kernel
theorem dX11_bit_25 : decode cX11_bit 25 = .ok (.getfield 96, 3) := by decide +kernel
theorem dX11_bit_28 : decode cX11_bit 28 = .ok (.iload_n 1, 1) := by decide +kernel
theorem dX11_bit_29 : decode cX11_bit 29 = .ok (.iconst 1, 1) := by decide +kernel
theorem dX11_bit_30 : decode cX11_bit 30 = .ok (.isub, 1) := by decide +kernel
theorem dX11_bit_31 : decode cX11_bit 31 = .ok (.ishr, 1) := by decide +kernel
theorem dX11_bit_32 : decode cX11_bit 32 = .ok (.iconst 1, 1) := by decide +kernel
theorem dX11_bit_33 : decode cX11_bit 33 = .ok (.iand, 1) := by decide +kernel
theorem dX11_bit_34 : decode cX11_bit 34 = .ok (.goto 4, 3) := by decide +kernel
theorem dX11_bit_37 : decode cX11_bit 37 = .ok (.iconst 0, 1) := by decide +kernel
theorem dX11_bit_38 : decode cX11_bit 38 = .ok (.ireturn, 1) := by decide +kernel
set_option maxRecDepth 20000 in
theorem ggX11_phase_X11_holds : GoodIn wsX11_phase wsX11_holds := goodIn_r _ [7, 8, 9, 10, 11, 12, 13, 14, 15, 16, 17, 18, 19, 20, 21, 22, 23, 24, 25, 26, 27, 28, 29, 30, 31, 32, 33, 34, 35, 36, 37, 38, 39, 40, 41, 42, 43, 44, 45] (by decide +kernel) (by decide +kernel)
set_option maxRecDepth 20000 in
theorem gX11_phase_X11_holds : GoodIn wsX11_phase (wsV RX11 48 RX11 yX11_holds wsX11_holds) := goodIn_app (goodIn_of _ (by decide +kernel)) ggX11_phase_X11_holds
theorem dX11_phase_0 : decode cX11_phase 0 = .ok (.aload_n 0, 1) := by decide +kernel
theorem dX11_phase_1 : decode cX11_phase 1 = .ok (.aload_n 0, 1) := by decide +kernel
theorem dX11_phase_2 : decode cX11_phase 2 = .ok (.getfield 99, 3) := by decide +kernel
theorem dX11_phase_5 : decode cX11_phase 5 = .ok (.ifCond .ne 7, 3) := by decide +kernel
theorem dX11_phase_8 : decode cX11_phase 8 = .ok (.iconst 1, 1) := by decide +kernel
theorem dX11_phase_9 : decode cX11_phase 9 = .ok (.goto 4, 3) := by decide +kernel
theorem dX11_phase_12 : decode cX11_phase 12 = .ok (.iconst 0, 1) := by decide +kernel
theorem dX11_phase_13 : decode cX11_phase 13 = .ok (.invokevirtual 48, 3) := by decide +kernel
theorem dX11_phase_16 : decode cX11_phase 16 = .ok (.ifCond .eq 20, 3) := by decide +kernel
theorem dX11_phase_19 : decode cX11_phase 19 = .ok (.aload_n 0, 1) := by decide +kernel
theorem dX11_phase_20 : decode cX11_phase 20 = .ok (.getfield 37, 3) := by decide +kernel
theorem dX11_phase_23 : decode cX11_phase 23 = .ok (.aload_n 0, 1) := by decide +kernel
theorem dX11_phase_24 : decode cX11_phase 24 = .ok (.getfield 99, 3) := by decide +kernel
theorem dX11_phase_27 : decode cX11_phase 27 = .ok (.iconst 1, 1) := by decide +kernel
theorem dX11_phase_28 : decode cX11_phase 28 = .ok (.isub, 1) := by decide +kernel
theorem dX11_phase_29 : decode cX11_phase 29 = .ok (.bipush 32, 2) := by decide +kernel
theorem dX11_phase_31 : decode cX11_phase 31 = .ok (.irem, 1) := by decide +kernel
theorem dX11_phase_32 : decode cX11_phase 32 = .ok (.iaload, 1) := by decide +kernel
theorem dX11_phase_33 : decode cX11_phase 33 = .ok (.goto 4, 3) := by decide +kernel
theorem dX11_phase_36 : decode cX11_phase 36 = .ok (.iconst 0, 1) := by decide +kernel
theorem dX11_phase_37 : decode cX11_phase 37 = .ok (.ireturn, 1) := by decide +kernel
theorem dX11_repeated_0 : decode cX11_repeated 0 = .ok (.aload_n 0, 1) := by decide +kernel
theorem dX11_repeated_1 : decode cX11_repeated 1 = .ok (.iconst 0, 1) := by decide +kernel
theorem dX11_repeated_2 : decode cX11_repeated 2 = .ok (.putfield 41, 3) := by decide +kernel
theorem dX11_repeated_5 : decode cX11_repeated 5 = .ok (.aload_n 0, 1) := by decide +kernel
theorem dX11_repeated_6 : decode cX11_repeated 6 = .ok (.getfield 124, 3) := by decide +kernel
theorem dX11_repeated_9 : decode cX11_repeated 9 = .ok (.ireturn, 1) := by decide +kernel
theorem dX11_skipped_0 : decode cX11_skipped 0 = .ok (.aload_n 0, 1) := by decide +kernel
theorem dX11_skipped_1 : decode cX11_skipped 1 = .ok (.iconst 0, 1) := by decide +kernel
theorem dX11_skipped_2 : decode cX11_skipped 2 = .ok (.putfield 41, 3) := by decide +kernel
theorem dX11_skipped_5 : decode cX11_skipped 5 = .ok (.aload_n 0, 1) := by decide +kernel
theorem dX11_skipped_6 : decode cX11_skipped 6 = .ok (.getfield 127, 3) := by decide +kernel
theorem dX11_skipped_9 : decode cX11_skipped 9 = .ok (.ireturn, 1) := by decide +kernel
set_option maxRecDepth 20000 in
theorem ggX11_isLocked_X11_in : GoodIn wsX11_isLocked wsX11_in := goodIn_r _ [8] (by decide +kernel) (by decide +kernel)
set_option maxRecDepth 20000 in
theorem gX11_isLocked_X11_in : GoodIn wsX11_isLocked (va_wsS RX11 44 yX11_in wsX11_in) := goodIn_app (goodIn_of _ (by decide +kernel)) ggX11_isLocked_X11_in
theorem dX11_isLocked_0 : decode cX11_isLocked 0 = .ok (.aload_n 0, 1) := by decide +kernel
theorem dX11_isLocked_1 : decode cX11_isLocked 1 = .ok (.iconst 0, 1) := by decide +kernel
theorem dX11_isLocked_2 : decode cX11_isLocked 2 = .ok (.putfield 41, 3) := by decide +kernel
theorem dX11_isLocked_5 : decode cX11_isLocked 5 = .ok (.aload_n 0, 1) := by decide +kernel
theorem dX11_isLocked_6 : decode cX11_isLocked 6 = .ok (.getfield 99, 3) := by decide +kernel
theorem dX11_isLocked_9 : decode cX11_isLocked 9 = .ok (.bipush 32, 2) := by decide +kernel
theorem dX11_isLocked_11 : decode cX11_isLocked 11 = .ok (.if_icmp .lt 14, 3) := by decide +kernel
theorem dX11_isLocked_14 : decode cX11_isLocked 14 = .ok (.aload_n 0, 1) := by decide +kernel
theorem dX11_isLocked_15 : decode cX11_isLocked 15 = .ok (.getfield 130, 3) := by decide +kernel
theorem dX11_isLocked_18 : decode cX11_isLocked 18 = .ok (.ifCond .ne 7, 3) := by decide +kernel
theorem dX11_isLocked_21 : decode cX11_isLocked 21 = .ok (.iconst 1, 1) := by decide +kernel
theorem dX11_isLocked_22 : decode cX11_isLocked 22 = .ok (.goto 4, 3) := by decide +kernel
theorem dX11_isLocked_25 : decode cX11_isLocked 25 = .ok (.iconst 0, 1) := by decide +kernel
theorem dX11_isLocked_26 : decode cX11_isLocked 26 = .ok (.istore_n 1, 1) := by decide +kernel
theorem dX11_isLocked_27 : decode cX11_isLocked 27 = .ok (.iconst 0, 1) := by decide +kernel
theorem dX11_isLocked_28 : decode cX11_isLocked 28 = .ok (.istore_n 2, 1) := by decide +kernel
theorem dX11_isLocked_29 : decode cX11_isLocked 29 = .ok (.iload_n 2, 1) := by decide +kernel
theorem dX11_isLocked_30 : decode cX11_isLocked 30 = .ok (.bipush 32, 2) := by decide +kernel
theorem dX11_isLocked_32 : decode cX11_isLocked 32 = .ok (.if_icmp .ge 37, 3) := by decide +kernel
theorem dX11_isLocked_35 : decode cX11_isLocked 35 = .ok (.iload_n 1, 1) := by decide +kernel
theorem dX11_isLocked_36 : decode cX11_isLocked 36 = .ok (.ifCond .eq 25, 3) := by decide +kernel
theorem dX11_isLocked_39 : decode cX11_isLocked 39 = .ok (.aload_n 0, 1) := by decide +kernel
theorem dX11_isLocked_40 : decode cX11_isLocked 40 = .ok (.getfield 37, 3) := by decide +kernel
theorem dX11_isLocked_43 : decode cX11_isLocked 43 = .ok (.iload_n 2, 1) := by decide +kernel
theorem dX11_isLocked_44 : decode cX11_isLocked 44 = .ok (.iaload, 1) := by decide +kernel
theorem dX11_isLocked_45 : decode cX11_isLocked 45 = .ok (.sipush (-16384), 3) := by decide +kernel
theorem dX11_isLocked_48 : decode cX11_isLocked 48 = .ok (.sipush 16383, 3) := by decide +kernel
theorem dX11_isLocked_51 : decode cX11_isLocked 51 = .ok (.invokestatic 44, 3) := by decide +kernel
theorem dX11_isLocked_54 : decode cX11_isLocked 54 = .ok (.ifCond .eq 7, 3) := by decide +kernel
theorem dX11_isLocked_57 : decode cX11_isLocked 57 = .ok (.iconst 1, 1) := by decide +kernel
theorem dX11_isLocked_58 : decode cX11_isLocked 58 = .ok (.goto 4, 3) := by decide +kernel
theorem dX11_isLocked_61 : decode cX11_isLocked 61 = .ok (.iconst 0, 1) := by decide +kernel
theorem dX11_isLocked_62 : decode cX11_isLocked 62 = .ok (.istore_n 1, 1) := by decide +kernel
theorem dX11_isLocked_63 : decode cX11_isLocked 63 = .ok (.iinc 2 1, 3) := by decide +kernel
theorem dX11_isLocked_66 : decode cX11_isLocked 66 = .ok (.goto (-37), 3) := by decide +kernel
theorem dX11_isLocked_69 : decode cX11_isLocked 69 = .ok (.iload_n 1, 1) := by decide +kernel
theorem dX11_isLocked_70 : decode cX11_isLocked 70 = .ok (.ireturn, 1) := by decide +kernel
set_option maxRecDepth 20000 in
theorem ggX11_wander_X11_recent : GoodIn wsX11_wander wsX11_recent := goodIn_r _ [7, 8, 12, 13, 14, 15, 16, 17, 18, 19, 20, 21, 22, 23, 24, 25, 26, 27, 28, 29, 30, 31, 32, 33, 34, 35, 36, 37, 38, 39, 40, 41, 42, 43, 44, 45, 46, 47, 48] (by decide +kernel) (by decide +kernel)
set_option maxRecDepth 20000 in
theorem gX11_wander_X11_recent : GoodIn wsX11_wander (wsV RX11 183 RX11 yX11_recent wsX11_recent) := goodIn_app (goodIn_of _ (by decide +kernel)) ggX11_wander_X11_recent
set_option maxRecDepth 20000 in
theorem ggX11_wander_X11_size : GoodIn wsX11_wander wsX11_size := goodIn_r _ [11] (by decide +kernel) (by decide +kernel)
set_option maxRecDepth 20000 in
theorem gX11_wander_X11_size : GoodIn wsX11_wander (va_wsS RX11 165 yX11_size wsX11_size) := goodIn_app (goodIn_of _ (by decide +kernel)) ggX11_wander_X11_size
theorem dX11_wander_0 : decode cX11_wander 0 = .ok (.aload_n 0, 1) := by decide +kernel
theorem dX11_wander_1 : decode cX11_wander 1 = .ok (.iconst 0, 1) := by decide +kernel
theorem dX11_wander_2 : decode cX11_wander 2 = .ok (.putfield 41, 3) := by decide +kernel
theorem dX11_wander_5 : decode cX11_wander 5 = .ok (.iconst 0, 1) := by decide +kernel
theorem dX11_wander_6 : decode cX11_wander 6 = .ok (.istore_n 1, 1) := by decide +kernel
theorem dX11_wander_7 : decode cX11_wander 7 = .ok (.iconst 0, 1) := by decide +kernel
theorem dX11_wander_8 : decode cX11_wander 8 = .ok (.istore_n 2, 1) := by decide +kernel
theorem dX11_wander_9 : decode cX11_wander 9 = .ok (.iload_n 2, 1) := by decide +kernel
theorem dX11_wander_10 : decode cX11_wander 10 = .ok (.aload_n 0, 1) := by decide +kernel
theorem dX11_wander_11 : decode cX11_wander 11 = .ok (.invokevirtual 183, 3) := by decide +kernel
theorem dX11_wander_14 : decode cX11_wander 14 = .ok (.if_icmp .ge 21, 3) := by decide +kernel
theorem dX11_wander_17 : decode cX11_wander 17 = .ok (.iload_n 1, 1) := by decide +kernel
theorem dX11_wander_18 : decode cX11_wander 18 = .ok (.aload_n 0, 1) := by decide +kernel
theorem dX11_wander_19 : decode cX11_wander 19 = .ok (.getfield 37, 3) := by decide +kernel
theorem dX11_wander_22 : decode cX11_wander 22 = .ok (.iload_n 2, 1) := by decide +kernel
theorem dX11_wander_23 : decode cX11_wander 23 = .ok (.iaload, 1) := by decide +kernel
theorem dX11_wander_24 : decode cX11_wander 24 = .ok (.invokestatic 165, 3) := by decide +kernel
theorem dX11_wander_27 : decode cX11_wander 27 = .ok (.iadd, 1) := by decide +kernel
theorem dX11_wander_28 : decode cX11_wander 28 = .ok (.istore_n 1, 1) := by decide +kernel
theorem dX11_wander_29 : decode cX11_wander 29 = .ok (.iinc 2 1, 3) := by decide +kernel
theorem dX11_wander_32 : decode cX11_wander 32 = .ok (.goto (-23), 3) := by decide +kernel
theorem dX11_wander_35 : decode cX11_wander 35 = .ok (.iload_n 1, 1) := by decide +kernel
theorem dX11_wander_36 : decode cX11_wander 36 = .ok (.ireturn, 1) := by decide +kernel
theorem dX11_alignment_0 : decode cX11_alignment 0 = .ok (.aload_n 0, 1) := by decide +kernel
theorem dX11_alignment_1 : decode cX11_alignment 1 = .ok (.iconst 0, 1) := by decide +kernel
theorem dX11_alignment_2 : decode cX11_alignment 2 = .ok (.putfield 41, 3) := by decide +kernel
theorem dX11_alignment_5 : decode cX11_alignment 5 = .ok (.aload_n 0, 1) := by decide +kernel
theorem dX11_alignment_6 : decode cX11_alignment 6 = .ok (.getfield 147, 3) := by decide +kernel
theorem dX11_alignment_9 : decode cX11_alignment 9 = .ok (.ireturn, 1) := by decide +kernel
theorem dX11_frames_0 : decode cX11_frames 0 = .ok (.aload_n 0, 1) := by decide +kernel
theorem dX11_frames_1 : decode cX11_frames 1 = .ok (.iconst 0, 1) := by decide +kernel
theorem dX11_frames_2 : decode cX11_frames 2 = .ok (.putfield 41, 3) := by decide +kernel
theorem dX11_frames_5 : decode cX11_frames 5 = .ok (.aload_n 0, 1) := by decide +kernel
theorem dX11_frames_6 : decode cX11_frames 6 = .ok (.getfield 156, 3) := by decide +kernel
theorem dX11_frames_9 : decode cX11_frames 9 = .ok (.ireturn, 1) := by decide +kernel
theorem dX11_losses_0 : decode cX11_losses 0 = .ok (.aload_n 0, 1) := by decide +kernel
theorem dX11_losses_1 : decode cX11_losses 1 = .ok (.iconst 0, 1) := by decide +kernel
theorem dX11_losses_2 : decode cX11_losses 2 = .ok (.putfield 41, 3) := by decide +kernel
theorem dX11_losses_5 : decode cX11_losses 5 = .ok (.aload_n 0, 1) := by decide +kernel
theorem dX11_losses_6 : decode cX11_losses 6 = .ok (.getfield 159, 3) := by decide +kernel
theorem dX11_losses_9 : decode cX11_losses 9 = .ok (.ireturn, 1) := by decide +kernel
theorem dX11_costOf_0 : decode cX11_costOf 0 = .ok (.iconst 0, 1) := by decide +kernel
theorem dX11_costOf_1 : decode cX11_costOf 1 = .ok (.istore_n 2, 1) := by decide +kernel
theorem dX11_costOf_2 : decode cX11_costOf 2 = .ok (.aload_n 0, 1) := by decide +kernel
theorem dX11_costOf_3 : decode cX11_costOf 3 = .ok (.getfield 93, 3) := by decide +kernel
theorem dX11_costOf_6 : decode cX11_costOf 6 = .ok (.istore_n 3, 1) := by decide +kernel
theorem dX11_costOf_7 : decode cX11_costOf 7 = .ok (.iload_n 3, 1) := by decide +kernel
theorem dX11_costOf_8 : decode cX11_costOf 8 = .ok (.ifCond .le 79, 3) := by decide +kernel
theorem dX11_costOf_11 : decode cX11_costOf 11 = .ok (.iload_n 3, 1) := by decide +kernel
theorem dX11_costOf_12 : decode cX11_costOf 12 = .ok (.aload_n 0, 1) := by decide +kernel
theorem dX11_costOf_13 : decode cX11_costOf 13 = .ok (.getfield 93, 3) := by decide +kernel
theorem dX11_costOf_16 : decode cX11_costOf 16 = .ok (.sipush 256, 3) := by decide +kernel
theorem dX11_costOf_19 : decode cX11_costOf 19 = .ok (.isub, 1) := by decide +kernel
theorem dX11_costOf_20 : decode cX11_costOf 20 = .ok (.if_icmp .le 67, 3) := by decide +kernel
theorem dX11_costOf_23 : decode cX11_costOf 23 = .ok (.iload_n 1, 1) := by decide +kernel
theorem dX11_costOf_24 : decode cX11_costOf 24 = .ok (.iload_n 3, 1) := by decide +kernel
theorem dX11_costOf_25 : decode cX11_costOf 25 = .ok (.bipush 16, 2) := by decide +kernel
theorem dX11_costOf_27 : decode cX11_costOf 27 = .ok (.irem, 1) := by decide +kernel
theorem dX11_costOf_28 : decode cX11_costOf 28 = .ok (.isub, 1) := by decide +kernel
theorem dX11_costOf_29 : decode cX11_costOf 29 = .ok (.bipush 16, 2) := by decide +kernel
theorem dX11_costOf_31 : decode cX11_costOf 31 = .ok (.iadd, 1) := by decide +kernel
theorem dX11_costOf_32 : decode cX11_costOf 32 = .ok (.bipush 16, 2) := by decide +kernel
theorem dX11_costOf_34 : decode cX11_costOf 34 = .ok (.irem, 1) := by decide +kernel
theorem dX11_costOf_35 : decode cX11_costOf 35 = .ok (.istore 4, 2) := by decide +kernel
theorem dX11_costOf_37 : decode cX11_costOf 37 = .ok (.iload 4, 2) := by decide +kernel
theorem dX11_costOf_39 : decode cX11_costOf 39 = .ok (.bipush 8, 2) := by decide +kernel
theorem dX11_costOf_41 : decode cX11_costOf 41 = .ok (.if_icmp .ge 8, 3) := by decide +kernel
end
section
theorem dX11_costOf_44 : decode cX11_costOf 44 = .ok (.iload 4, 2) := by decide +kernel
theorem dX11_costOf_46 : decode cX11_costOf 46 = .ok (.goto 8, 3) := by decide +kernel
theorem dX11_costOf_49 : decode cX11_costOf 49 = .ok (.bipush 16, 2) := by decide +kernel
theorem dX11_costOf_51 : decode cX11_costOf 51 = .ok (.iload 4, 2) := by decide +kernel
theorem dX11_costOf_53 : decode cX11_costOf 53 = .ok (.isub, 1) := by decide +kernel
theorem dX11_costOf_54 : decode cX11_costOf 54 = .ok (.istore 5, 2) := by decide +kernel
theorem dX11_costOf_56 : decode cX11_costOf 56 = .ok (.iload_n 2, 1) := by decide +kernel
theorem dX11_costOf_57 : decode cX11_costOf 57 = .ok (.aload_n 0, 1) := by decide +kernel
theorem dX11_costOf_58 : decode cX11_costOf 58 = .ok (.getfield 27, 3) := by decide +kernel
theorem dX11_costOf_61 : decode cX11_costOf 61 = .ok (.iload_n 3, 1) := by decide +kernel
theorem dX11_costOf_62 : decode cX11_costOf 62 = .ok (.sipush 256, 3) := by decide +kernel
theorem dX11_costOf_65 : decode cX11_costOf 65 = .ok (.irem, 1) := by decide +kernel
theorem dX11_costOf_66 : decode cX11_costOf 66 = .ok (.baload, 1) := by decide +kernel
theorem dX11_costOf_67 : decode cX11_costOf 67 = .ok (.ifCond .eq 11, 3) := by decide +kernel
theorem dX11_costOf_70 : decode cX11_costOf 70 = .ok (.bipush 8, 2) := by decide +kernel
theorem dX11_costOf_72 : decode cX11_costOf 72 = .ok (.iload 5, 2) := by decide +kernel
theorem dX11_costOf_74 : decode cX11_costOf 74 = .ok (.isub, 1) := by decide +kernel
theorem dX11_costOf_75 : decode cX11_costOf 75 = .ok (.goto 4, 3) := by decide +kernel
theorem dX11_costOf_78 : decode cX11_costOf 78 = .ok (.iconst 0, 1) := by decide +kernel
theorem dX11_costOf_79 : decode cX11_costOf 79 = .ok (.iadd, 1) := by decide +kernel
theorem dX11_costOf_80 : decode cX11_costOf 80 = .ok (.istore_n 2, 1) := by decide +kernel
theorem dX11_costOf_81 : decode cX11_costOf 81 = .ok (.iinc 3 (-1), 3) := by decide +kernel
theorem dX11_costOf_84 : decode cX11_costOf 84 = .ok (.goto (-77), 3) := by decide +kernel
theorem dX11_costOf_87 : decode cX11_costOf 87 = .ok (.iload_n 2, 1) := by decide +kernel
theorem dX11_costOf_88 : decode cX11_costOf 88 = .ok (.ireturn, 1) := by decide +kernel
set_option maxRecDepth 20000 in
theorem ggX11_bestPhase_X11_costOf : GoodIn wsX11_bestPhase wsX11_costOf := goodIn_r _ [6, 7, 8, 9, 10, 11, 12, 13, 14, 15, 16, 17, 18, 19, 20, 21, 22, 23, 24, 25, 26, 27, 28, 29, 30, 31, 32, 33, 34, 35, 36, 37, 38, 39, 40, 41, 42, 43, 44, 45] (by decide +kernel) (by decide +kernel)
set_option maxRecDepth 20000 in
theorem gX11_bestPhase_X11_costOf : GoodIn wsX11_bestPhase (wsV RX11 186 RX11 yX11_costOf wsX11_costOf) := goodIn_app (goodIn_of _ (by decide +kernel)) ggX11_bestPhase_X11_costOf
theorem dX11_bestPhase_0 : decode cX11_bestPhase 0 = .ok (.aload_n 0, 1) := by decide +kernel
theorem dX11_bestPhase_1 : decode cX11_bestPhase 1 = .ok (.iconst 0, 1) := by decide +kernel
theorem dX11_bestPhase_2 : decode cX11_bestPhase 2 = .ok (.putfield 41, 3) := by decide +kernel
theorem dX11_bestPhase_5 : decode cX11_bestPhase 5 = .ok (.iconst 0, 1) := by decide +kernel
theorem dX11_bestPhase_6 : decode cX11_bestPhase 6 = .ok (.istore_n 1, 1) := by decide +kernel
theorem dX11_bestPhase_7 : decode cX11_bestPhase 7 = .ok (.iconst 1, 1) := by decide +kernel
theorem dX11_bestPhase_8 : decode cX11_bestPhase 8 = .ok (.istore_n 2, 1) := by decide +kernel
theorem dX11_bestPhase_9 : decode cX11_bestPhase 9 = .ok (.iload_n 2, 1) := by decide +kernel
theorem dX11_bestPhase_10 : decode cX11_bestPhase 10 = .ok (.bipush 16, 2) := by decide +kernel
theorem dX11_bestPhase_12 : decode cX11_bestPhase 12 = .ok (.if_icmp .ge 28, 3) := by decide +kernel
theorem dX11_bestPhase_15 : decode cX11_bestPhase 15 = .ok (.aload_n 0, 1) := by decide +kernel
theorem dX11_bestPhase_16 : decode cX11_bestPhase 16 = .ok (.iload_n 2, 1) := by decide +kernel
theorem dX11_bestPhase_17 : decode cX11_bestPhase 17 = .ok (.invokevirtual 186, 3) := by decide +kernel
theorem dX11_bestPhase_20 : decode cX11_bestPhase 20 = .ok (.aload_n 0, 1) := by decide +kernel
theorem dX11_bestPhase_21 : decode cX11_bestPhase 21 = .ok (.iload_n 1, 1) := by decide +kernel
theorem dX11_bestPhase_22 : decode cX11_bestPhase 22 = .ok (.invokevirtual 186, 3) := by decide +kernel
theorem dX11_bestPhase_25 : decode cX11_bestPhase 25 = .ok (.if_icmp .ge 7, 3) := by decide +kernel
theorem dX11_bestPhase_28 : decode cX11_bestPhase 28 = .ok (.iload_n 2, 1) := by decide +kernel
theorem dX11_bestPhase_29 : decode cX11_bestPhase 29 = .ok (.goto 4, 3) := by decide +kernel
theorem dX11_bestPhase_32 : decode cX11_bestPhase 32 = .ok (.iload_n 1, 1) := by decide +kernel
theorem dX11_bestPhase_33 : decode cX11_bestPhase 33 = .ok (.istore_n 1, 1) := by decide +kernel
theorem dX11_bestPhase_34 : decode cX11_bestPhase 34 = .ok (.iinc 2 1, 3) := by decide +kernel
theorem dX11_bestPhase_37 : decode cX11_bestPhase 37 = .ok (.goto (-28), 3) := by decide +kernel
theorem dX11_bestPhase_40 : decode cX11_bestPhase 40 = .ok (.iload_n 1, 1) := by decide +kernel
theorem dX11_bestPhase_41 : decode cX11_bestPhase 41 = .ok (.ireturn, 1) := by decide +kernel
set_option maxRecDepth 20000 in
theorem ggX11_cost_X11_in : GoodIn wsX11_cost wsX11_in := goodIn_r _ [4] (by decide +kernel) (by decide +kernel)
set_option maxRecDepth 20000 in
theorem gX11_cost_X11_in : GoodIn wsX11_cost (va_wsS RX11 44 yX11_in wsX11_in) := goodIn_app (goodIn_of _ (by decide +kernel)) ggX11_cost_X11_in
set_option maxRecDepth 20000 in
theorem ggX11_cost_X11_holds : GoodIn wsX11_cost wsX11_holds := goodIn_r _ [8, 9, 16, 17, 18, 19, 20, 21, 22, 23, 24, 25, 26, 27, 28, 29, 30, 31, 32, 33, 34, 35, 36, 37, 38, 39, 40, 41, 42, 43, 44, 45, 46, 47, 48, 49, 50, 51, 52] (by decide +kernel) (by decide +kernel)
set_option maxRecDepth 20000 in
theorem gX11_cost_X11_holds : GoodIn wsX11_cost (wsV RX11 48 RX11 yX11_holds wsX11_holds) := goodIn_app (goodIn_of _ (by decide +kernel)) ggX11_cost_X11_holds
set_option maxRecDepth 20000 in
theorem ggX11_cost_X11_costOf : GoodIn wsX11_cost wsX11_costOf := goodIn_r _ [13, 14, 15, 16, 17, 18, 19, 20, 21, 22, 23, 24, 25, 26, 27, 28, 29, 30, 31, 32, 33, 34, 35, 36, 37, 38, 39, 40, 41, 42, 43, 44, 45, 46, 47, 48, 49, 50, 51, 52] (by decide +kernel) (by decide +kernel)
set_option maxRecDepth 20000 in
theorem gX11_cost_X11_costOf : GoodIn wsX11_cost (wsV RX11 186 RX11 yX11_costOf wsX11_costOf) := goodIn_app (goodIn_of _ (by decide +kernel)) ggX11_cost_X11_costOf
theorem dX11_cost_0 : decode cX11_cost 0 = .ok (.aload_n 0, 1) := by decide +kernel
theorem dX11_cost_1 : decode cX11_cost 1 = .ok (.iload_n 1, 1) := by decide +kernel
theorem dX11_cost_2 : decode cX11_cost 2 = .ok (.iconst 0, 1) := by decide +kernel
theorem dX11_cost_3 : decode cX11_cost 3 = .ok (.bipush 15, 2) := by decide +kernel
theorem dX11_cost_5 : decode cX11_cost 5 = .ok (.invokestatic 44, 3) := by decide +kernel
theorem dX11_cost_8 : decode cX11_cost 8 = .ok (.ifCond .eq 7, 3) := by decide +kernel
theorem dX11_cost_11 : decode cX11_cost 11 = .ok (.iconst 0, 1) := by decide +kernel
theorem dX11_cost_12 : decode cX11_cost 12 = .ok (.goto 4, 3) := by decide +kernel
theorem dX11_cost_15 : decode cX11_cost 15 = .ok (.iconst 1, 1) := by decide +kernel
theorem dX11_cost_16 : decode cX11_cost 16 = .ok (.invokevirtual 48, 3) := by decide +kernel
theorem dX11_cost_19 : decode cX11_cost 19 = .ok (.ifCond .eq 11, 3) := by decide +kernel
theorem dX11_cost_22 : decode cX11_cost 22 = .ok (.aload_n 0, 1) := by decide +kernel
theorem dX11_cost_23 : decode cX11_cost 23 = .ok (.iload_n 1, 1) := by decide +kernel
theorem dX11_cost_24 : decode cX11_cost 24 = .ok (.invokevirtual 186, 3) := by decide +kernel
theorem dX11_cost_27 : decode cX11_cost 27 = .ok (.goto 4, 3) := by decide +kernel
theorem dX11_cost_30 : decode cX11_cost 30 = .ok (.iconst 0, 1) := by decide +kernel
theorem dX11_cost_31 : decode cX11_cost 31 = .ok (.ireturn, 1) := by decide +kernel
theorem dJ6_bitCount_0f7a4_0 : decode cJ6_bitCount_0f7a4 0 = .ok (.iload_n 0, 1) := by decide +kernel
theorem dJ6_bitCount_0f7a4_1 : decode cJ6_bitCount_0f7a4 1 = .ok (.iload_n 0, 1) := by decide +kernel
theorem dJ6_bitCount_0f7a4_2 : decode cJ6_bitCount_0f7a4 2 = .ok (.iconst 1, 1) := by decide +kernel
theorem dJ6_bitCount_0f7a4_3 : decode cJ6_bitCount_0f7a4 3 = .ok (.iushr, 1) := by decide +kernel
theorem dJ6_bitCount_0f7a4_4 : decode cJ6_bitCount_0f7a4 4 = .ok (.ldc_w 265, 3) := by decide +kernel
theorem dJ6_bitCount_0f7a4_7 : decode cJ6_bitCount_0f7a4 7 = .ok (.iand, 1) := by decide +kernel
theorem dJ6_bitCount_0f7a4_8 : decode cJ6_bitCount_0f7a4 8 = .ok (.isub, 1) := by decide +kernel
theorem dJ6_bitCount_0f7a4_9 : decode cJ6_bitCount_0f7a4 9 = .ok (.istore_n 0, 1) := by decide +kernel
theorem dJ6_bitCount_0f7a4_10 : decode cJ6_bitCount_0f7a4 10 = .ok (.iload_n 0, 1) := by decide +kernel
theorem dJ6_bitCount_0f7a4_11 : decode cJ6_bitCount_0f7a4 11 = .ok (.ldc_w 266, 3) := by decide +kernel
theorem dJ6_bitCount_0f7a4_14 : decode cJ6_bitCount_0f7a4 14 = .ok (.iand, 1) := by decide +kernel
theorem dJ6_bitCount_0f7a4_15 : decode cJ6_bitCount_0f7a4 15 = .ok (.iload_n 0, 1) := by decide +kernel
theorem dJ6_bitCount_0f7a4_16 : decode cJ6_bitCount_0f7a4 16 = .ok (.iconst 2, 1) := by decide +kernel
theorem dJ6_bitCount_0f7a4_17 : decode cJ6_bitCount_0f7a4 17 = .ok (.iushr, 1) := by decide +kernel
theorem dJ6_bitCount_0f7a4_18 : decode cJ6_bitCount_0f7a4 18 = .ok (.ldc_w 266, 3) := by decide +kernel
theorem dJ6_bitCount_0f7a4_21 : decode cJ6_bitCount_0f7a4 21 = .ok (.iand, 1) := by decide +kernel
theorem dJ6_bitCount_0f7a4_22 : decode cJ6_bitCount_0f7a4 22 = .ok (.iadd, 1) := by decide +kernel
theorem dJ6_bitCount_0f7a4_23 : decode cJ6_bitCount_0f7a4 23 = .ok (.istore_n 0, 1) := by decide +kernel
theorem dJ6_bitCount_0f7a4_24 : decode cJ6_bitCount_0f7a4 24 = .ok (.iload_n 0, 1) := by decide +kernel
theorem dJ6_bitCount_0f7a4_25 : decode cJ6_bitCount_0f7a4 25 = .ok (.iload_n 0, 1) := by decide +kernel
theorem dJ6_bitCount_0f7a4_26 : decode cJ6_bitCount_0f7a4 26 = .ok (.iconst 4, 1) := by decide +kernel
theorem dJ6_bitCount_0f7a4_27 : decode cJ6_bitCount_0f7a4 27 = .ok (.iushr, 1) := by decide +kernel
theorem dJ6_bitCount_0f7a4_28 : decode cJ6_bitCount_0f7a4 28 = .ok (.iadd, 1) := by decide +kernel
theorem dJ6_bitCount_0f7a4_29 : decode cJ6_bitCount_0f7a4 29 = .ok (.ldc_w 267, 3) := by decide +kernel
theorem dJ6_bitCount_0f7a4_32 : decode cJ6_bitCount_0f7a4 32 = .ok (.iand, 1) := by decide +kernel
theorem dJ6_bitCount_0f7a4_33 : decode cJ6_bitCount_0f7a4 33 = .ok (.istore_n 0, 1) := by decide +kernel
theorem dJ6_bitCount_0f7a4_34 : decode cJ6_bitCount_0f7a4 34 = .ok (.iload_n 0, 1) := by decide +kernel
theorem dJ6_bitCount_0f7a4_35 : decode cJ6_bitCount_0f7a4 35 = .ok (.iload_n 0, 1) := by decide +kernel
theorem dJ6_bitCount_0f7a4_36 : decode cJ6_bitCount_0f7a4 36 = .ok (.bipush 8, 2) := by decide +kernel
theorem dJ6_bitCount_0f7a4_38 : decode cJ6_bitCount_0f7a4 38 = .ok (.iushr, 1) := by decide +kernel
theorem dJ6_bitCount_0f7a4_39 : decode cJ6_bitCount_0f7a4 39 = .ok (.iadd, 1) := by decide +kernel
theorem dJ6_bitCount_0f7a4_40 : decode cJ6_bitCount_0f7a4 40 = .ok (.istore_n 0, 1) := by decide +kernel
theorem dJ6_bitCount_0f7a4_41 : decode cJ6_bitCount_0f7a4 41 = .ok (.iload_n 0, 1) := by decide +kernel
theorem dJ6_bitCount_0f7a4_42 : decode cJ6_bitCount_0f7a4 42 = .ok (.iload_n 0, 1) := by decide +kernel
theorem dJ6_bitCount_0f7a4_43 : decode cJ6_bitCount_0f7a4 43 = .ok (.bipush 16, 2) := by decide +kernel
theorem dJ6_bitCount_0f7a4_45 : decode cJ6_bitCount_0f7a4 45 = .ok (.iushr, 1) := by decide +kernel
theorem dJ6_bitCount_0f7a4_46 : decode cJ6_bitCount_0f7a4 46 = .ok (.iadd, 1) := by decide +kernel
theorem dJ6_bitCount_0f7a4_47 : decode cJ6_bitCount_0f7a4 47 = .ok (.istore_n 0, 1) := by decide +kernel
theorem dJ6_bitCount_0f7a4_48 : decode cJ6_bitCount_0f7a4 48 = .ok (.iload_n 0, 1) := by decide +kernel
theorem dJ6_bitCount_0f7a4_49 : decode cJ6_bitCount_0f7a4 49 = .ok (.bipush 63, 2) := by decide +kernel
theorem dJ6_bitCount_0f7a4_51 : decode cJ6_bitCount_0f7a4 51 = .ok (.iand, 1) := by decide +kernel
theorem dJ6_bitCount_0f7a4_52 : decode cJ6_bitCount_0f7a4 52 = .ok (.ireturn, 1) := by decide +kernel
theorem dJ9_floorDiv_7cf53_0 : decode cJ9_floorDiv_7cf53 0 = .ok (.iload_n 0, 1) := by decide +kernel
theorem dJ9_floorDiv_7cf53_1 : decode cJ9_floorDiv_7cf53 1 = .ok (.iload_n 1, 1) := by decide +kernel
theorem dJ9_floorDiv_7cf53_2 : decode cJ9_floorDiv_7cf53 2 = .ok (.idiv, 1) := by decide +kernel
theorem dJ9_floorDiv_7cf53_3 : decode cJ9_floorDiv_7cf53 3 = .ok (.istore_n 2, 1) := by decide +kernel
theorem dJ9_floorDiv_7cf53_4 : decode cJ9_floorDiv_7cf53 4 = .ok (.iload_n 0, 1) := by decide +kernel
theorem dJ9_floorDiv_7cf53_5 : decode cJ9_floorDiv_7cf53 5 = .ok (.iload_n 1, 1) := by decide +kernel
theorem dJ9_floorDiv_7cf53_6 : decode cJ9_floorDiv_7cf53 6 = .ok (.ixor, 1) := by decide +kernel
theorem dJ9_floorDiv_7cf53_7 : decode cJ9_floorDiv_7cf53 7 = .ok (.ifCond .ge 14, 3) := by decide +kernel
theorem dJ9_floorDiv_7cf53_10 : decode cJ9_floorDiv_7cf53 10 = .ok (.iload_n 2, 1) := by decide +kernel
theorem dJ9_floorDiv_7cf53_11 : decode cJ9_floorDiv_7cf53 11 = .ok (.iload_n 1, 1) := by decide +kernel
theorem dJ9_floorDiv_7cf53_12 : decode cJ9_floorDiv_7cf53 12 = .ok (.imul, 1) := by decide +kernel
theorem dJ9_floorDiv_7cf53_13 : decode cJ9_floorDiv_7cf53 13 = .ok (.iload_n 0, 1) := by decide +kernel
theorem dJ9_floorDiv_7cf53_14 : decode cJ9_floorDiv_7cf53 14 = .ok (.if_icmp .eq 7, 3) := by decide +kernel
theorem dJ9_floorDiv_7cf53_17 : decode cJ9_floorDiv_7cf53 17 = .ok (.iload_n 2, 1) := by decide +kernel
theorem dJ9_floorDiv_7cf53_18 : decode cJ9_floorDiv_7cf53 18 = .ok (.iconst 1, 1) := by decide +kernel
theorem dJ9_floorDiv_7cf53_19 : decode cJ9_floorDiv_7cf53 19 = .ok (.isub, 1) := by decide +kernel
theorem dJ9_floorDiv_7cf53_20 : decode cJ9_floorDiv_7cf53 20 = .ok (.ireturn, 1) := by decide +kernel
theorem dJ9_floorDiv_7cf53_21 : decode cJ9_floorDiv_7cf53 21 = .ok (.iload_n 2, 1) := by decide +kernel
theorem dJ9_floorDiv_7cf53_22 : decode cJ9_floorDiv_7cf53 22 = .ok (.ireturn, 1) := by decide +kernel
theorem dJ9_abs_0f7a4_0 : decode cJ9_abs_0f7a4 0 = .ok (.iload_n 0, 1) := by decide +kernel
theorem dJ9_abs_0f7a4_1 : decode cJ9_abs_0f7a4 1 = .ok (.ifCond .ge 8, 3) := by decide +kernel
theorem dJ9_abs_0f7a4_4 : decode cJ9_abs_0f7a4 4 = .ok (.iload_n 0, 1) := by decide +kernel
theorem dJ9_abs_0f7a4_5 : decode cJ9_abs_0f7a4 5 = .ok (.ineg, 1) := by decide +kernel
theorem dJ9_abs_0f7a4_6 : decode cJ9_abs_0f7a4 6 = .ok (.goto 4, 3) := by decide +kernel
theorem dJ9_abs_0f7a4_9 : decode cJ9_abs_0f7a4 9 = .ok (.iload_n 0, 1) := by decide +kernel
theorem dJ9_abs_0f7a4_10 : decode cJ9_abs_0f7a4 10 = .ok (.ireturn, 1) := by decide +kernel
theorem dJ9_max_7cf53_0 : decode cJ9_max_7cf53 0 = .ok (.iload_n 0, 1) := by decide +kernel
theorem dJ9_max_7cf53_1 : decode cJ9_max_7cf53 1 = .ok (.iload_n 1, 1) := by decide +kernel
theorem dJ9_max_7cf53_2 : decode cJ9_max_7cf53 2 = .ok (.if_icmp .lt 7, 3) := by decide +kernel
theorem dJ9_max_7cf53_5 : decode cJ9_max_7cf53 5 = .ok (.iload_n 0, 1) := by decide +kernel
theorem dJ9_max_7cf53_6 : decode cJ9_max_7cf53 6 = .ok (.goto 4, 3) := by decide +kernel
theorem dJ9_max_7cf53_9 : decode cJ9_max_7cf53 9 = .ok (.iload_n 1, 1) := by decide +kernel
theorem dJ9_max_7cf53_10 : decode cJ9_max_7cf53 10 = .ok (.ireturn, 1) := by decide +kernel
theorem dJ9_min_7cf53_0 : decode cJ9_min_7cf53 0 = .ok (.iload_n 0, 1) := by decide +kernel
theorem dJ9_min_7cf53_1 : decode cJ9_min_7cf53 1 = .ok (.iload_n 1, 1) := by decide +kernel
theorem dJ9_min_7cf53_2 : decode cJ9_min_7cf53 2 = .ok (.if_icmp .gt 7, 3) := by decide +kernel
theorem dJ9_min_7cf53_5 : decode cJ9_min_7cf53 5 = .ok (.iload_n 0, 1) := by decide +kernel
theorem dJ9_min_7cf53_6 : decode cJ9_min_7cf53 6 = .ok (.goto 4, 3) := by decide +kernel
theorem dJ9_min_7cf53_9 : decode cJ9_min_7cf53 9 = .ok (.iload_n 1, 1) := by decide +kernel
theorem dJ9_min_7cf53_10 : decode cJ9_min_7cf53 10 = .ok (.ireturn, 1) := by decide +kernel
set_option maxRecDepth 20000 in
theorem ggL_setOffset_X10_setOffset : GoodIn wsL_setOffset wsX10_setOffset := goodIn_ca (goodIn_r _ [6, 7, 8, 9, 10, 11, 12, 5, 13, 14, 15, 16, 17, 18, 19, 20, 21, 22, 23, 24, 25, 26, 27, 28, 29, 30] (by decide +kernel) (by decide +kernel)) (goodIn_sub (fun _ h => List.mem_cons_of_mem _ (List.mem_append_right _ h)) (by decide +kernel))
set_option maxRecDepth 20000 in
theorem gL_setOffset_X10_setOffset : GoodIn wsL_setOffset (wsV RL 7 RX10 yX10_setOffset wsX10_setOffset) := goodIn_app (goodIn_of _ (by decide +kernel)) ggL_setOffset_X10_setOffset
theorem dL_setOffset_0 : decode cL_setOffset 0 = .ok (.aload_n 2, 1) := by decide +kernel
theorem dL_setOffset_1 : decode cL_setOffset 1 = .ok (.iconst 0, 1) := by decide +kernel
theorem dL_setOffset_2 : decode cL_setOffset 2 = .ok (.aload_n 0, 1) := by decide +kernel
theorem dL_setOffset_3 : decode cL_setOffset 3 = .ok (.iload_n 1, 1) := by decide +kernel
theorem dL_setOffset_4 : decode cL_setOffset 4 = .ok (.invokevirtual 7, 3) := by decide +kernel
theorem dL_setOffset_7 : decode cL_setOffset 7 = .ok (.i2l, 1) := by decide +kernel
theorem dL_setOffset_8 : decode cL_setOffset 8 = .ok (.lastore, 1) := by decide +kernel
theorem dL_setOffset_9 : decode cL_setOffset 9 = .ok (.goto 6, 3) := by decide +kernel
theorem dL_setOffset_12 : decode cL_setOffset 12 = .ok (.astore_n 3, 1) := by decide +kernel
theorem dL_setOffset_13 : decode cL_setOffset 13 = .ok (.iconst 1, 1) := by decide +kernel
theorem dL_setOffset_14 : decode cL_setOffset 14 = .ok (.ireturn, 1) := by decide +kernel
theorem dL_setOffset_15 : decode cL_setOffset 15 = .ok (.iconst 0, 1) := by decide +kernel
theorem dL_setOffset_16 : decode cL_setOffset 16 = .ok (.ireturn, 1) := by decide +kernel
set_option maxRecDepth 20000 in
theorem ggL_setJitter_X10_setJitter : GoodIn wsL_setJitter wsX10_setJitter := goodIn_ca (goodIn_r _ [6, 7, 8, 9, 10, 11, 12, 13, 5, 14, 15, 16, 17, 18, 19, 20, 21, 22, 23, 24, 25, 26, 27, 28, 29, 30, 31] (by decide +kernel) (by decide +kernel)) (goodIn_sub (fun _ h => List.mem_cons_of_mem _ (List.mem_append_right _ h)) (by decide +kernel))
set_option maxRecDepth 20000 in
theorem gL_setJitter_X10_setJitter : GoodIn wsL_setJitter (wsV RL 15 RX10 yX10_setJitter wsX10_setJitter) := goodIn_app (goodIn_of _ (by decide +kernel)) ggL_setJitter_X10_setJitter
theorem dL_setJitter_0 : decode cL_setJitter 0 = .ok (.aload_n 0, 1) := by decide +kernel
theorem dL_setJitter_1 : decode cL_setJitter 1 = .ok (.iload_n 1, 1) := by decide +kernel
theorem dL_setJitter_2 : decode cL_setJitter 2 = .ok (.iload_n 2, 1) := by decide +kernel
theorem dL_setJitter_3 : decode cL_setJitter 3 = .ok (.invokevirtual 15, 3) := by decide +kernel
theorem dL_setJitter_6 : decode cL_setJitter 6 = .ok (.goto 6, 3) := by decide +kernel
theorem dL_setJitter_9 : decode cL_setJitter 9 = .ok (.astore_n 3, 1) := by decide +kernel
theorem dL_setJitter_10 : decode cL_setJitter 10 = .ok (.iconst 1, 1) := by decide +kernel
theorem dL_setJitter_11 : decode cL_setJitter 11 = .ok (.ireturn, 1) := by decide +kernel
theorem dL_setJitter_12 : decode cL_setJitter 12 = .ok (.iconst 0, 1) := by decide +kernel
theorem dL_setJitter_13 : decode cL_setJitter 13 = .ok (.ireturn, 1) := by decide +kernel
set_option maxRecDepth 20000 in
theorem ggL_setDetector_X10_setDetector : GoodIn wsL_setDetector wsX10_setDetector := goodIn_ca (goodIn_r _ [6, 7, 8, 9, 10, 11, 12, 5, 13, 14, 15, 16, 17, 18, 19, 20, 21, 22, 23, 24, 25, 26, 27, 28, 29, 30] (by decide +kernel) (by decide +kernel)) (goodIn_sub (fun _ h => List.mem_cons_of_mem _ (List.mem_append_right _ h)) (by decide +kernel))
set_option maxRecDepth 20000 in
theorem gL_setDetector_X10_setDetector : GoodIn wsL_setDetector (wsV RL 19 RX10 yX10_setDetector wsX10_setDetector) := goodIn_app (goodIn_of _ (by decide +kernel)) ggL_setDetector_X10_setDetector
theorem dL_setDetector_0 : decode cL_setDetector 0 = .ok (.aload_n 2, 1) := by decide +kernel
theorem dL_setDetector_1 : decode cL_setDetector 1 = .ok (.iconst 0, 1) := by decide +kernel
theorem dL_setDetector_2 : decode cL_setDetector 2 = .ok (.aload_n 0, 1) := by decide +kernel
theorem dL_setDetector_3 : decode cL_setDetector 3 = .ok (.iload_n 1, 1) := by decide +kernel
theorem dL_setDetector_4 : decode cL_setDetector 4 = .ok (.invokevirtual 19, 3) := by decide +kernel
theorem dL_setDetector_7 : decode cL_setDetector 7 = .ok (.i2l, 1) := by decide +kernel
theorem dL_setDetector_8 : decode cL_setDetector 8 = .ok (.lastore, 1) := by decide +kernel
theorem dL_setDetector_9 : decode cL_setDetector 9 = .ok (.goto 6, 3) := by decide +kernel
theorem dL_setDetector_12 : decode cL_setDetector 12 = .ok (.astore_n 3, 1) := by decide +kernel
theorem dL_setDetector_13 : decode cL_setDetector 13 = .ok (.iconst 1, 1) := by decide +kernel
theorem dL_setDetector_14 : decode cL_setDetector 14 = .ok (.ireturn, 1) := by decide +kernel
theorem dL_setDetector_15 : decode cL_setDetector 15 = .ok (.iconst 0, 1) := by decide +kernel
theorem dL_setDetector_16 : decode cL_setDetector 16 = .ok (.ireturn, 1) := by decide +kernel
set_option maxRecDepth 20000 in
theorem ggL_setGains_X10_setGains : GoodIn wsL_setGains wsX10_setGains := goodIn_ca (goodIn_r _ [6, 7, 8, 9, 10, 11, 12, 13, 5, 14, 15, 16, 17, 18, 19, 20, 21, 22, 23, 24, 25, 26, 27, 28, 29] (by decide +kernel) (by decide +kernel)) (goodIn_sub (fun _ h => List.mem_cons_of_mem _ (List.mem_append_right _ h)) (by decide +kernel))
set_option maxRecDepth 20000 in
theorem gL_setGains_X10_setGains : GoodIn wsL_setGains (wsV RL 22 RX10 yX10_setGains wsX10_setGains) := goodIn_app (goodIn_of _ (by decide +kernel)) ggL_setGains_X10_setGains
theorem dL_setGains_0 : decode cL_setGains 0 = .ok (.aload_n 0, 1) := by decide +kernel
theorem dL_setGains_1 : decode cL_setGains 1 = .ok (.iload_n 1, 1) := by decide +kernel
theorem dL_setGains_2 : decode cL_setGains 2 = .ok (.iload_n 2, 1) := by decide +kernel
theorem dL_setGains_3 : decode cL_setGains 3 = .ok (.invokevirtual 22, 3) := by decide +kernel
theorem dL_setGains_6 : decode cL_setGains 6 = .ok (.goto 6, 3) := by decide +kernel
theorem dL_setGains_9 : decode cL_setGains 9 = .ok (.astore_n 3, 1) := by decide +kernel
theorem dL_setGains_10 : decode cL_setGains 10 = .ok (.iconst 1, 1) := by decide +kernel
theorem dL_setGains_11 : decode cL_setGains 11 = .ok (.ireturn, 1) := by decide +kernel
theorem dL_setGains_12 : decode cL_setGains 12 = .ok (.iconst 0, 1) := by decide +kernel
theorem dL_setGains_13 : decode cL_setGains 13 = .ok (.ireturn, 1) := by decide +kernel
set_option maxRecDepth 20000 in
theorem ggL_setPhase_X10_setPhase : GoodIn wsL_setPhase wsX10_setPhase := goodIn_ca (goodIn_r _ [6, 7, 8, 9, 10, 11, 12, 13, 5, 14, 15, 16, 17, 18, 19, 20, 21, 22, 23, 24, 25] (by decide +kernel) (by decide +kernel)) (goodIn_sub (fun _ h => List.mem_cons_of_mem _ (List.mem_append_right _ h)) (by decide +kernel))
set_option maxRecDepth 20000 in
theorem gL_setPhase_X10_setPhase : GoodIn wsL_setPhase (wsV RL 25 RX10 yX10_setPhase wsX10_setPhase) := goodIn_app (goodIn_of _ (by decide +kernel)) ggL_setPhase_X10_setPhase
theorem dL_setPhase_0 : decode cL_setPhase 0 = .ok (.aload_n 2, 1) := by decide +kernel
theorem dL_setPhase_1 : decode cL_setPhase 1 = .ok (.iconst 0, 1) := by decide +kernel
theorem dL_setPhase_2 : decode cL_setPhase 2 = .ok (.aload_n 0, 1) := by decide +kernel
theorem dL_setPhase_3 : decode cL_setPhase 3 = .ok (.iload_n 1, 1) := by decide +kernel
theorem dL_setPhase_4 : decode cL_setPhase 4 = .ok (.invokevirtual 25, 3) := by decide +kernel
theorem dL_setPhase_7 : decode cL_setPhase 7 = .ok (.i2l, 1) := by decide +kernel
theorem dL_setPhase_8 : decode cL_setPhase 8 = .ok (.lastore, 1) := by decide +kernel
theorem dL_setPhase_9 : decode cL_setPhase 9 = .ok (.goto 6, 3) := by decide +kernel
theorem dL_setPhase_12 : decode cL_setPhase 12 = .ok (.astore_n 3, 1) := by decide +kernel
theorem dL_setPhase_13 : decode cL_setPhase 13 = .ok (.iconst 1, 1) := by decide +kernel
theorem dL_setPhase_14 : decode cL_setPhase 14 = .ok (.ireturn, 1) := by decide +kernel
theorem dL_setPhase_15 : decode cL_setPhase 15 = .ok (.iconst 0, 1) := by decide +kernel
theorem dL_setPhase_16 : decode cL_setPhase 16 = .ok (.ireturn, 1) := by decide +kernel
set_option maxRecDepth 20000 in
theorem ggL_run_X10_run : GoodIn wsL_run wsX10_run := goodIn_ca (goodIn_r _ [6, 7, 8, 9, 10, 11, 12, 5, 13, 14, 15, 16, 17, 18, 19, 20, 21, 22, 23, 24, 25, 26, 27, 28, 29, 30, 31, 32, 33, 34, 35, 36, 37, 38, 39, 40, 41, 42, 43, 44, 45, 46, 47, 48, 49, 50, 51, 52, 53, 54, 55, 56, 57, 58, 59, 60, 61, 62, 63, 64, 65, 66, 67, 68, 69, 70, 71, 72, 73, 74, 75, 76, 77, 78, 79, 80, 81, 82, 83, 84, 85, 86, 87, 88, 89, 90, 91, 92, 93, 94, 95, 96, 97, 98, 99, 100, 101, 102, 103, 104, 105, 106, 107, 108, 109, 110, 111, 112, 113, 114, 115, 116, 117, 118, 119, 120, 121, 122, 123, 124, 125, 126, 127, 128, 129, 130, 131, 132, 133, 134, 135, 136, 137, 138, 139, 140, 141, 142, 143, 144, 145, 146, 147, 148, 149, 150, 151, 152, 153, 154, 155, 156, 157, 158, 159, 160, 161, 162, 163, 164, 165, 166, 167, 168, 169, 170, 171, 172, 173, 174, 175, 176, 177, 178, 179, 180, 181, 182, 183, 184, 185, 186, 187, 188, 189, 190, 191, 192, 193, 194, 195, 196, 197, 198, 199, 200, 201, 202, 203, 204, 205, 206, 207, 208, 209, 210, 211, 212, 213, 214, 215, 216, 217, 218, 219, 220, 221, 222, 223, 224, 225, 226, 227, 228, 229, 230, 231, 232, 233, 234, 235, 236, 237, 238, 239, 240, 241, 242, 243, 244, 245, 246, 247, 248, 249, 250, 251, 252, 253, 254, 255, 256, 257, 258, 259, 260, 261, 262, 263, 264, 265, 266, 267, 268, 269, 270, 271, 272, 273, 274, 275, 276, 277, 278, 279, 280, 281] (by decide +kernel) (by decide +kernel)) (goodIn_sub (fun _ h => List.mem_cons_of_mem _ (List.mem_append_right _ h)) (by decide +kernel))
set_option maxRecDepth 20000 in
theorem gL_run_X10_run : GoodIn wsL_run (wsV RL 28 RX10 yX10_run wsX10_run) := goodIn_app (goodIn_of _ (by decide +kernel)) ggL_run_X10_run
theorem dL_run_0 : decode cL_run 0 = .ok (.aload_n 2, 1) := by decide +kernel
theorem dL_run_1 : decode cL_run 1 = .ok (.iconst 0, 1) := by decide +kernel
theorem dL_run_2 : decode cL_run 2 = .ok (.aload_n 0, 1) := by decide +kernel
theorem dL_run_3 : decode cL_run 3 = .ok (.iload_n 1, 1) := by decide +kernel
theorem dL_run_4 : decode cL_run 4 = .ok (.invokevirtual 28, 3) := by decide +kernel
theorem dL_run_7 : decode cL_run 7 = .ok (.i2l, 1) := by decide +kernel
theorem dL_run_8 : decode cL_run 8 = .ok (.lastore, 1) := by decide +kernel
theorem dL_run_9 : decode cL_run 9 = .ok (.goto 6, 3) := by decide +kernel
theorem dL_run_12 : decode cL_run 12 = .ok (.astore_n 3, 1) := by decide +kernel
theorem dL_run_13 : decode cL_run 13 = .ok (.iconst 1, 1) := by decide +kernel
theorem dL_run_14 : decode cL_run 14 = .ok (.ireturn, 1) := by decide +kernel
theorem dL_run_15 : decode cL_run 15 = .ok (.iconst 0, 1) := by decide +kernel
theorem dL_run_16 : decode cL_run 16 = .ok (.ireturn, 1) := by decide +kernel
set_option maxRecDepth 20000 in
theorem ggL_bit_X10_bit : GoodIn wsL_bit wsX10_bit := goodIn_ca (goodIn_r _ [6, 7, 8, 9, 10, 11, 12, 13, 14, 15, 16, 17, 18, 19, 20, 5, 21, 22, 23, 24, 25, 26, 27, 28, 29, 30, 31, 32, 33, 34, 35, 36, 37, 38] (by decide +kernel) (by decide +kernel)) (goodIn_sub (fun _ h => List.mem_cons_of_mem _ (List.mem_append_right _ h)) (by decide +kernel))
set_option maxRecDepth 20000 in
theorem gL_bit_X10_bit : GoodIn wsL_bit (wsV RL 31 RX10 yX10_bit wsX10_bit) := goodIn_app (goodIn_of _ (by decide +kernel)) ggL_bit_X10_bit
theorem dL_bit_0 : decode cL_bit 0 = .ok (.aload_n 2, 1) := by decide +kernel
theorem dL_bit_1 : decode cL_bit 1 = .ok (.iconst 0, 1) := by decide +kernel
theorem dL_bit_2 : decode cL_bit 2 = .ok (.aload_n 0, 1) := by decide +kernel
theorem dL_bit_3 : decode cL_bit 3 = .ok (.iload_n 1, 1) := by decide +kernel
theorem dL_bit_4 : decode cL_bit 4 = .ok (.invokevirtual 31, 3) := by decide +kernel
theorem dL_bit_7 : decode cL_bit 7 = .ok (.i2l, 1) := by decide +kernel
theorem dL_bit_8 : decode cL_bit 8 = .ok (.lastore, 1) := by decide +kernel
theorem dL_bit_9 : decode cL_bit 9 = .ok (.goto 6, 3) := by decide +kernel
theorem dL_bit_12 : decode cL_bit 12 = .ok (.astore_n 3, 1) := by decide +kernel
theorem dL_bit_13 : decode cL_bit 13 = .ok (.iconst 1, 1) := by decide +kernel
theorem dL_bit_14 : decode cL_bit 14 = .ok (.ireturn, 1) := by decide +kernel
theorem dL_bit_15 : decode cL_bit 15 = .ok (.iconst 0, 1) := by decide +kernel
theorem dL_bit_16 : decode cL_bit 16 = .ok (.ireturn, 1) := by decide +kernel
set_option maxRecDepth 20000 in
theorem ggL_phase_X10_phase : GoodIn wsL_phase wsX10_phase := goodIn_ca (goodIn_r _ [6, 7, 8, 9, 10, 11, 12, 13, 14, 15, 16, 17, 18, 19, 20, 21, 22, 23, 24, 25] (by decide +kernel) (by decide +kernel)) (goodIn_sub (fun _ h => List.mem_cons_of_mem _ (List.mem_append_right _ h)) (by decide +kernel))
set_option maxRecDepth 20000 in
theorem gL_phase_X10_phase : GoodIn wsL_phase (wsV RL 36 RX10 yX10_phase wsX10_phase) := goodIn_app (goodIn_of _ (by decide +kernel)) ggL_phase_X10_phase
theorem dL_phase_0 : decode cL_phase 0 = .ok (.aload_n 1, 1) := by decide +kernel
theorem dL_phase_1 : decode cL_phase 1 = .ok (.iconst 0, 1) := by decide +kernel
theorem dL_phase_2 : decode cL_phase 2 = .ok (.aload_n 0, 1) := by decide +kernel
theorem dL_phase_3 : decode cL_phase 3 = .ok (.invokevirtual 36, 3) := by decide +kernel
theorem dL_phase_6 : decode cL_phase 6 = .ok (.i2l, 1) := by decide +kernel
theorem dL_phase_7 : decode cL_phase 7 = .ok (.lastore, 1) := by decide +kernel
theorem dL_phase_8 : decode cL_phase 8 = .ok (.goto 6, 3) := by decide +kernel
theorem dL_phase_11 : decode cL_phase 11 = .ok (.astore_n 2, 1) := by decide +kernel
theorem dL_phase_12 : decode cL_phase 12 = .ok (.iconst 1, 1) := by decide +kernel
theorem dL_phase_13 : decode cL_phase 13 = .ok (.ireturn, 1) := by decide +kernel
theorem dL_phase_14 : decode cL_phase 14 = .ok (.iconst 0, 1) := by decide +kernel
theorem dL_phase_15 : decode cL_phase 15 = .ok (.ireturn, 1) := by decide +kernel
set_option maxRecDepth 20000 in
theorem ggL_cost_X10_cost : GoodIn wsL_cost wsX10_cost := goodIn_ca (goodIn_r _ [6, 7, 8, 9, 10, 11, 5, 12, 13, 14, 15, 16, 17, 18, 19, 20, 21, 22, 23, 24, 25, 26, 27, 28, 29, 30, 31, 32, 33, 34, 35, 36, 37] (by decide +kernel) (by decide +kernel)) (goodIn_sub (fun _ h => List.mem_cons_of_mem _ (List.mem_append_right _ h)) (by decide +kernel))
set_option maxRecDepth 20000 in
theorem gL_cost_X10_cost : GoodIn wsL_cost (wsV RL 42 RX10 yX10_cost wsX10_cost) := goodIn_app (goodIn_of _ (by decide +kernel)) ggL_cost_X10_cost
theorem dL_cost_0 : decode cL_cost 0 = .ok (.aload_n 2, 1) := by decide +kernel
theorem dL_cost_1 : decode cL_cost 1 = .ok (.iconst 0, 1) := by decide +kernel
theorem dL_cost_2 : decode cL_cost 2 = .ok (.aload_n 0, 1) := by decide +kernel
theorem dL_cost_3 : decode cL_cost 3 = .ok (.iload_n 1, 1) := by decide +kernel
theorem dL_cost_4 : decode cL_cost 4 = .ok (.invokevirtual 42, 3) := by decide +kernel
theorem dL_cost_7 : decode cL_cost 7 = .ok (.i2l, 1) := by decide +kernel
theorem dL_cost_8 : decode cL_cost 8 = .ok (.lastore, 1) := by decide +kernel
theorem dL_cost_9 : decode cL_cost 9 = .ok (.goto 6, 3) := by decide +kernel
theorem dL_cost_12 : decode cL_cost 12 = .ok (.astore_n 3, 1) := by decide +kernel
theorem dL_cost_13 : decode cL_cost 13 = .ok (.iconst 1, 1) := by decide +kernel
theorem dL_cost_14 : decode cL_cost 14 = .ok (.ireturn, 1) := by decide +kernel
theorem dL_cost_15 : decode cL_cost 15 = .ok (.iconst 0, 1) := by decide +kernel
theorem dL_cost_16 : decode cL_cost 16 = .ok (.ireturn, 1) := by decide +kernel
set_option maxRecDepth 20000 in
theorem ggL_law_X10_init : GoodIn wsL_law wsX10_init := goodIn_r _ [9, 10, 11, 12, 13, 14, 15, 16, 17, 18, 19, 20, 21, 22, 23, 24, 25, 26, 27, 28, 29, 30, 31, 32, 33, 34, 35, 36, 37, 38, 39, 40, 41, 42, 43, 44, 45, 46, 47, 48, 49, 50, 51, 52, 53, 54, 55, 56, 57, 58, 59, 60, 61, 62, 63, 64, 65, 66, 67, 68, 69, 70, 71, 72, 73, 74, 75, 76, 77, 78, 79, 80, 81, 82, 83, 84, 85, 86, 87, 88, 89, 90, 91, 92, 93, 94, 95, 96, 97, 98, 99, 100, 101, 102, 103, 104, 105, 106, 107, 108, 109, 110, 111, 112, 113, 114, 115, 116, 117, 118, 119, 120, 121, 122, 123, 124, 748, 749, 750, 751, 752, 753, 754, 701, 702, 703, 704, 705, 706, 707, 708, 709, 710, 755, 756, 757, 758, 759, 760, 761, 762, 763, 764, 765, 766, 767, 768, 769, 770, 771, 772, 773, 774, 775, 776, 777, 778, 779, 780, 781, 782, 783, 784, 785, 786] (by decide +kernel) (by decide +kernel)
set_option maxRecDepth 20000 in
theorem gL_law_X10_init : GoodIn wsL_law (wsX10_init) := ggL_law_X10_init
set_option maxRecDepth 20000 in
theorem ggL_law_X11_init : GoodIn wsL_law wsX11_init := goodIn_r _ [127, 128, 11, 12, 129, 130, 131, 132, 133, 134, 72, 135, 136, 137, 114, 138, 711, 712, 713, 714, 715, 716, 717, 718, 719, 720, 721, 722, 723, 724, 725, 726, 727, 728, 729, 730, 731, 732, 733, 734, 735, 736, 737, 738, 739, 740, 741, 742, 743, 744, 745, 746, 747] (by decide +kernel) (by decide +kernel)
set_option maxRecDepth 20000 in
theorem gL_law_X11_init : GoodIn wsL_law (wsX11_init) := ggL_law_X11_init
set_option maxRecDepth 20000 in
theorem ggL_law_L_setOffset : GoodIn wsL_law wsL_setOffset := goodIn_ca (goodIn_r _ [142, 143, 144, 145, 146, 2, 147, 148, 149, 16, 150, 151, 152, 153, 701, 702, 703, 704, 705, 706, 707, 708, 709, 710, 748, 749, 750, 751, 752, 753, 754] (by decide +kernel) (by decide +kernel)) (goodIn_sub (fun _ h => List.mem_append_left _ (List.mem_append_left _ (List.mem_append_right _ h))) (by decide +kernel))
set_option maxRecDepth 20000 in
theorem gL_law_L_setOffset : GoodIn wsL_law (va_wsS RL 49 yL_setOffset wsL_setOffset) := goodIn_app (goodIn_of _ (by decide +kernel)) ggL_law_L_setOffset
set_option maxRecDepth 20000 in
theorem ggL_law_X11_setOffset : GoodIn wsL_law wsX11_setOffset := goodIn_r _ [157, 129, 158, 159, 5, 160, 161, 162, 163, 164, 165, 711, 712, 713, 714, 715, 716, 717, 718, 719, 720, 721, 722, 723, 724, 725, 726, 727, 728, 729, 730, 731, 732, 733, 734, 735, 736, 737, 738, 739, 740, 741, 742, 743, 744, 745, 746, 747] (by decide +kernel) (by decide +kernel)
set_option maxRecDepth 20000 in
theorem gL_law_X11_setOffset : GoodIn wsL_law (wsV RL 54 RX11 yX11_setOffset wsX11_setOffset) := goodIn_app (goodIn_of _ (by decide +kernel)) ggL_law_X11_setOffset
set_option maxRecDepth 20000 in
theorem ggL_law_X11_thrown : GoodIn wsL_law wsX11_thrown := goodIn_r _ [169, 165, 711, 712, 713, 714, 715, 716, 717, 718, 719, 720, 721, 722, 723, 724, 725, 726, 727, 728, 729, 730, 731, 732, 733, 734, 735, 736, 737, 738, 739, 740, 741, 742, 743, 744, 745, 746, 747] (by decide +kernel) (by decide +kernel)
set_option maxRecDepth 20000 in
theorem gL_law_X11_thrown : GoodIn wsL_law (wsV RL 55 RX11 yX11_thrown wsX11_thrown) := goodIn_app (goodIn_of _ (by decide +kernel)) ggL_law_X11_thrown
set_option maxRecDepth 20000 in
theorem ggL_law_L_setJitter : GoodIn wsL_law wsL_setJitter := goodIn_ca (goodIn_r _ [172, 143, 173, 174, 175, 2, 176, 148, 149, 16, 177, 178, 151, 152, 153, 701, 702, 703, 704, 705, 706, 707, 708, 709, 710, 748, 749, 750, 751, 752, 753, 754] (by decide +kernel) (by decide +kernel)) (goodIn_sub (fun _ h => List.mem_append_left _ (List.mem_append_left _ (List.mem_append_right _ h))) (by decide +kernel))
set_option maxRecDepth 20000 in
theorem gL_law_L_setJitter : GoodIn wsL_law (va_wsS RL 58 yL_setJitter wsL_setJitter) := goodIn_app (goodIn_of _ (by decide +kernel)) ggL_law_L_setJitter
set_option maxRecDepth 20000 in
theorem ggL_law_X11_setJitter : GoodIn wsL_law wsX11_setJitter := goodIn_r _ [182, 183, 130, 158, 159, 5, 160, 161, 162, 163, 164, 165, 711, 712, 713, 714, 715, 716, 717, 718, 719, 720, 721, 722, 723, 724, 725, 726, 727, 728, 729, 730, 731, 732, 733, 734, 735, 736, 737, 738, 739, 740, 741, 742, 743, 744, 745, 746, 747] (by decide +kernel) (by decide +kernel)
set_option maxRecDepth 20000 in
theorem gL_law_X11_setJitter : GoodIn wsL_law (wsV RL 61 RX11 yX11_setJitter wsX11_setJitter) := goodIn_app (goodIn_of _ (by decide +kernel)) ggL_law_X11_setJitter
set_option maxRecDepth 20000 in
theorem ggL_law_L_setDetector : GoodIn wsL_law wsL_setDetector := goodIn_ca (goodIn_r _ [186, 143, 187, 188, 189, 2, 190, 148, 149, 32, 191, 151, 152, 153, 701, 702, 703, 704, 705, 706, 707, 708, 709, 710, 759, 760, 761, 762, 763, 764, 765] (by decide +kernel) (by decide +kernel)) (goodIn_sub (fun _ h => List.mem_append_left _ (List.mem_append_left _ (List.mem_append_right _ h))) (by decide +kernel))
set_option maxRecDepth 20000 in
theorem gL_law_L_setDetector : GoodIn wsL_law (va_wsS RL 62 yL_setDetector wsL_setDetector) := goodIn_app (goodIn_of _ (by decide +kernel)) ggL_law_L_setDetector
set_option maxRecDepth 20000 in
theorem ggL_law_X11_setDetector : GoodIn wsL_law wsX11_setDetector := goodIn_r _ [195, 196, 158, 159, 5, 160, 161, 162, 163, 164, 165, 711, 712, 713, 714, 715, 716, 717, 718, 719, 720, 721, 722, 723, 724, 725, 726, 727, 728, 729, 730, 731, 732, 733, 734, 735, 736, 737, 738, 739, 740, 741, 742, 743, 744, 745, 746, 747] (by decide +kernel) (by decide +kernel)
set_option maxRecDepth 20000 in
theorem gL_law_X11_setDetector : GoodIn wsL_law (wsV RL 64 RX11 yX11_setDetector wsX11_setDetector) := goodIn_app (goodIn_of _ (by decide +kernel)) ggL_law_X11_setDetector
set_option maxRecDepth 20000 in
theorem ggL_law_L_setGains : GoodIn wsL_law wsL_setGains := goodIn_ca (goodIn_r _ [199, 143, 200, 201, 202, 2, 203, 148, 149, 36, 204, 205, 151, 152, 153, 701, 702, 703, 704, 705, 706, 707, 708, 709, 710, 766, 767, 768, 769, 770] (by decide +kernel) (by decide +kernel)) (goodIn_sub (fun _ h => List.mem_append_left _ (List.mem_append_left _ (List.mem_append_right _ h))) (by decide +kernel))
set_option maxRecDepth 20000 in
theorem gL_law_L_setGains : GoodIn wsL_law (va_wsS RL 65 yL_setGains wsL_setGains) := goodIn_app (goodIn_of _ (by decide +kernel)) ggL_law_L_setGains
set_option maxRecDepth 20000 in
theorem ggL_law_X11_setGains : GoodIn wsL_law wsX11_setGains := goodIn_r _ [209, 136, 137, 158, 159, 5, 160, 161, 162, 163, 164, 165, 711, 712, 713, 714, 715, 716, 717, 718, 719, 720, 721, 722, 723, 724, 725, 726, 727, 728, 729, 730, 731, 732, 733, 734, 735, 736, 737, 738, 739, 740, 741, 742, 743, 744, 745, 746, 747] (by decide +kernel) (by decide +kernel)
set_option maxRecDepth 20000 in
theorem gL_law_X11_setGains : GoodIn wsL_law (wsV RL 67 RX11 yX11_setGains wsX11_setGains) := goodIn_app (goodIn_of _ (by decide +kernel)) ggL_law_X11_setGains
set_option maxRecDepth 20000 in
theorem ggL_law_L_setPhase : GoodIn wsL_law wsL_setPhase := goodIn_ca (goodIn_r _ [212, 143, 213, 214, 215, 2, 216, 148, 149, 217, 28, 218, 151, 152, 153, 701, 702, 703, 704, 705, 706, 707, 708, 709, 710, 758] (by decide +kernel) (by decide +kernel)) (goodIn_sub (fun _ h => List.mem_append_left _ (List.mem_append_left _ (List.mem_append_right _ h))) (by decide +kernel))
set_option maxRecDepth 20000 in
theorem gL_law_L_setPhase : GoodIn wsL_law (va_wsS RL 68 yL_setPhase wsL_setPhase) := goodIn_app (goodIn_of _ (by decide +kernel)) ggL_law_L_setPhase
set_option maxRecDepth 20000 in
theorem ggL_law_X11_setPhase : GoodIn wsL_law wsX11_setPhase := goodIn_r _ [222, 133, 223, 158, 159, 5, 160, 161, 162, 163, 164, 165, 711, 712, 713, 714, 715, 716, 717, 718, 719, 720, 721, 722, 723, 724, 725, 726, 727, 728, 729, 730, 731, 732, 733, 734, 735, 736, 737, 738, 739, 740, 741, 742, 743, 744, 745, 746, 747] (by decide +kernel) (by decide +kernel)
set_option maxRecDepth 20000 in
theorem gL_law_X11_setPhase : GoodIn wsL_law (wsV RL 70 RX11 yX11_setPhase wsX11_setPhase) := goodIn_app (goodIn_of _ (by decide +kernel)) ggL_law_X11_setPhase
set_option maxRecDepth 20000 in
theorem ggL_law_X10_release : GoodIn wsL_law wsX10_release := goodIn_r _ [227, 36, 228, 229, 701, 702, 703, 704, 705, 706, 707, 708, 709, 710, 766, 767, 768, 769, 770] (by decide +kernel) (by decide +kernel)
set_option maxRecDepth 20000 in
theorem gL_law_X10_release : GoodIn wsL_law (wsV RL 71 RX10 yX10_release wsX10_release) := goodIn_app (goodIn_of _ (by decide +kernel)) ggL_law_X10_release
set_option maxRecDepth 20000 in
theorem ggL_law_X11_release : GoodIn wsL_law wsX11_release := goodIn_r _ [233, 165, 234, 235, 711, 712, 713, 714, 715, 716, 717, 718, 719, 720, 721, 722, 723, 724, 725, 726, 727, 728, 729, 730, 731, 732, 733, 734, 735, 736, 737, 738, 739, 740, 741, 742, 743, 744, 745, 746, 747] (by decide +kernel) (by decide +kernel)
set_option maxRecDepth 20000 in
theorem gL_law_X11_release : GoodIn wsL_law (wsV RL 74 RX11 yX11_release wsX11_release) := goodIn_app (goodIn_of _ (by decide +kernel)) ggL_law_X11_release
set_option maxRecDepth 20000 in
theorem ggL_law_L_run : GoodIn wsL_law wsL_run := goodIn_ca (goodIn_r _ [238, 143, 239, 240, 241, 2, 242, 148, 149, 40, 243, 151, 152, 153, 244, 245, 246, 247, 16, 20, 248, 24, 32, 28, 218, 36, 229, 249, 250, 251, 15, 252, 56, 57, 253, 254, 255, 256, 257, 58, 258, 59, 259, 260, 261, 262, 263, 264, 265, 60, 61, 266, 267, 268, 269, 62, 270, 271, 272, 19, 273, 67, 66, 274, 275, 276, 277, 278, 279, 280, 23, 281, 71, 73, 282, 283, 284, 31, 285, 286, 82, 83, 287, 288, 289, 290, 291, 27, 292, 77, 293, 294, 295, 296, 297, 298, 299, 300, 301, 302, 303, 191, 304, 305, 306, 307, 308, 309, 310, 311, 312, 313, 314, 315, 316, 317, 318, 84, 319, 320, 321, 322, 323, 324, 325, 35, 326, 93, 94, 92, 327, 91, 95, 328, 329, 330, 331, 332, 333, 334, 335, 336, 337, 338, 339, 340, 341, 342, 343, 344, 85, 86, 345, 346, 347, 348, 349, 350, 351, 352, 44, 353, 48, 354, 355, 52, 356, 357, 358, 359, 81, 87, 360, 361, 362, 363, 364, 365, 366, 367, 39, 368, 100, 369, 370, 371, 372, 373, 374, 375, 376, 99, 377, 378, 379, 43, 380, 106, 107, 104, 105, 381, 382, 383, 47, 384, 115, 111, 112, 113, 385, 386, 387, 388, 389, 390, 391, 51, 392, 119, 122, 123, 393, 394, 395, 396, 124, 397, 398, 399, 400, 120, 121, 701, 702, 703, 704, 705, 706, 707, 708, 709, 710, 771, 772, 748, 749, 750, 751, 752, 753, 754, 758, 766, 767, 768, 769, 770, 755, 756, 757, 759, 760, 761, 762, 763, 764, 765, 773, 774, 775, 776, 777, 778, 779, 780, 781, 782, 783, 784, 785, 786] (by decide +kernel) (by decide +kernel)) (goodIn_sub (fun _ h => List.mem_append_left _ (List.mem_append_left _ (List.mem_append_right _ h))) (by decide +kernel))
set_option maxRecDepth 20000 in
theorem gL_law_L_run : GoodIn wsL_law (va_wsS RL 75 yL_run wsL_run) := goodIn_app (goodIn_of _ (by decide +kernel)) ggL_law_L_run
set_option maxRecDepth 20000 in
theorem ggL_law_X11_run : GoodIn wsL_law wsX11_run := goodIn_r _ [404, 405, 158, 159, 5, 160, 161, 162, 163, 164, 165, 406, 407, 408, 409, 135, 410, 411, 223, 412, 134, 413, 414, 235, 415, 416, 417, 418, 183, 419, 130, 420, 421, 422, 423, 129, 424, 133, 132, 425, 426, 427, 428, 429, 131, 430, 431, 432, 433, 196, 434, 435, 436, 437, 438, 439, 440, 441, 442, 443, 444, 445, 446, 447, 448, 449, 234, 137, 450, 136, 451, 452, 453, 454, 455, 456, 457, 458, 459, 460, 461, 138, 462, 463, 464, 465, 466, 467, 468, 469, 470, 471, 472, 473, 474, 475, 476, 477, 711, 712, 713, 714, 715, 716, 717, 718, 719, 720, 721, 722, 723, 724, 725, 726, 727, 728, 729, 730, 731, 732, 733, 734, 735, 736, 737, 738, 739, 740, 741, 742, 743, 744, 745, 746, 747] (by decide +kernel) (by decide +kernel)
set_option maxRecDepth 20000 in
theorem gL_law_X11_run : GoodIn wsL_law (wsV RL 77 RX11 yX11_run wsX11_run) := goodIn_app (goodIn_of _ (by decide +kernel)) ggL_law_X11_run
set_option maxRecDepth 20000 in
theorem ggL_law_X10_ticks : GoodIn wsL_law wsX10_ticks := goodIn_r _ [481, 24, 482, 701, 702, 703, 704, 705, 706, 707, 708, 709, 710, 756, 757] (by decide +kernel) (by decide +kernel)
set_option maxRecDepth 20000 in
theorem gL_law_X10_ticks : GoodIn wsL_law (wsV RL 78 RX10 yX10_ticks wsX10_ticks) := goodIn_app (goodIn_of _ (by decide +kernel)) ggL_law_X10_ticks
set_option maxRecDepth 20000 in
theorem ggL_law_X11_ticks : GoodIn wsL_law wsX11_ticks := goodIn_r _ [486, 165, 410, 711, 712, 713, 714, 715, 716, 717, 718, 719, 720, 721, 722, 723, 724, 725, 726, 727, 728, 729, 730, 731, 732, 733, 734, 735, 736, 737, 738, 739, 740, 741, 742, 743, 744, 745, 746, 747] (by decide +kernel) (by decide +kernel)
set_option maxRecDepth 20000 in
theorem gL_law_X11_ticks : GoodIn wsL_law (wsV RL 81 RX11 yX11_ticks wsX11_ticks) := goodIn_app (goodIn_of _ (by decide +kernel)) ggL_law_X11_ticks
set_option maxRecDepth 20000 in
theorem ggL_law_X10_sent : GoodIn wsL_law wsX10_sent := goodIn_r _ [490, 16, 353, 701, 702, 703, 704, 705, 706, 707, 708, 709, 710, 748, 749, 750, 751, 752, 753, 754] (by decide +kernel) (by decide +kernel)
set_option maxRecDepth 20000 in
theorem gL_law_X10_sent : GoodIn wsL_law (wsV RL 82 RX10 yX10_sent wsX10_sent) := goodIn_app (goodIn_of _ (by decide +kernel)) ggL_law_X10_sent
set_option maxRecDepth 20000 in
theorem ggL_law_X11_sent : GoodIn wsL_law wsX11_sent := goodIn_r _ [494, 165, 429, 711, 712, 713, 714, 715, 716, 717, 718, 719, 720, 721, 722, 723, 724, 725, 726, 727, 728, 729, 730, 731, 732, 733, 734, 735, 736, 737, 738, 739, 740, 741, 742, 743, 744, 745, 746, 747] (by decide +kernel) (by decide +kernel)
set_option maxRecDepth 20000 in
theorem gL_law_X11_sent : GoodIn wsL_law (wsV RL 85 RX11 yX11_sent wsX11_sent) := goodIn_app (goodIn_of _ (by decide +kernel)) ggL_law_X11_sent
set_option maxRecDepth 20000 in
theorem ggL_law_X10_line : GoodIn wsL_law wsX10_line := goodIn_r _ [498, 16, 248, 701, 702, 703, 704, 705, 706, 707, 708, 709, 710, 748, 749, 750, 751, 752, 753, 754] (by decide +kernel) (by decide +kernel)
set_option maxRecDepth 20000 in
theorem gL_law_X10_line : GoodIn wsL_law (wsV RL 86 RX10 yX10_line wsX10_line) := goodIn_app (goodIn_of _ (by decide +kernel)) ggL_law_X10_line
set_option maxRecDepth 20000 in
theorem ggL_law_X11_line : GoodIn wsL_law wsX11_line := goodIn_r _ [502, 165, 132, 711, 712, 713, 714, 715, 716, 717, 718, 719, 720, 721, 722, 723, 724, 725, 726, 727, 728, 729, 730, 731, 732, 733, 734, 735, 736, 737, 738, 739, 740, 741, 742, 743, 744, 745, 746, 747] (by decide +kernel) (by decide +kernel)
set_option maxRecDepth 20000 in
theorem gL_law_X11_line : GoodIn wsL_law (wsV RL 89 RX11 yX11_line wsX11_line) := goodIn_app (goodIn_of _ (by decide +kernel)) ggL_law_X11_line
set_option maxRecDepth 20000 in
theorem ggL_law_X10_level : GoodIn wsL_law wsX10_level := goodIn_r _ [506, 20, 304, 305, 306, 19, 307, 67, 308, 309, 310, 311, 312, 313, 314, 701, 702, 703, 704, 705, 706, 707, 708, 709, 710, 755] (by decide +kernel) (by decide +kernel)
set_option maxRecDepth 20000 in
theorem gL_law_X10_level : GoodIn wsL_law (wsV RL 90 RX10 yX10_level wsX10_level) := goodIn_app (goodIn_of _ (by decide +kernel)) ggL_law_X10_level
set_option maxRecDepth 20000 in
theorem ggL_law_X11_level : GoodIn wsL_law wsX11_level := goodIn_r _ [510, 165, 438, 439, 440, 5, 441, 134, 711, 712, 713, 714, 715, 716, 717, 718, 719, 720, 721, 722, 723, 724, 725, 726, 727, 728, 729, 730, 731, 732, 733, 734, 735, 736, 737, 738, 739, 740, 741, 742, 743, 744, 745, 746, 747] (by decide +kernel) (by decide +kernel)
set_option maxRecDepth 20000 in
theorem gL_law_X11_level : GoodIn wsL_law (wsV RL 93 RX11 yX11_level wsX11_level) := goodIn_app (goodIn_of _ (by decide +kernel)) ggL_law_X11_level
set_option maxRecDepth 20000 in
theorem ggL_law_X10_sender : GoodIn wsL_law wsX10_sender := goodIn_r _ [514, 16, 354, 701, 702, 703, 704, 705, 706, 707, 708, 709, 710, 748, 749, 750, 751, 752, 753, 754] (by decide +kernel) (by decide +kernel)
set_option maxRecDepth 20000 in
theorem gL_law_X10_sender : GoodIn wsL_law (wsV RL 94 RX10 yX10_sender wsX10_sender) := goodIn_app (goodIn_of _ (by decide +kernel)) ggL_law_X10_sender
set_option maxRecDepth 20000 in
theorem ggL_law_X11_sender : GoodIn wsL_law wsX11_sender := goodIn_r _ [518, 165, 423, 711, 712, 713, 714, 715, 716, 717, 718, 719, 720, 721, 722, 723, 724, 725, 726, 727, 728, 729, 730, 731, 732, 733, 734, 735, 736, 737, 738, 739, 740, 741, 742, 743, 744, 745, 746, 747] (by decide +kernel) (by decide +kernel)
set_option maxRecDepth 20000 in
theorem gL_law_X11_sender : GoodIn wsL_law (wsV RL 97 RX11 yX11_sender wsX11_sender) := goodIn_app (goodIn_of _ (by decide +kernel)) ggL_law_X11_sender
set_option maxRecDepth 20000 in
theorem ggL_law_X10_receiver : GoodIn wsL_law wsX10_receiver := goodIn_r _ [522, 28, 218, 701, 702, 703, 704, 705, 706, 707, 708, 709, 710, 758] (by decide +kernel) (by decide +kernel)
set_option maxRecDepth 20000 in
theorem gL_law_X10_receiver : GoodIn wsL_law (wsV RL 98 RX10 yX10_receiver wsX10_receiver) := goodIn_app (goodIn_of _ (by decide +kernel)) ggL_law_X10_receiver
set_option maxRecDepth 20000 in
theorem ggL_law_X11_receiver : GoodIn wsL_law wsX11_receiver := goodIn_r _ [526, 165, 223, 711, 712, 713, 714, 715, 716, 717, 718, 719, 720, 721, 722, 723, 724, 725, 726, 727, 728, 729, 730, 731, 732, 733, 734, 735, 736, 737, 738, 739, 740, 741, 742, 743, 744, 745, 746, 747] (by decide +kernel) (by decide +kernel)
set_option maxRecDepth 20000 in
theorem gL_law_X11_receiver : GoodIn wsL_law (wsV RL 101 RX11 yX11_receiver wsX11_receiver) := goodIn_app (goodIn_of _ (by decide +kernel)) ggL_law_X11_receiver
set_option maxRecDepth 20000 in
theorem ggL_law_X10_error : GoodIn wsL_law wsX10_error := goodIn_r _ [530, 36, 531, 701, 702, 703, 704, 705, 706, 707, 708, 709, 710, 766, 767, 768, 769, 770] (by decide +kernel) (by decide +kernel)
set_option maxRecDepth 20000 in
theorem gL_law_X10_error : GoodIn wsL_law (wsV RL 102 RX10 yX10_error wsX10_error) := goodIn_app (goodIn_of _ (by decide +kernel)) ggL_law_X10_error
set_option maxRecDepth 20000 in
theorem ggL_law_X11_error : GoodIn wsL_law wsX11_error := goodIn_r _ [535, 165, 449, 711, 712, 713, 714, 715, 716, 717, 718, 719, 720, 721, 722, 723, 724, 725, 726, 727, 728, 729, 730, 731, 732, 733, 734, 735, 736, 737, 738, 739, 740, 741, 742, 743, 744, 745, 746, 747] (by decide +kernel) (by decide +kernel)
set_option maxRecDepth 20000 in
theorem gL_law_X11_error : GoodIn wsL_law (wsV RL 105 RX11 yX11_error wsX11_error) := goodIn_app (goodIn_of _ (by decide +kernel)) ggL_law_X11_error
set_option maxRecDepth 20000 in
theorem ggL_law_X10_integral : GoodIn wsL_law wsX10_integral := goodIn_r _ [539, 36, 228, 701, 702, 703, 704, 705, 706, 707, 708, 709, 710, 766, 767, 768, 769, 770] (by decide +kernel) (by decide +kernel)
set_option maxRecDepth 20000 in
theorem gL_law_X10_integral : GoodIn wsL_law (wsV RL 106 RX10 yX10_integral wsX10_integral) := goodIn_app (goodIn_of _ (by decide +kernel)) ggL_law_X10_integral
set_option maxRecDepth 20000 in
theorem ggL_law_X11_integral : GoodIn wsL_law wsX11_integral := goodIn_r _ [543, 165, 234, 711, 712, 713, 714, 715, 716, 717, 718, 719, 720, 721, 722, 723, 724, 725, 726, 727, 728, 729, 730, 731, 732, 733, 734, 735, 736, 737, 738, 739, 740, 741, 742, 743, 744, 745, 746, 747] (by decide +kernel) (by decide +kernel)
set_option maxRecDepth 20000 in
theorem gL_law_X11_integral : GoodIn wsL_law (wsV RL 109 RX11 yX11_integral wsX11_integral) := goodIn_app (goodIn_of _ (by decide +kernel)) ggL_law_X11_integral
set_option maxRecDepth 20000 in
theorem ggL_law_X10_control : GoodIn wsL_law wsX10_control := goodIn_r _ [547, 36, 229, 701, 702, 703, 704, 705, 706, 707, 708, 709, 710, 766, 767, 768, 769, 770] (by decide +kernel) (by decide +kernel)
set_option maxRecDepth 20000 in
theorem gL_law_X10_control : GoodIn wsL_law (wsV RL 110 RX10 yX10_control wsX10_control) := goodIn_app (goodIn_of _ (by decide +kernel)) ggL_law_X10_control
set_option maxRecDepth 20000 in
theorem ggL_law_X11_control : GoodIn wsL_law wsX11_control := goodIn_r _ [551, 165, 235, 711, 712, 713, 714, 715, 716, 717, 718, 719, 720, 721, 722, 723, 724, 725, 726, 727, 728, 729, 730, 731, 732, 733, 734, 735, 736, 737, 738, 739, 740, 741, 742, 743, 744, 745, 746, 747] (by decide +kernel) (by decide +kernel)
set_option maxRecDepth 20000 in
theorem gL_law_X11_control : GoodIn wsL_law (wsV RL 113 RX11 yX11_control wsX11_control) := goodIn_app (goodIn_of _ (by decide +kernel)) ggL_law_X11_control
set_option maxRecDepth 20000 in
theorem ggL_law_X10_received : GoodIn wsL_law wsX10_received := goodIn_r _ [555, 40, 243, 701, 702, 703, 704, 705, 706, 707, 708, 709, 710, 771, 772] (by decide +kernel) (by decide +kernel)
set_option maxRecDepth 20000 in
theorem gL_law_X10_received : GoodIn wsL_law (wsV RL 114 RX10 yX10_received wsX10_received) := goodIn_app (goodIn_of _ (by decide +kernel)) ggL_law_X10_received
set_option maxRecDepth 20000 in
theorem ggL_law_X11_received : GoodIn wsL_law wsX11_received := goodIn_r _ [559, 165, 405, 711, 712, 713, 714, 715, 716, 717, 718, 719, 720, 721, 722, 723, 724, 725, 726, 727, 728, 729, 730, 731, 732, 733, 734, 735, 736, 737, 738, 739, 740, 741, 742, 743, 744, 745, 746, 747] (by decide +kernel) (by decide +kernel)
set_option maxRecDepth 20000 in
theorem gL_law_X11_received : GoodIn wsL_law (wsV RL 117 RX11 yX11_received wsX11_received) := goodIn_app (goodIn_of _ (by decide +kernel)) ggL_law_X11_received
set_option maxRecDepth 20000 in
theorem ggL_law_L_bit : GoodIn wsL_law wsL_bit := goodIn_ca (goodIn_r _ [562, 563, 564, 565, 566, 2, 567, 568, 569, 40, 570, 571, 572, 39, 573, 99, 574, 332, 321, 333, 152, 153, 575, 366, 367, 368, 100, 701, 702, 703, 704, 705, 706, 707, 708, 709, 710, 771, 772] (by decide +kernel) (by decide +kernel)) (goodIn_sub (fun _ h => List.mem_append_left _ (List.mem_append_right _ h)) (by decide +kernel))
set_option maxRecDepth 20000 in
theorem gL_law_L_bit : GoodIn wsL_law (va_wsS RL 118 yL_bit wsL_bit) := goodIn_app (goodIn_of _ (by decide +kernel)) ggL_law_L_bit
set_option maxRecDepth 20000 in
theorem ggL_law_X11_bit : GoodIn wsL_law wsX11_bit := goodIn_r _ [579, 462, 580, 581, 582, 5, 583, 405, 158, 159, 160, 161, 162, 163, 164, 165, 711, 712, 713, 714, 715, 716, 717, 718, 719, 720, 721, 722, 723, 724, 725, 726, 727, 728, 729, 730, 731, 732, 733, 734, 735, 736, 737, 738, 739, 740, 741, 742, 743, 744, 745, 746, 747] (by decide +kernel) (by decide +kernel)
set_option maxRecDepth 20000 in
theorem gL_law_X11_bit : GoodIn wsL_law (wsV RL 120 RX11 yX11_bit wsX11_bit) := goodIn_app (goodIn_of _ (by decide +kernel)) ggL_law_X11_bit
set_option maxRecDepth 20000 in
theorem ggL_law_L_phase : GoodIn wsL_law wsL_phase := goodIn_ca (goodIn_r _ [586, 587, 588, 589, 590, 2, 591, 592, 593, 48, 594, 595, 701, 702, 703, 704, 705, 706, 707, 708, 709, 710, 777, 778, 779, 780] (by decide +kernel) (by decide +kernel)) (goodIn_sub (fun _ h => List.mem_append_right _ h) (by decide +kernel))
set_option maxRecDepth 20000 in
theorem gL_law_L_phase : GoodIn wsL_law (va_wsS RL 121 yL_phase wsL_phase) := goodIn_app (goodIn_of _ (by decide +kernel)) ggL_law_L_phase
set_option maxRecDepth 20000 in
theorem ggL_law_X11_phase : GoodIn wsL_law wsX11_phase := goodIn_r _ [599, 405, 138, 161, 162, 163, 5, 164, 165, 711, 712, 713, 714, 715, 716, 717, 718, 719, 720, 721, 722, 723, 724, 725, 726, 727, 728, 729, 730, 731, 732, 733, 734, 735, 736, 737, 738, 739, 740, 741, 742, 743, 744, 745, 746, 747] (by decide +kernel) (by decide +kernel)
set_option maxRecDepth 20000 in
theorem gL_law_X11_phase : GoodIn wsL_law (wsV RL 124 RX11 yX11_phase wsX11_phase) := goodIn_app (goodIn_of _ (by decide +kernel)) ggL_law_X11_phase
set_option maxRecDepth 20000 in
theorem ggL_law_X10_repeated : GoodIn wsL_law wsX10_repeated := goodIn_r _ [603, 44, 604, 701, 702, 703, 704, 705, 706, 707, 708, 709, 710, 773, 774, 775, 776] (by decide +kernel) (by decide +kernel)
set_option maxRecDepth 20000 in
theorem gL_law_X10_repeated : GoodIn wsL_law (wsV RL 125 RX10 yX10_repeated wsX10_repeated) := goodIn_app (goodIn_of _ (by decide +kernel)) ggL_law_X10_repeated
set_option maxRecDepth 20000 in
theorem ggL_law_X11_repeated : GoodIn wsL_law wsX11_repeated := goodIn_r _ [608, 165, 459, 711, 712, 713, 714, 715, 716, 717, 718, 719, 720, 721, 722, 723, 724, 725, 726, 727, 728, 729, 730, 731, 732, 733, 734, 735, 736, 737, 738, 739, 740, 741, 742, 743, 744, 745, 746, 747] (by decide +kernel) (by decide +kernel)
set_option maxRecDepth 20000 in
theorem gL_law_X11_repeated : GoodIn wsL_law (wsV RL 128 RX11 yX11_repeated wsX11_repeated) := goodIn_app (goodIn_of _ (by decide +kernel)) ggL_law_X11_repeated
set_option maxRecDepth 20000 in
theorem ggL_law_X10_skipped : GoodIn wsL_law wsX10_skipped := goodIn_r _ [612, 44, 613, 701, 702, 703, 704, 705, 706, 707, 708, 709, 710, 773, 774, 775, 776] (by decide +kernel) (by decide +kernel)
set_option maxRecDepth 20000 in
theorem gL_law_X10_skipped : GoodIn wsL_law (wsV RL 129 RX10 yX10_skipped wsX10_skipped) := goodIn_app (goodIn_of _ (by decide +kernel)) ggL_law_X10_skipped
set_option maxRecDepth 20000 in
theorem ggL_law_X11_skipped : GoodIn wsL_law wsX11_skipped := goodIn_r _ [617, 165, 460, 711, 712, 713, 714, 715, 716, 717, 718, 719, 720, 721, 722, 723, 724, 725, 726, 727, 728, 729, 730, 731, 732, 733, 734, 735, 736, 737, 738, 739, 740, 741, 742, 743, 744, 745, 746, 747] (by decide +kernel) (by decide +kernel)
set_option maxRecDepth 20000 in
theorem gL_law_X11_skipped : GoodIn wsL_law (wsV RL 132 RX11 yX11_skipped wsX11_skipped) := goodIn_app (goodIn_of _ (by decide +kernel)) ggL_law_X11_skipped
set_option maxRecDepth 20000 in
theorem ggL_law_X10_isLocked : GoodIn wsL_law wsX10_isLocked := goodIn_r _ [621, 48, 622, 623, 624, 47, 625, 113, 701, 702, 703, 704, 705, 706, 707, 708, 709, 710, 777, 778, 779, 780] (by decide +kernel) (by decide +kernel)
set_option maxRecDepth 20000 in
theorem gL_law_X10_isLocked : GoodIn wsL_law (wsV RL 133 RX10 yX10_isLocked wsX10_isLocked) := goodIn_app (goodIn_of _ (by decide +kernel)) ggL_law_X10_isLocked
set_option maxRecDepth 20000 in
theorem ggL_law_X11_isLocked : GoodIn wsL_law wsX11_isLocked := goodIn_r _ [629, 165, 405, 461, 138, 158, 159, 5, 160, 711, 712, 713, 714, 715, 716, 717, 718, 719, 720, 721, 722, 723, 724, 725, 726, 727, 728, 729, 730, 731, 732, 733, 734, 735, 736, 737, 738, 739, 740, 741, 742, 743, 744, 745, 746, 747] (by decide +kernel) (by decide +kernel)
set_option maxRecDepth 20000 in
theorem gL_law_X11_isLocked : GoodIn wsL_law (wsV RL 137 RX11 yX11_isLocked wsX11_isLocked) := goodIn_app (goodIn_of _ (by decide +kernel)) ggL_law_X11_isLocked
set_option maxRecDepth 20000 in
theorem ggL_law_X10_wander : GoodIn wsL_law wsX10_wander := goodIn_r _ [633, 48, 634, 635, 636, 47, 637, 115, 638, 320, 321, 322, 701, 702, 703, 704, 705, 706, 707, 708, 709, 710, 777, 778, 779, 780] (by decide +kernel) (by decide +kernel)
set_option maxRecDepth 20000 in
theorem gL_law_X10_wander : GoodIn wsL_law (wsV RL 138 RX10 yX10_wander wsX10_wander) := goodIn_app (goodIn_of _ (by decide +kernel)) ggL_law_X10_wander
set_option maxRecDepth 20000 in
theorem ggL_law_X11_wander : GoodIn wsL_law wsX11_wander := goodIn_r _ [642, 165, 138, 580, 581, 582, 5, 583, 405, 442, 443, 444, 711, 712, 713, 714, 715, 716, 717, 718, 719, 720, 721, 722, 723, 724, 725, 726, 727, 728, 729, 730, 731, 732, 733, 734, 735, 736, 737, 738, 739, 740, 741, 742, 743, 744, 745, 746, 747] (by decide +kernel) (by decide +kernel)
set_option maxRecDepth 20000 in
theorem gL_law_X11_wander : GoodIn wsL_law (wsV RL 141 RX11 yX11_wander wsX11_wander) := goodIn_app (goodIn_of _ (by decide +kernel)) ggL_law_X11_wander
set_option maxRecDepth 20000 in
theorem ggL_law_X10_alignment : GoodIn wsL_law wsX10_alignment := goodIn_r _ [646, 52, 647, 701, 702, 703, 704, 705, 706, 707, 708, 709, 710, 781, 782, 783, 784, 785, 786] (by decide +kernel) (by decide +kernel)
set_option maxRecDepth 20000 in
theorem gL_law_X10_alignment : GoodIn wsL_law (wsV RL 142 RX10 yX10_alignment wsX10_alignment) := goodIn_app (goodIn_of _ (by decide +kernel)) ggL_law_X10_alignment
set_option maxRecDepth 20000 in
theorem ggL_law_X11_alignment : GoodIn wsL_law wsX11_alignment := goodIn_r _ [651, 165, 473, 711, 712, 713, 714, 715, 716, 717, 718, 719, 720, 721, 722, 723, 724, 725, 726, 727, 728, 729, 730, 731, 732, 733, 734, 735, 736, 737, 738, 739, 740, 741, 742, 743, 744, 745, 746, 747] (by decide +kernel) (by decide +kernel)
set_option maxRecDepth 20000 in
theorem gL_law_X11_alignment : GoodIn wsL_law (wsV RL 145 RX11 yX11_alignment wsX11_alignment) := goodIn_app (goodIn_of _ (by decide +kernel)) ggL_law_X11_alignment
set_option maxRecDepth 20000 in
theorem ggL_law_X10_frames : GoodIn wsL_law wsX10_frames := goodIn_r _ [655, 52, 656, 701, 702, 703, 704, 705, 706, 707, 708, 709, 710, 781, 782, 783, 784, 785, 786] (by decide +kernel) (by decide +kernel)
set_option maxRecDepth 20000 in
theorem gL_law_X10_frames : GoodIn wsL_law (wsV RL 146 RX10 yX10_frames wsX10_frames) := goodIn_app (goodIn_of _ (by decide +kernel)) ggL_law_X10_frames
set_option maxRecDepth 20000 in
theorem ggL_law_X11_frames : GoodIn wsL_law wsX11_frames := goodIn_r _ [660, 165, 476, 711, 712, 713, 714, 715, 716, 717, 718, 719, 720, 721, 722, 723, 724, 725, 726, 727, 728, 729, 730, 731, 732, 733, 734, 735, 736, 737, 738, 739, 740, 741, 742, 743, 744, 745, 746, 747] (by decide +kernel) (by decide +kernel)
set_option maxRecDepth 20000 in
theorem gL_law_X11_frames : GoodIn wsL_law (wsV RL 149 RX11 yX11_frames wsX11_frames) := goodIn_app (goodIn_of _ (by decide +kernel)) ggL_law_X11_frames
set_option maxRecDepth 20000 in
theorem ggL_law_X10_losses : GoodIn wsL_law wsX10_losses := goodIn_r _ [664, 52, 665, 701, 702, 703, 704, 705, 706, 707, 708, 709, 710, 781, 782, 783, 784, 785, 786] (by decide +kernel) (by decide +kernel)
set_option maxRecDepth 20000 in
theorem gL_law_X10_losses : GoodIn wsL_law (wsV RL 150 RX10 yX10_losses wsX10_losses) := goodIn_app (goodIn_of _ (by decide +kernel)) ggL_law_X10_losses
set_option maxRecDepth 20000 in
theorem ggL_law_X11_losses : GoodIn wsL_law wsX11_losses := goodIn_r _ [669, 165, 477, 711, 712, 713, 714, 715, 716, 717, 718, 719, 720, 721, 722, 723, 724, 725, 726, 727, 728, 729, 730, 731, 732, 733, 734, 735, 736, 737, 738, 739, 740, 741, 742, 743, 744, 745, 746, 747] (by decide +kernel) (by decide +kernel)
set_option maxRecDepth 20000 in
theorem gL_law_X11_losses : GoodIn wsL_law (wsV RL 153 RX11 yX11_losses wsX11_losses) := goodIn_app (goodIn_of _ (by decide +kernel)) ggL_law_X11_losses
set_option maxRecDepth 20000 in
theorem ggL_law_X10_bestPhase : GoodIn wsL_law wsX10_bestPhase := goodIn_r _ [673, 24, 674, 675, 676, 23, 677, 73, 678, 679, 680, 681, 332, 321, 333, 701, 702, 703, 704, 705, 706, 707, 708, 709, 710, 756, 757] (by decide +kernel) (by decide +kernel)
set_option maxRecDepth 20000 in
theorem gL_law_X10_bestPhase : GoodIn wsL_law (wsV RL 154 RX10 yX10_bestPhase wsX10_bestPhase) := goodIn_app (goodIn_of _ (by decide +kernel)) ggL_law_X10_bestPhase
set_option maxRecDepth 20000 in
theorem ggL_law_X11_bestPhase : GoodIn wsL_law wsX11_bestPhase := goodIn_r _ [685, 165, 686, 687, 688, 5, 689, 410, 135, 711, 712, 713, 714, 715, 716, 717, 718, 719, 720, 721, 722, 723, 724, 725, 726, 727, 728, 729, 730, 731, 732, 733, 734, 735, 736, 737, 738, 739, 740, 741, 742, 743, 744, 745, 746, 747] (by decide +kernel) (by decide +kernel)
set_option maxRecDepth 20000 in
theorem gL_law_X11_bestPhase : GoodIn wsL_law (wsV RL 157 RX11 yX11_bestPhase wsX11_bestPhase) := goodIn_app (goodIn_of _ (by decide +kernel)) ggL_law_X11_bestPhase
set_option maxRecDepth 20000 in
theorem ggL_law_L_cost : GoodIn wsL_law wsL_cost := goodIn_ca (goodIn_r _ [692, 143, 693, 694, 695, 2, 696, 148, 149, 24, 151, 152, 153, 674, 675, 676, 23, 677, 73, 678, 679, 680, 681, 332, 321, 333, 701, 702, 703, 704, 705, 706, 707, 708, 709, 710, 756, 757] (by decide +kernel) (by decide +kernel)) (goodIn_sub (fun _ h => List.mem_append_left _ (List.mem_append_left _ (List.mem_append_right _ h))) (by decide +kernel))
set_option maxRecDepth 20000 in
theorem gL_law_L_cost : GoodIn wsL_law (va_wsS RL 158 yL_cost wsL_cost) := goodIn_app (goodIn_of _ (by decide +kernel)) ggL_law_L_cost
set_option maxRecDepth 20000 in
theorem ggL_law_X11_cost : GoodIn wsL_law wsX11_cost := goodIn_r _ [700, 158, 159, 5, 160, 161, 162, 163, 164, 165, 686, 687, 688, 689, 410, 135, 711, 712, 713, 714, 715, 716, 717, 718, 719, 720, 721, 722, 723, 724, 725, 726, 727, 728, 729, 730, 731, 732, 733, 734, 735, 736, 737, 738, 739, 740, 741, 742, 743, 744, 745, 746, 747] (by decide +kernel) (by decide +kernel)
set_option maxRecDepth 20000 in
theorem gL_law_X11_cost : GoodIn wsL_law (wsV RL 160 RX11 yX11_cost wsX11_cost) := goodIn_app (goodIn_of _ (by decide +kernel)) ggL_law_X11_cost
theorem dL_law_0 : decode cL_law 0 = .ok (.new 8, 3) := by decide +kernel
theorem dL_law_3 : decode cL_law 3 = .ok (.dup, 1) := by decide +kernel
theorem dL_law_4 : decode cL_law 4 = .ok (.invokespecial 45, 3) := by decide +kernel
theorem dL_law_7 : decode cL_law 7 = .ok (.astore_n 1, 1) := by decide +kernel
theorem dL_law_8 : decode cL_law 8 = .ok (.new 46, 3) := by decide +kernel
theorem dL_law_11 : decode cL_law 11 = .ok (.dup, 1) := by decide +kernel
theorem dL_law_12 : decode cL_law 12 = .ok (.invokespecial 48, 3) := by decide +kernel
theorem dL_law_15 : decode cL_law 15 = .ok (.astore_n 2, 1) := by decide +kernel
theorem dL_law_16 : decode cL_law 16 = .ok (.iconst 1, 1) := by decide +kernel
theorem dL_law_17 : decode cL_law 17 = .ok (.newarray .long, 2) := by decide +kernel
theorem dL_law_19 : decode cL_law 19 = .ok (.astore_n 3, 1) := by decide +kernel
theorem dL_law_20 : decode cL_law 20 = .ok (.iconst 0, 1) := by decide +kernel
theorem dL_law_21 : decode cL_law 21 = .ok (.istore 4, 2) := by decide +kernel
theorem dL_law_23 : decode cL_law 23 = .ok (.iload 4, 2) := by decide +kernel
theorem dL_law_25 : decode cL_law 25 = .ok (.aload_n 0, 1) := by decide +kernel
theorem dL_law_26 : decode cL_law 26 = .ok (.arraylength, 1) := by decide +kernel
theorem dL_law_27 : decode cL_law 27 = .ok (.iconst 3, 1) := by decide +kernel
theorem dL_law_28 : decode cL_law 28 = .ok (.isub, 1) := by decide +kernel
theorem dL_law_29 : decode cL_law 29 = .ok (.if_icmp .gt 862, 3) := by decide +kernel
theorem dL_law_32 : decode cL_law 32 = .ok (.aload_n 0, 1) := by decide +kernel
theorem dL_law_33 : decode cL_law 33 = .ok (.iload 4, 2) := by decide +kernel
theorem dL_law_35 : decode cL_law 35 = .ok (.iaload, 1) := by decide +kernel
theorem dL_law_36 : decode cL_law 36 = .ok (.bipush 31, 2) := by decide +kernel
theorem dL_law_38 : decode cL_law 38 = .ok (.iand, 1) := by decide +kernel
theorem dL_law_39 : decode cL_law 39 = .ok (.tableswitch 846 0 27 #[125, 181, 229, 285, 333, 389, 400, 456, 469, 482, 495, 508, 521, 534, 547, 560, 573, 586, 642, 686, 699, 712, 725, 738, 751, 764, 777, 790], 125) := by decide +kernel
theorem dL_law_164 : decode cL_law 164 = .ok (.aload_n 1, 1) := by decide +kernel
theorem dL_law_165 : decode cL_law 165 = .ok (.aload_n 0, 1) := by decide +kernel
theorem dL_law_166 : decode cL_law 166 = .ok (.iload 4, 2) := by decide +kernel
theorem dL_law_168 : decode cL_law 168 = .ok (.iconst 1, 1) := by decide +kernel
theorem dL_law_169 : decode cL_law 169 = .ok (.iadd, 1) := by decide +kernel
theorem dL_law_170 : decode cL_law 170 = .ok (.iaload, 1) := by decide +kernel
theorem dL_law_171 : decode cL_law 171 = .ok (.aload_n 3, 1) := by decide +kernel
theorem dL_law_172 : decode cL_law 172 = .ok (.invokestatic 49, 3) := by decide +kernel
theorem dL_law_175 : decode cL_law 175 = .ok (.istore 5, 2) := by decide +kernel
theorem dL_law_177 : decode cL_law 177 = .ok (.aload_n 2, 1) := by decide +kernel
theorem dL_law_178 : decode cL_law 178 = .ok (.aload_n 0, 1) := by decide +kernel
theorem dL_law_179 : decode cL_law 179 = .ok (.iload 4, 2) := by decide +kernel
theorem dL_law_181 : decode cL_law 181 = .ok (.iconst 1, 1) := by decide +kernel
theorem dL_law_182 : decode cL_law 182 = .ok (.iadd, 1) := by decide +kernel
theorem dL_law_183 : decode cL_law 183 = .ok (.iaload, 1) := by decide +kernel
theorem dL_law_184 : decode cL_law 184 = .ok (.invokevirtual 54, 3) := by decide +kernel
theorem dL_law_187 : decode cL_law 187 = .ok (.istore 6, 2) := by decide +kernel
theorem dL_law_189 : decode cL_law 189 = .ok (.aload_n 2, 1) := by decide +kernel
theorem dL_law_190 : decode cL_law 190 = .ok (.invokevirtual 55, 3) := by decide +kernel
theorem dL_law_193 : decode cL_law 193 = .ok (.iload 5, 2) := by decide +kernel
theorem dL_law_195 : decode cL_law 195 = .ok (.if_icmp .eq 5, 3) := by decide +kernel
theorem dL_law_198 : decode cL_law 198 = .ok (.iconst 0, 1) := by decide +kernel
theorem dL_law_199 : decode cL_law 199 = .ok (.ireturn, 1) := by decide +kernel
theorem dL_law_200 : decode cL_law 200 = .ok (.iload 5, 2) := by decide +kernel
theorem dL_law_202 : decode cL_law 202 = .ok (.ifCond .ne 15, 3) := by decide +kernel
theorem dL_law_205 : decode cL_law 205 = .ok (.aload_n 3, 1) := by decide +kernel
theorem dL_law_206 : decode cL_law 206 = .ok (.iconst 0, 1) := by decide +kernel
theorem dL_law_207 : decode cL_law 207 = .ok (.laload, 1) := by decide +kernel
theorem dL_law_208 : decode cL_law 208 = .ok (.iload 6, 2) := by decide +kernel
theorem dL_law_210 : decode cL_law 210 = .ok (.i2l, 1) := by decide +kernel
theorem dL_law_211 : decode cL_law 211 = .ok (.lcmp, 1) := by decide +kernel
theorem dL_law_212 : decode cL_law 212 = .ok (.ifCond .eq 5, 3) := by decide +kernel
theorem dL_law_215 : decode cL_law 215 = .ok (.iconst 0, 1) := by decide +kernel
theorem dL_law_216 : decode cL_law 216 = .ok (.ireturn, 1) := by decide +kernel
theorem dL_law_217 : decode cL_law 217 = .ok (.goto 668, 3) := by decide +kernel
theorem dL_law_220 : decode cL_law 220 = .ok (.aload_n 1, 1) := by decide +kernel
theorem dL_law_221 : decode cL_law 221 = .ok (.aload_n 0, 1) := by decide +kernel
theorem dL_law_222 : decode cL_law 222 = .ok (.iload 4, 2) := by decide +kernel
theorem dL_law_224 : decode cL_law 224 = .ok (.iconst 1, 1) := by decide +kernel
theorem dL_law_225 : decode cL_law 225 = .ok (.iadd, 1) := by decide +kernel
theorem dL_law_226 : decode cL_law 226 = .ok (.iaload, 1) := by decide +kernel
theorem dL_law_227 : decode cL_law 227 = .ok (.aload_n 0, 1) := by decide +kernel
theorem dL_law_228 : decode cL_law 228 = .ok (.iload 4, 2) := by decide +kernel
theorem dL_law_230 : decode cL_law 230 = .ok (.iconst 2, 1) := by decide +kernel
theorem dL_law_231 : decode cL_law 231 = .ok (.iadd, 1) := by decide +kernel
theorem dL_law_232 : decode cL_law 232 = .ok (.iaload, 1) := by decide +kernel
theorem dL_law_233 : decode cL_law 233 = .ok (.invokestatic 58, 3) := by decide +kernel
theorem dL_law_236 : decode cL_law 236 = .ok (.istore 5, 2) := by decide +kernel
theorem dL_law_238 : decode cL_law 238 = .ok (.aload_n 2, 1) := by decide +kernel
theorem dL_law_239 : decode cL_law 239 = .ok (.aload_n 0, 1) := by decide +kernel
theorem dL_law_240 : decode cL_law 240 = .ok (.iload 4, 2) := by decide +kernel
theorem dL_law_242 : decode cL_law 242 = .ok (.iconst 1, 1) := by decide +kernel
theorem dL_law_243 : decode cL_law 243 = .ok (.iadd, 1) := by decide +kernel
theorem dL_law_244 : decode cL_law 244 = .ok (.iaload, 1) := by decide +kernel
theorem dL_law_245 : decode cL_law 245 = .ok (.aload_n 0, 1) := by decide +kernel
theorem dL_law_246 : decode cL_law 246 = .ok (.iload 4, 2) := by decide +kernel
theorem dL_law_248 : decode cL_law 248 = .ok (.iconst 2, 1) := by decide +kernel
theorem dL_law_249 : decode cL_law 249 = .ok (.iadd, 1) := by decide +kernel
theorem dL_law_250 : decode cL_law 250 = .ok (.iaload, 1) := by decide +kernel
theorem dL_law_251 : decode cL_law 251 = .ok (.invokevirtual 61, 3) := by decide +kernel
theorem dL_law_254 : decode cL_law 254 = .ok (.aload_n 2, 1) := by decide +kernel
theorem dL_law_255 : decode cL_law 255 = .ok (.invokevirtual 55, 3) := by decide +kernel
theorem dL_law_258 : decode cL_law 258 = .ok (.iload 5, 2) := by decide +kernel
theorem dL_law_260 : decode cL_law 260 = .ok (.if_icmp .eq 5, 3) := by decide +kernel
theorem dL_law_263 : decode cL_law 263 = .ok (.iconst 0, 1) := by decide +kernel
theorem dL_law_264 : decode cL_law 264 = .ok (.ireturn, 1) := by decide +kernel
theorem dL_law_265 : decode cL_law 265 = .ok (.goto 620, 3) := by decide +kernel
theorem dL_law_268 : decode cL_law 268 = .ok (.aload_n 1, 1) := by decide +kernel
theorem dL_law_269 : decode cL_law 269 = .ok (.aload_n 0, 1) := by decide +kernel
theorem dL_law_270 : decode cL_law 270 = .ok (.iload 4, 2) := by decide +kernel
theorem dL_law_272 : decode cL_law 272 = .ok (.iconst 1, 1) := by decide +kernel
theorem dL_law_273 : decode cL_law 273 = .ok (.iadd, 1) := by decide +kernel
theorem dL_law_274 : decode cL_law 274 = .ok (.iaload, 1) := by decide +kernel
theorem dL_law_275 : decode cL_law 275 = .ok (.aload_n 3, 1) := by decide +kernel
theorem dL_law_276 : decode cL_law 276 = .ok (.invokestatic 62, 3) := by decide +kernel
theorem dL_law_279 : decode cL_law 279 = .ok (.istore 5, 2) := by decide +kernel
theorem dL_law_281 : decode cL_law 281 = .ok (.aload_n 2, 1) := by decide +kernel
theorem dL_law_282 : decode cL_law 282 = .ok (.aload_n 0, 1) := by decide +kernel
theorem dL_law_283 : decode cL_law 283 = .ok (.iload 4, 2) := by decide +kernel
theorem dL_law_285 : decode cL_law 285 = .ok (.iconst 1, 1) := by decide +kernel
theorem dL_law_286 : decode cL_law 286 = .ok (.iadd, 1) := by decide +kernel
theorem dL_law_287 : decode cL_law 287 = .ok (.iaload, 1) := by decide +kernel
theorem dL_law_288 : decode cL_law 288 = .ok (.invokevirtual 64, 3) := by decide +kernel
theorem dL_law_291 : decode cL_law 291 = .ok (.istore 6, 2) := by decide +kernel
theorem dL_law_293 : decode cL_law 293 = .ok (.aload_n 2, 1) := by decide +kernel
theorem dL_law_294 : decode cL_law 294 = .ok (.invokevirtual 55, 3) := by decide +kernel
theorem dL_law_297 : decode cL_law 297 = .ok (.iload 5, 2) := by decide +kernel
theorem dL_law_299 : decode cL_law 299 = .ok (.if_icmp .eq 5, 3) := by decide +kernel
theorem dL_law_302 : decode cL_law 302 = .ok (.iconst 0, 1) := by decide +kernel
theorem dL_law_303 : decode cL_law 303 = .ok (.ireturn, 1) := by decide +kernel
theorem dL_law_304 : decode cL_law 304 = .ok (.iload 5, 2) := by decide +kernel
theorem dL_law_306 : decode cL_law 306 = .ok (.ifCond .ne 15, 3) := by decide +kernel
theorem dL_law_309 : decode cL_law 309 = .ok (.aload_n 3, 1) := by decide +kernel
theorem dL_law_310 : decode cL_law 310 = .ok (.iconst 0, 1) := by decide +kernel
theorem dL_law_311 : decode cL_law 311 = .ok (.laload, 1) := by decide +kernel
theorem dL_law_312 : decode cL_law 312 = .ok (.iload 6, 2) := by decide +kernel
theorem dL_law_314 : decode cL_law 314 = .ok (.i2l, 1) := by decide +kernel
theorem dL_law_315 : decode cL_law 315 = .ok (.lcmp, 1) := by decide +kernel
theorem dL_law_316 : decode cL_law 316 = .ok (.ifCond .eq 5, 3) := by decide +kernel
theorem dL_law_319 : decode cL_law 319 = .ok (.iconst 0, 1) := by decide +kernel
theorem dL_law_320 : decode cL_law 320 = .ok (.ireturn, 1) := by decide +kernel
theorem dL_law_321 : decode cL_law 321 = .ok (.goto 564, 3) := by decide +kernel
theorem dL_law_324 : decode cL_law 324 = .ok (.aload_n 1, 1) := by decide +kernel
theorem dL_law_325 : decode cL_law 325 = .ok (.aload_n 0, 1) := by decide +kernel
theorem dL_law_326 : decode cL_law 326 = .ok (.iload 4, 2) := by decide +kernel
theorem dL_law_328 : decode cL_law 328 = .ok (.iconst 1, 1) := by decide +kernel
theorem dL_law_329 : decode cL_law 329 = .ok (.iadd, 1) := by decide +kernel
theorem dL_law_330 : decode cL_law 330 = .ok (.iaload, 1) := by decide +kernel
theorem dL_law_331 : decode cL_law 331 = .ok (.aload_n 0, 1) := by decide +kernel
theorem dL_law_332 : decode cL_law 332 = .ok (.iload 4, 2) := by decide +kernel
theorem dL_law_334 : decode cL_law 334 = .ok (.iconst 2, 1) := by decide +kernel
theorem dL_law_335 : decode cL_law 335 = .ok (.iadd, 1) := by decide +kernel
theorem dL_law_336 : decode cL_law 336 = .ok (.iaload, 1) := by decide +kernel
theorem dL_law_337 : decode cL_law 337 = .ok (.invokestatic 65, 3) := by decide +kernel
theorem dL_law_340 : decode cL_law 340 = .ok (.istore 5, 2) := by decide +kernel
theorem dL_law_342 : decode cL_law 342 = .ok (.aload_n 2, 1) := by decide +kernel
theorem dL_law_343 : decode cL_law 343 = .ok (.aload_n 0, 1) := by decide +kernel
theorem dL_law_344 : decode cL_law 344 = .ok (.iload 4, 2) := by decide +kernel
theorem dL_law_346 : decode cL_law 346 = .ok (.iconst 1, 1) := by decide +kernel
theorem dL_law_347 : decode cL_law 347 = .ok (.iadd, 1) := by decide +kernel
theorem dL_law_348 : decode cL_law 348 = .ok (.iaload, 1) := by decide +kernel
theorem dL_law_349 : decode cL_law 349 = .ok (.aload_n 0, 1) := by decide +kernel
theorem dL_law_350 : decode cL_law 350 = .ok (.iload 4, 2) := by decide +kernel
theorem dL_law_352 : decode cL_law 352 = .ok (.iconst 2, 1) := by decide +kernel
theorem dL_law_353 : decode cL_law 353 = .ok (.iadd, 1) := by decide +kernel
theorem dL_law_354 : decode cL_law 354 = .ok (.iaload, 1) := by decide +kernel
theorem dL_law_355 : decode cL_law 355 = .ok (.invokevirtual 67, 3) := by decide +kernel
theorem dL_law_358 : decode cL_law 358 = .ok (.aload_n 2, 1) := by decide +kernel
theorem dL_law_359 : decode cL_law 359 = .ok (.invokevirtual 55, 3) := by decide +kernel
theorem dL_law_362 : decode cL_law 362 = .ok (.iload 5, 2) := by decide +kernel
theorem dL_law_364 : decode cL_law 364 = .ok (.if_icmp .eq 5, 3) := by decide +kernel
theorem dL_law_367 : decode cL_law 367 = .ok (.iconst 0, 1) := by decide +kernel
theorem dL_law_368 : decode cL_law 368 = .ok (.ireturn, 1) := by decide +kernel
theorem dL_law_369 : decode cL_law 369 = .ok (.goto 516, 3) := by decide +kernel
theorem dL_law_372 : decode cL_law 372 = .ok (.aload_n 1, 1) := by decide +kernel
theorem dL_law_373 : decode cL_law 373 = .ok (.aload_n 0, 1) := by decide +kernel
theorem dL_law_374 : decode cL_law 374 = .ok (.iload 4, 2) := by decide +kernel
theorem dL_law_376 : decode cL_law 376 = .ok (.iconst 1, 1) := by decide +kernel
theorem dL_law_377 : decode cL_law 377 = .ok (.iadd, 1) := by decide +kernel
theorem dL_law_378 : decode cL_law 378 = .ok (.iaload, 1) := by decide +kernel
theorem dL_law_379 : decode cL_law 379 = .ok (.aload_n 3, 1) := by decide +kernel
theorem dL_law_380 : decode cL_law 380 = .ok (.invokestatic 68, 3) := by decide +kernel
theorem dL_law_383 : decode cL_law 383 = .ok (.istore 5, 2) := by decide +kernel
theorem dL_law_385 : decode cL_law 385 = .ok (.aload_n 2, 1) := by decide +kernel
theorem dL_law_386 : decode cL_law 386 = .ok (.aload_n 0, 1) := by decide +kernel
theorem dL_law_387 : decode cL_law 387 = .ok (.iload 4, 2) := by decide +kernel
theorem dL_law_389 : decode cL_law 389 = .ok (.iconst 1, 1) := by decide +kernel
theorem dL_law_390 : decode cL_law 390 = .ok (.iadd, 1) := by decide +kernel
theorem dL_law_391 : decode cL_law 391 = .ok (.iaload, 1) := by decide +kernel
theorem dL_law_392 : decode cL_law 392 = .ok (.invokevirtual 70, 3) := by decide +kernel
theorem dL_law_395 : decode cL_law 395 = .ok (.istore 6, 2) := by decide +kernel
theorem dL_law_397 : decode cL_law 397 = .ok (.aload_n 2, 1) := by decide +kernel
theorem dL_law_398 : decode cL_law 398 = .ok (.invokevirtual 55, 3) := by decide +kernel
theorem dL_law_401 : decode cL_law 401 = .ok (.iload 5, 2) := by decide +kernel
theorem dL_law_403 : decode cL_law 403 = .ok (.if_icmp .eq 5, 3) := by decide +kernel
theorem dL_law_406 : decode cL_law 406 = .ok (.iconst 0, 1) := by decide +kernel
theorem dL_law_407 : decode cL_law 407 = .ok (.ireturn, 1) := by decide +kernel
theorem dL_law_408 : decode cL_law 408 = .ok (.iload 5, 2) := by decide +kernel
theorem dL_law_410 : decode cL_law 410 = .ok (.ifCond .ne 15, 3) := by decide +kernel
theorem dL_law_413 : decode cL_law 413 = .ok (.aload_n 3, 1) := by decide +kernel
theorem dL_law_414 : decode cL_law 414 = .ok (.iconst 0, 1) := by decide +kernel
theorem dL_law_415 : decode cL_law 415 = .ok (.laload, 1) := by decide +kernel
theorem dL_law_416 : decode cL_law 416 = .ok (.iload 6, 2) := by decide +kernel
theorem dL_law_418 : decode cL_law 418 = .ok (.i2l, 1) := by decide +kernel
theorem dL_law_419 : decode cL_law 419 = .ok (.lcmp, 1) := by decide +kernel
theorem dL_law_420 : decode cL_law 420 = .ok (.ifCond .eq 5, 3) := by decide +kernel
theorem dL_law_423 : decode cL_law 423 = .ok (.iconst 0, 1) := by decide +kernel
theorem dL_law_424 : decode cL_law 424 = .ok (.ireturn, 1) := by decide +kernel
theorem dL_law_425 : decode cL_law 425 = .ok (.goto 460, 3) := by decide +kernel
theorem dL_law_428 : decode cL_law 428 = .ok (.aload_n 1, 1) := by decide +kernel
theorem dL_law_429 : decode cL_law 429 = .ok (.invokevirtual 71, 3) := by decide +kernel
theorem dL_law_432 : decode cL_law 432 = .ok (.aload_n 2, 1) := by decide +kernel
theorem dL_law_433 : decode cL_law 433 = .ok (.invokevirtual 74, 3) := by decide +kernel
theorem dL_law_436 : decode cL_law 436 = .ok (.goto 449, 3) := by decide +kernel
theorem dL_law_439 : decode cL_law 439 = .ok (.aload_n 1, 1) := by decide +kernel
theorem dL_law_440 : decode cL_law 440 = .ok (.aload_n 0, 1) := by decide +kernel
theorem dL_law_441 : decode cL_law 441 = .ok (.iload 4, 2) := by decide +kernel
theorem dL_law_443 : decode cL_law 443 = .ok (.iconst 1, 1) := by decide +kernel
theorem dL_law_444 : decode cL_law 444 = .ok (.iadd, 1) := by decide +kernel
theorem dL_law_445 : decode cL_law 445 = .ok (.iaload, 1) := by decide +kernel
theorem dL_law_446 : decode cL_law 446 = .ok (.aload_n 3, 1) := by decide +kernel
theorem dL_law_447 : decode cL_law 447 = .ok (.invokestatic 75, 3) := by decide +kernel
theorem dL_law_450 : decode cL_law 450 = .ok (.istore 5, 2) := by decide +kernel
theorem dL_law_452 : decode cL_law 452 = .ok (.aload_n 2, 1) := by decide +kernel
theorem dL_law_453 : decode cL_law 453 = .ok (.aload_n 0, 1) := by decide +kernel
theorem dL_law_454 : decode cL_law 454 = .ok (.iload 4, 2) := by decide +kernel
theorem dL_law_456 : decode cL_law 456 = .ok (.iconst 1, 1) := by decide +kernel
theorem dL_law_457 : decode cL_law 457 = .ok (.iadd, 1) := by decide +kernel
theorem dL_law_458 : decode cL_law 458 = .ok (.iaload, 1) := by decide +kernel
theorem dL_law_459 : decode cL_law 459 = .ok (.invokevirtual 77, 3) := by decide +kernel
theorem dL_law_462 : decode cL_law 462 = .ok (.istore 6, 2) := by decide +kernel
theorem dL_law_464 : decode cL_law 464 = .ok (.aload_n 2, 1) := by decide +kernel
theorem dL_law_465 : decode cL_law 465 = .ok (.invokevirtual 55, 3) := by decide +kernel
theorem dL_law_468 : decode cL_law 468 = .ok (.iload 5, 2) := by decide +kernel
theorem dL_law_470 : decode cL_law 470 = .ok (.if_icmp .eq 5, 3) := by decide +kernel
theorem dL_law_473 : decode cL_law 473 = .ok (.iconst 0, 1) := by decide +kernel
theorem dL_law_474 : decode cL_law 474 = .ok (.ireturn, 1) := by decide +kernel
theorem dL_law_475 : decode cL_law 475 = .ok (.iload 5, 2) := by decide +kernel
theorem dL_law_477 : decode cL_law 477 = .ok (.ifCond .ne 15, 3) := by decide +kernel
theorem dL_law_480 : decode cL_law 480 = .ok (.aload_n 3, 1) := by decide +kernel
theorem dL_law_481 : decode cL_law 481 = .ok (.iconst 0, 1) := by decide +kernel
theorem dL_law_482 : decode cL_law 482 = .ok (.laload, 1) := by decide +kernel
theorem dL_law_483 : decode cL_law 483 = .ok (.iload 6, 2) := by decide +kernel
theorem dL_law_485 : decode cL_law 485 = .ok (.i2l, 1) := by decide +kernel
theorem dL_law_486 : decode cL_law 486 = .ok (.lcmp, 1) := by decide +kernel
theorem dL_law_487 : decode cL_law 487 = .ok (.ifCond .eq 5, 3) := by decide +kernel
theorem dL_law_490 : decode cL_law 490 = .ok (.iconst 0, 1) := by decide +kernel
theorem dL_law_491 : decode cL_law 491 = .ok (.ireturn, 1) := by decide +kernel
theorem dL_law_492 : decode cL_law 492 = .ok (.goto 393, 3) := by decide +kernel
theorem dL_law_495 : decode cL_law 495 = .ok (.aload_n 1, 1) := by decide +kernel
theorem dL_law_496 : decode cL_law 496 = .ok (.invokevirtual 78, 3) := by decide +kernel
theorem dL_law_499 : decode cL_law 499 = .ok (.aload_n 2, 1) := by decide +kernel
theorem dL_law_500 : decode cL_law 500 = .ok (.invokevirtual 81, 3) := by decide +kernel
theorem dL_law_503 : decode cL_law 503 = .ok (.if_icmp .eq 382, 3) := by decide +kernel
theorem dL_law_506 : decode cL_law 506 = .ok (.iconst 0, 1) := by decide +kernel
theorem dL_law_507 : decode cL_law 507 = .ok (.ireturn, 1) := by decide +kernel
theorem dL_law_508 : decode cL_law 508 = .ok (.aload_n 1, 1) := by decide +kernel
theorem dL_law_509 : decode cL_law 509 = .ok (.invokevirtual 82, 3) := by decide +kernel
theorem dL_law_512 : decode cL_law 512 = .ok (.aload_n 2, 1) := by decide +kernel
theorem dL_law_513 : decode cL_law 513 = .ok (.invokevirtual 85, 3) := by decide +kernel
theorem dL_law_516 : decode cL_law 516 = .ok (.if_icmp .eq 369, 3) := by decide +kernel
theorem dL_law_519 : decode cL_law 519 = .ok (.iconst 0, 1) := by decide +kernel
theorem dL_law_520 : decode cL_law 520 = .ok (.ireturn, 1) := by decide +kernel
theorem dL_law_521 : decode cL_law 521 = .ok (.aload_n 1, 1) := by decide +kernel
theorem dL_law_522 : decode cL_law 522 = .ok (.invokevirtual 86, 3) := by decide +kernel
theorem dL_law_525 : decode cL_law 525 = .ok (.aload_n 2, 1) := by decide +kernel
theorem dL_law_526 : decode cL_law 526 = .ok (.invokevirtual 89, 3) := by decide +kernel
theorem dL_law_529 : decode cL_law 529 = .ok (.if_icmp .eq 356, 3) := by decide +kernel
theorem dL_law_532 : decode cL_law 532 = .ok (.iconst 0, 1) := by decide +kernel
theorem dL_law_533 : decode cL_law 533 = .ok (.ireturn, 1) := by decide +kernel
theorem dL_law_534 : decode cL_law 534 = .ok (.aload_n 1, 1) := by decide +kernel
theorem dL_law_535 : decode cL_law 535 = .ok (.invokevirtual 90, 3) := by decide +kernel
theorem dL_law_538 : decode cL_law 538 = .ok (.aload_n 2, 1) := by decide +kernel
theorem dL_law_539 : decode cL_law 539 = .ok (.invokevirtual 93, 3) := by decide +kernel
theorem dL_law_542 : decode cL_law 542 = .ok (.if_icmp .eq 343, 3) := by decide +kernel
theorem dL_law_545 : decode cL_law 545 = .ok (.iconst 0, 1) := by decide +kernel
theorem dL_law_546 : decode cL_law 546 = .ok (.ireturn, 1) := by decide +kernel
theorem dL_law_547 : decode cL_law 547 = .ok (.aload_n 1, 1) := by decide +kernel
theorem dL_law_548 : decode cL_law 548 = .ok (.invokevirtual 94, 3) := by decide +kernel
theorem dL_law_551 : decode cL_law 551 = .ok (.aload_n 2, 1) := by decide +kernel
theorem dL_law_552 : decode cL_law 552 = .ok (.invokevirtual 97, 3) := by decide +kernel
theorem dL_law_555 : decode cL_law 555 = .ok (.if_icmp .eq 330, 3) := by decide +kernel
theorem dL_law_558 : decode cL_law 558 = .ok (.iconst 0, 1) := by decide +kernel
theorem dL_law_559 : decode cL_law 559 = .ok (.ireturn, 1) := by decide +kernel
theorem dL_law_560 : decode cL_law 560 = .ok (.aload_n 1, 1) := by decide +kernel
theorem dL_law_561 : decode cL_law 561 = .ok (.invokevirtual 98, 3) := by decide +kernel
theorem dL_law_564 : decode cL_law 564 = .ok (.aload_n 2, 1) := by decide +kernel
theorem dL_law_565 : decode cL_law 565 = .ok (.invokevirtual 101, 3) := by decide +kernel
theorem dL_law_568 : decode cL_law 568 = .ok (.if_icmp .eq 317, 3) := by decide +kernel
theorem dL_law_571 : decode cL_law 571 = .ok (.iconst 0, 1) := by decide +kernel
theorem dL_law_572 : decode cL_law 572 = .ok (.ireturn, 1) := by decide +kernel
theorem dL_law_573 : decode cL_law 573 = .ok (.aload_n 1, 1) := by decide +kernel
theorem dL_law_574 : decode cL_law 574 = .ok (.invokevirtual 102, 3) := by decide +kernel
theorem dL_law_577 : decode cL_law 577 = .ok (.aload_n 2, 1) := by decide +kernel
theorem dL_law_578 : decode cL_law 578 = .ok (.invokevirtual 105, 3) := by decide +kernel
theorem dL_law_581 : decode cL_law 581 = .ok (.if_icmp .eq 304, 3) := by decide +kernel
theorem dL_law_584 : decode cL_law 584 = .ok (.iconst 0, 1) := by decide +kernel
theorem dL_law_585 : decode cL_law 585 = .ok (.ireturn, 1) := by decide +kernel
theorem dL_law_586 : decode cL_law 586 = .ok (.aload_n 1, 1) := by decide +kernel
theorem dL_law_587 : decode cL_law 587 = .ok (.invokevirtual 106, 3) := by decide +kernel
theorem dL_law_590 : decode cL_law 590 = .ok (.aload_n 2, 1) := by decide +kernel
theorem dL_law_591 : decode cL_law 591 = .ok (.invokevirtual 109, 3) := by decide +kernel
theorem dL_law_594 : decode cL_law 594 = .ok (.if_icmp .eq 291, 3) := by decide +kernel
theorem dL_law_597 : decode cL_law 597 = .ok (.iconst 0, 1) := by decide +kernel
theorem dL_law_598 : decode cL_law 598 = .ok (.ireturn, 1) := by decide +kernel
theorem dL_law_599 : decode cL_law 599 = .ok (.aload_n 1, 1) := by decide +kernel
theorem dL_law_600 : decode cL_law 600 = .ok (.invokevirtual 110, 3) := by decide +kernel
theorem dL_law_603 : decode cL_law 603 = .ok (.aload_n 2, 1) := by decide +kernel
theorem dL_law_604 : decode cL_law 604 = .ok (.invokevirtual 113, 3) := by decide +kernel
theorem dL_law_607 : decode cL_law 607 = .ok (.if_icmp .eq 278, 3) := by decide +kernel
theorem dL_law_610 : decode cL_law 610 = .ok (.iconst 0, 1) := by decide +kernel
theorem dL_law_611 : decode cL_law 611 = .ok (.ireturn, 1) := by decide +kernel
theorem dL_law_612 : decode cL_law 612 = .ok (.aload_n 1, 1) := by decide +kernel
theorem dL_law_613 : decode cL_law 613 = .ok (.invokevirtual 114, 3) := by decide +kernel
theorem dL_law_616 : decode cL_law 616 = .ok (.aload_n 2, 1) := by decide +kernel
theorem dL_law_617 : decode cL_law 617 = .ok (.invokevirtual 117, 3) := by decide +kernel
theorem dL_law_620 : decode cL_law 620 = .ok (.if_icmp .eq 265, 3) := by decide +kernel
theorem dL_law_623 : decode cL_law 623 = .ok (.iconst 0, 1) := by decide +kernel
theorem dL_law_624 : decode cL_law 624 = .ok (.ireturn, 1) := by decide +kernel
theorem dL_law_625 : decode cL_law 625 = .ok (.aload_n 1, 1) := by decide +kernel
theorem dL_law_626 : decode cL_law 626 = .ok (.aload_n 0, 1) := by decide +kernel
theorem dL_law_627 : decode cL_law 627 = .ok (.iload 4, 2) := by decide +kernel
theorem dL_law_629 : decode cL_law 629 = .ok (.iconst 1, 1) := by decide +kernel
theorem dL_law_630 : decode cL_law 630 = .ok (.iadd, 1) := by decide +kernel
theorem dL_law_631 : decode cL_law 631 = .ok (.iaload, 1) := by decide +kernel
theorem dL_law_632 : decode cL_law 632 = .ok (.aload_n 3, 1) := by decide +kernel
theorem dL_law_633 : decode cL_law 633 = .ok (.invokestatic 118, 3) := by decide +kernel
theorem dL_law_636 : decode cL_law 636 = .ok (.istore 5, 2) := by decide +kernel
theorem dL_law_638 : decode cL_law 638 = .ok (.aload_n 2, 1) := by decide +kernel
theorem dL_law_639 : decode cL_law 639 = .ok (.aload_n 0, 1) := by decide +kernel
theorem dL_law_640 : decode cL_law 640 = .ok (.iload 4, 2) := by decide +kernel
theorem dL_law_642 : decode cL_law 642 = .ok (.iconst 1, 1) := by decide +kernel
theorem dL_law_643 : decode cL_law 643 = .ok (.iadd, 1) := by decide +kernel
theorem dL_law_644 : decode cL_law 644 = .ok (.iaload, 1) := by decide +kernel
theorem dL_law_645 : decode cL_law 645 = .ok (.invokevirtual 120, 3) := by decide +kernel
theorem dL_law_648 : decode cL_law 648 = .ok (.istore 6, 2) := by decide +kernel
theorem dL_law_650 : decode cL_law 650 = .ok (.aload_n 2, 1) := by decide +kernel
theorem dL_law_651 : decode cL_law 651 = .ok (.invokevirtual 55, 3) := by decide +kernel
theorem dL_law_654 : decode cL_law 654 = .ok (.iload 5, 2) := by decide +kernel
theorem dL_law_656 : decode cL_law 656 = .ok (.if_icmp .eq 5, 3) := by decide +kernel
theorem dL_law_659 : decode cL_law 659 = .ok (.iconst 0, 1) := by decide +kernel
theorem dL_law_660 : decode cL_law 660 = .ok (.ireturn, 1) := by decide +kernel
theorem dL_law_661 : decode cL_law 661 = .ok (.iload 5, 2) := by decide +kernel
theorem dL_law_663 : decode cL_law 663 = .ok (.ifCond .ne 15, 3) := by decide +kernel
theorem dL_law_666 : decode cL_law 666 = .ok (.aload_n 3, 1) := by decide +kernel
theorem dL_law_667 : decode cL_law 667 = .ok (.iconst 0, 1) := by decide +kernel
theorem dL_law_668 : decode cL_law 668 = .ok (.laload, 1) := by decide +kernel
theorem dL_law_669 : decode cL_law 669 = .ok (.iload 6, 2) := by decide +kernel
theorem dL_law_671 : decode cL_law 671 = .ok (.i2l, 1) := by decide +kernel
theorem dL_law_672 : decode cL_law 672 = .ok (.lcmp, 1) := by decide +kernel
theorem dL_law_673 : decode cL_law 673 = .ok (.ifCond .eq 5, 3) := by decide +kernel
theorem dL_law_676 : decode cL_law 676 = .ok (.iconst 0, 1) := by decide +kernel
theorem dL_law_677 : decode cL_law 677 = .ok (.ireturn, 1) := by decide +kernel
theorem dL_law_678 : decode cL_law 678 = .ok (.goto 207, 3) := by decide +kernel
theorem dL_law_681 : decode cL_law 681 = .ok (.aload_n 1, 1) := by decide +kernel
theorem dL_law_682 : decode cL_law 682 = .ok (.aload_n 3, 1) := by decide +kernel
theorem dL_law_683 : decode cL_law 683 = .ok (.invokestatic 121, 3) := by decide +kernel
theorem dL_law_686 : decode cL_law 686 = .ok (.istore 5, 2) := by decide +kernel
theorem dL_law_688 : decode cL_law 688 = .ok (.aload_n 2, 1) := by decide +kernel
theorem dL_law_689 : decode cL_law 689 = .ok (.invokevirtual 124, 3) := by decide +kernel
theorem dL_law_692 : decode cL_law 692 = .ok (.istore 6, 2) := by decide +kernel
theorem dL_law_694 : decode cL_law 694 = .ok (.aload_n 2, 1) := by decide +kernel
theorem dL_law_695 : decode cL_law 695 = .ok (.invokevirtual 55, 3) := by decide +kernel
theorem dL_law_698 : decode cL_law 698 = .ok (.iload 5, 2) := by decide +kernel
theorem dL_law_700 : decode cL_law 700 = .ok (.if_icmp .eq 5, 3) := by decide +kernel
theorem dL_law_703 : decode cL_law 703 = .ok (.iconst 0, 1) := by decide +kernel
theorem dL_law_704 : decode cL_law 704 = .ok (.ireturn, 1) := by decide +kernel
theorem dL_law_705 : decode cL_law 705 = .ok (.iload 5, 2) := by decide +kernel
end
section
theorem dL_law_707 : decode cL_law 707 = .ok (.ifCond .ne 15, 3) := by decide +kernel
theorem dL_law_710 : decode cL_law 710 = .ok (.aload_n 3, 1) := by decide +kernel
theorem dL_law_711 : decode cL_law 711 = .ok (.iconst 0, 1) := by decide +kernel
theorem dL_law_712 : decode cL_law 712 = .ok (.laload, 1) := by decide +kernel
theorem dL_law_713 : decode cL_law 713 = .ok (.iload 6, 2) := by decide +kernel
theorem dL_law_715 : decode cL_law 715 = .ok (.i2l, 1) := by decide +kernel
theorem dL_law_716 : decode cL_law 716 = .ok (.lcmp, 1) := by decide +kernel
theorem dL_law_717 : decode cL_law 717 = .ok (.ifCond .eq 5, 3) := by decide +kernel
theorem dL_law_720 : decode cL_law 720 = .ok (.iconst 0, 1) := by decide +kernel
theorem dL_law_721 : decode cL_law 721 = .ok (.ireturn, 1) := by decide +kernel
theorem dL_law_722 : decode cL_law 722 = .ok (.goto 163, 3) := by decide +kernel
theorem dL_law_725 : decode cL_law 725 = .ok (.aload_n 1, 1) := by decide +kernel
theorem dL_law_726 : decode cL_law 726 = .ok (.invokevirtual 125, 3) := by decide +kernel
theorem dL_law_729 : decode cL_law 729 = .ok (.aload_n 2, 1) := by decide +kernel
theorem dL_law_730 : decode cL_law 730 = .ok (.invokevirtual 128, 3) := by decide +kernel
theorem dL_law_733 : decode cL_law 733 = .ok (.if_icmp .eq 152, 3) := by decide +kernel
theorem dL_law_736 : decode cL_law 736 = .ok (.iconst 0, 1) := by decide +kernel
theorem dL_law_737 : decode cL_law 737 = .ok (.ireturn, 1) := by decide +kernel
theorem dL_law_738 : decode cL_law 738 = .ok (.aload_n 1, 1) := by decide +kernel
theorem dL_law_739 : decode cL_law 739 = .ok (.invokevirtual 129, 3) := by decide +kernel
theorem dL_law_742 : decode cL_law 742 = .ok (.aload_n 2, 1) := by decide +kernel
theorem dL_law_743 : decode cL_law 743 = .ok (.invokevirtual 132, 3) := by decide +kernel
theorem dL_law_746 : decode cL_law 746 = .ok (.if_icmp .eq 139, 3) := by decide +kernel
theorem dL_law_749 : decode cL_law 749 = .ok (.iconst 0, 1) := by decide +kernel
theorem dL_law_750 : decode cL_law 750 = .ok (.ireturn, 1) := by decide +kernel
theorem dL_law_751 : decode cL_law 751 = .ok (.aload_n 1, 1) := by decide +kernel
theorem dL_law_752 : decode cL_law 752 = .ok (.invokevirtual 133, 3) := by decide +kernel
theorem dL_law_755 : decode cL_law 755 = .ok (.aload_n 2, 1) := by decide +kernel
theorem dL_law_756 : decode cL_law 756 = .ok (.invokevirtual 137, 3) := by decide +kernel
theorem dL_law_759 : decode cL_law 759 = .ok (.if_icmp .eq 126, 3) := by decide +kernel
theorem dL_law_762 : decode cL_law 762 = .ok (.iconst 0, 1) := by decide +kernel
theorem dL_law_763 : decode cL_law 763 = .ok (.ireturn, 1) := by decide +kernel
theorem dL_law_764 : decode cL_law 764 = .ok (.aload_n 1, 1) := by decide +kernel
theorem dL_law_765 : decode cL_law 765 = .ok (.invokevirtual 138, 3) := by decide +kernel
theorem dL_law_768 : decode cL_law 768 = .ok (.aload_n 2, 1) := by decide +kernel
theorem dL_law_769 : decode cL_law 769 = .ok (.invokevirtual 141, 3) := by decide +kernel
theorem dL_law_772 : decode cL_law 772 = .ok (.if_icmp .eq 113, 3) := by decide +kernel
theorem dL_law_775 : decode cL_law 775 = .ok (.iconst 0, 1) := by decide +kernel
theorem dL_law_776 : decode cL_law 776 = .ok (.ireturn, 1) := by decide +kernel
theorem dL_law_777 : decode cL_law 777 = .ok (.aload_n 1, 1) := by decide +kernel
theorem dL_law_778 : decode cL_law 778 = .ok (.invokevirtual 142, 3) := by decide +kernel
theorem dL_law_781 : decode cL_law 781 = .ok (.aload_n 2, 1) := by decide +kernel
theorem dL_law_782 : decode cL_law 782 = .ok (.invokevirtual 145, 3) := by decide +kernel
theorem dL_law_785 : decode cL_law 785 = .ok (.if_icmp .eq 100, 3) := by decide +kernel
theorem dL_law_788 : decode cL_law 788 = .ok (.iconst 0, 1) := by decide +kernel
theorem dL_law_789 : decode cL_law 789 = .ok (.ireturn, 1) := by decide +kernel
theorem dL_law_790 : decode cL_law 790 = .ok (.aload_n 1, 1) := by decide +kernel
theorem dL_law_791 : decode cL_law 791 = .ok (.invokevirtual 146, 3) := by decide +kernel
theorem dL_law_794 : decode cL_law 794 = .ok (.aload_n 2, 1) := by decide +kernel
theorem dL_law_795 : decode cL_law 795 = .ok (.invokevirtual 149, 3) := by decide +kernel
theorem dL_law_798 : decode cL_law 798 = .ok (.if_icmp .eq 87, 3) := by decide +kernel
theorem dL_law_801 : decode cL_law 801 = .ok (.iconst 0, 1) := by decide +kernel
theorem dL_law_802 : decode cL_law 802 = .ok (.ireturn, 1) := by decide +kernel
theorem dL_law_803 : decode cL_law 803 = .ok (.aload_n 1, 1) := by decide +kernel
theorem dL_law_804 : decode cL_law 804 = .ok (.invokevirtual 150, 3) := by decide +kernel
theorem dL_law_807 : decode cL_law 807 = .ok (.aload_n 2, 1) := by decide +kernel
theorem dL_law_808 : decode cL_law 808 = .ok (.invokevirtual 153, 3) := by decide +kernel
theorem dL_law_811 : decode cL_law 811 = .ok (.if_icmp .eq 74, 3) := by decide +kernel
theorem dL_law_814 : decode cL_law 814 = .ok (.iconst 0, 1) := by decide +kernel
theorem dL_law_815 : decode cL_law 815 = .ok (.ireturn, 1) := by decide +kernel
theorem dL_law_816 : decode cL_law 816 = .ok (.aload_n 1, 1) := by decide +kernel
theorem dL_law_817 : decode cL_law 817 = .ok (.invokevirtual 154, 3) := by decide +kernel
theorem dL_law_820 : decode cL_law 820 = .ok (.aload_n 2, 1) := by decide +kernel
theorem dL_law_821 : decode cL_law 821 = .ok (.invokevirtual 157, 3) := by decide +kernel
theorem dL_law_824 : decode cL_law 824 = .ok (.if_icmp .eq 61, 3) := by decide +kernel
theorem dL_law_827 : decode cL_law 827 = .ok (.iconst 0, 1) := by decide +kernel
theorem dL_law_828 : decode cL_law 828 = .ok (.ireturn, 1) := by decide +kernel
theorem dL_law_829 : decode cL_law 829 = .ok (.aload_n 1, 1) := by decide +kernel
theorem dL_law_830 : decode cL_law 830 = .ok (.aload_n 0, 1) := by decide +kernel
theorem dL_law_831 : decode cL_law 831 = .ok (.iload 4, 2) := by decide +kernel
theorem dL_law_833 : decode cL_law 833 = .ok (.iconst 1, 1) := by decide +kernel
theorem dL_law_834 : decode cL_law 834 = .ok (.iadd, 1) := by decide +kernel
theorem dL_law_835 : decode cL_law 835 = .ok (.iaload, 1) := by decide +kernel
theorem dL_law_836 : decode cL_law 836 = .ok (.aload_n 3, 1) := by decide +kernel
theorem dL_law_837 : decode cL_law 837 = .ok (.invokestatic 158, 3) := by decide +kernel
theorem dL_law_840 : decode cL_law 840 = .ok (.istore 5, 2) := by decide +kernel
theorem dL_law_842 : decode cL_law 842 = .ok (.aload_n 2, 1) := by decide +kernel
theorem dL_law_843 : decode cL_law 843 = .ok (.aload_n 0, 1) := by decide +kernel
theorem dL_law_844 : decode cL_law 844 = .ok (.iload 4, 2) := by decide +kernel
theorem dL_law_846 : decode cL_law 846 = .ok (.iconst 1, 1) := by decide +kernel
theorem dL_law_847 : decode cL_law 847 = .ok (.iadd, 1) := by decide +kernel
theorem dL_law_848 : decode cL_law 848 = .ok (.iaload, 1) := by decide +kernel
theorem dL_law_849 : decode cL_law 849 = .ok (.invokevirtual 160, 3) := by decide +kernel
theorem dL_law_852 : decode cL_law 852 = .ok (.istore 6, 2) := by decide +kernel
theorem dL_law_854 : decode cL_law 854 = .ok (.aload_n 2, 1) := by decide +kernel
theorem dL_law_855 : decode cL_law 855 = .ok (.invokevirtual 55, 3) := by decide +kernel
theorem dL_law_858 : decode cL_law 858 = .ok (.iload 5, 2) := by decide +kernel
theorem dL_law_860 : decode cL_law 860 = .ok (.if_icmp .eq 5, 3) := by decide +kernel
theorem dL_law_863 : decode cL_law 863 = .ok (.iconst 0, 1) := by decide +kernel
theorem dL_law_864 : decode cL_law 864 = .ok (.ireturn, 1) := by decide +kernel
theorem dL_law_865 : decode cL_law 865 = .ok (.iload 5, 2) := by decide +kernel
theorem dL_law_867 : decode cL_law 867 = .ok (.ifCond .ne 15, 3) := by decide +kernel
theorem dL_law_870 : decode cL_law 870 = .ok (.aload_n 3, 1) := by decide +kernel
theorem dL_law_871 : decode cL_law 871 = .ok (.iconst 0, 1) := by decide +kernel
theorem dL_law_872 : decode cL_law 872 = .ok (.laload, 1) := by decide +kernel
theorem dL_law_873 : decode cL_law 873 = .ok (.iload 6, 2) := by decide +kernel
theorem dL_law_875 : decode cL_law 875 = .ok (.i2l, 1) := by decide +kernel
theorem dL_law_876 : decode cL_law 876 = .ok (.lcmp, 1) := by decide +kernel
theorem dL_law_877 : decode cL_law 877 = .ok (.ifCond .eq 5, 3) := by decide +kernel
theorem dL_law_880 : decode cL_law 880 = .ok (.iconst 0, 1) := by decide +kernel
theorem dL_law_881 : decode cL_law 881 = .ok (.ireturn, 1) := by decide +kernel
theorem dL_law_882 : decode cL_law 882 = .ok (.goto 3, 3) := by decide +kernel
theorem dL_law_885 : decode cL_law 885 = .ok (.iinc 4 3, 3) := by decide +kernel
theorem dL_law_888 : decode cL_law 888 = .ok (.goto (-865), 3) := by decide +kernel
theorem dL_law_891 : decode cL_law 891 = .ok (.iconst 1, 1) := by decide +kernel
theorem dL_law_892 : decode cL_law 892 = .ok (.ireturn, 1) := by decide +kernel
abbrev vwCl : List vw_C := [(RX0, TX0, 6), (RX1, TX1, 2), (RX2, TX2, 2), (RX3, TX3, 1), (RX4, TX4, 5), (RX5, TX5, 1), (RX6, TX6, 7), (RX7, TX7, 4), (RX8, TX8, 4), (RX9, TX9, 7), (RX10, TX10, 10), (RX11, TX11, 37)]
end
section
theorem zz_look : True := trivial
end
