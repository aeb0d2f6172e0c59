/-! THE CLAIM OUT OF ONE WALK OF THE LAW'S BODY. Your part is whole_start (and what it stands on); all else here is the same for every law, but numbers. -/
def R_law : String := "PhaselockLaw"
def lw_P (b : Addr) (xs : List Int32) (args : Array Value) (s : State) : Prop := args = #[.ref b] ∧ s.IntsAt b xs ∧ xs.length ≤ 1536 ∧ (Jvm.Cond.and given_1 narrow_1).before args s = true
def lw_Q (_ : Array Value) (s : State) (o : Outcome) (t : State) : Prop := o = .returned (some (.int 1)) ∧ Framed s o t [] 1052 8921
def lw_Z (below : List Frame) (a : Array Value) (s : State) : State → Prop := fun t => ∃ o, t.status = .running ∧ Ended t below o ∧ lw_Q a s o t
/-- the law's own end, with 1 on the stack, nothing written that was there before, its room as the claim has it -/
theorem lw_ret {p : Program} {l : Launch} {e : Env} {s : State} {m : MethodId} {below : List Frame} {meth : Method} {c : Code} {b : Nat} (hx : p.tables.exec = Jvm.exec) (hb : c.code = code) (hr : meth.sig.returnType = ret) (hlocks : meth.locks = false) {pc : Nat} {H : Heap} {ls : Array Slot} (hdg : decode code pc = .ok (.ireturn, 1)) : W p l e room_1 s m #[Value.ref b] below meth c H [] 1052 8921 (lw_Z below #[Value.ref b] s) (F0 m pc ls [.int 1]) := by
  intro T hT X
  obtain ⟨fs, hret, hrun, hended, hW, hframe⟩ := X.leave (v := some (.int 1)) (hlocks := hlocks) (fun h => by rw [hr] at h; cases h)
  have hmeth' : T.vm.method? m = some meth := X.method'
  refine ⟨T.setFrames fs, ?_, .returned (some (.int 1)), hrun, hended, rfl, ⟨_, rfl⟩, hW, hframe⟩
  jvm_step X.here [X.here.top, hx, hb, hdg, hmeth', hr, ret, narrow_b1]
  (try refine ⟨rfl, ?_⟩); (try refine ⟨rfl, ?_⟩)
  first | (intro acts; rw [hret _ acts rfl rfl rfl]) | rw [hret _ _ rfl rfl rfl]
  exact Steps.refl _
/-- what holds at the law's entry: the machine, the code, the tables' words (any of lw_tbl by 'hts w (by decide +kernel)'), the script of L ints xs at the cell b, what the Statement gives of the start (any of its parts by flat_of_before) -/
def lw_At (p : Program) (s : State) (m : MethodId) (meth : Method) (c : Code) (b L : Nat) (xs : Nat → Int32) : Prop :=
  p.tables.exec = Jvm.exec ∧ c.code = code ∧ meth.sig.returnType = ret ∧ c.maxLocals = 7 ∧ s.vm.findClass R_law = some m.cls ∧ (∀ w ∈ lw_tbl, w.before #[Value.ref b] s = true) ∧ va_X b L xs s s.heap ∧ b < s.heap.size ∧ meth.locks = false ∧ (Jvm.Cond.and given_1 narrow_1).before #[Value.ref b] s = true
-- ===== YOUR PART BEGINS =====
theorem Rel_M {n : Nat} {C M : St} (h : Rel n C M) : okM n M := by
  obtain ⟨X, _, hi⟩ := h
  exact hi.1
theorem Rel_J {n : Nat} {C M : St} (h : Rel n C M) : okJ C := by
  obtain ⟨X, rfl, hi⟩ := h
  unfold okJ
  rw [mix_rd (k := 3) rfl]
  exact hi.1.1
theorem Rel_up {n n2 : Nat} {C M : St} (h : Rel n C M) (q : n ≤ n2) : Rel n2 C M := by
  obtain ⟨X, e, hi⟩ := h
  exact ⟨X, e, Inv_up hi q⟩
theorem adA {A : Nat → Prop} {ws : va_W} {as : List Nat} (h : va_D A ws) (e : ws.map (fun q => q.1) = as) : ∀ q : Nat, q ∈ as → A q := fun q hq => by
  rw [← e] at hq
  obtain ⟨x, hx, rfl⟩ := List.mem_map.mp hq
  obtain ⟨i, hi⟩ := List.getElem?_of_mem hx
  exact h.2 i x hi
theorem Ans_fin {n : Nat} {C M C' M' u : St} {x r r' : Int32} {w : Int64} (h : Ans n C M C' M' x r r') (h1 : x = 1 → u = C) (h0 : x = 0 → u = C' ∧ w = Int32.toInt64 r) : M'.1 0 = x ∧ Rel n u M' ∧ (x = 0 → w = Int32.toInt64 r') := by
  obtain ⟨ht, hc⟩ := h
  refine ⟨ht, ?_, fun z => ?_⟩
  · rcases hc with ⟨z, _, hR⟩ | ⟨z, hR⟩
    · rw [(h0 z).1]; exact hR
    · rw [h1 z]; exact hR
  · rcases hc with ⟨_, hr, _⟩ | ⟨z2, _⟩
    · rw [(h0 z).2, hr]
    · exact absurd (z.symm.trans z2) (by decide)
theorem lg_same {x y : Int64} (h : x = y) : lg_cmp x y = 0 := by
  subst h
  simp [lg_cmp]
theorem apN {α : Type} (X C : List α) : X ++ (C ++ []) = X ++ C := by rw [List.append_nil]
def lwA (s : State) : Nat → Prop := fun q => s.heap.size ≤ q
abbrev lwT (cZ cI cJ cZ2 cI2 : ClassId) : List (ClassId × FieldType) := [(cZ, .boolean), (cI, .int), (cJ, .long), (cZ2, .boolean), (cI2, .int)]
def lwF (p : Program) (l : Launch) (s : State) (m : MethodId) (meth : Method) (c : Code) (D : va_G) (b L : Nat) (xs : Nat → Int32) (cZ cI cJ cZ2 cI2 : ClassId) : Prop := lw_At p s m meth c b L xs ∧ L ≤ 1536 ∧ l.stackTraces = false ∧ nY s ∧ xZ (lwA s) s s.heap ∧ va_K D vwCl (lwT cZ cI cJ cZ2 cI2) s
def lwV (s : State) (D : va_G) (a a2 : Nat → Nat) (cZ cI cJ cZ2 cI2 : ClassId) (o : Nat) (C M : St) (fo : Nat → Int64) (H : Heap) (locs : List Loc) : Prop := va_P D vwCl (wM a2 cZ2 cI2 M ++ (wP a cZ cI C ++ wO o cJ fo)) H ∧ va_D (lwA s) (wM a2 cZ2 cI2 M ++ (wP a cZ cI C ++ wO o cJ fo)) ∧ va_S (lwA s) s.heap H locs
def lwN (p : Program) (l : Launch) (e : Env) (s : State) (m : MethodId) (below : List Frame) (meth : Method) (c : Code) (D : va_G) (b : Nat) (a a2 : Nat → Nat) (cZ cI cJ cZ2 cI2 : ClassId) (o k : Nat) : Prop := ∀ (C M : St) (fo : Nat → Int64) (H : Heap) (locs : List Loc) (ls : Array Slot), Rel (800 * (k + 1)) C M → lwV s D a a2 cZ cI cJ cZ2 cI2 o C M fo H locs → lv_has ls 7 [(4, .int (nI (3 * k))), (0, .ref b), (1, .ref (a 0)), (2, .ref (a2 0)), (3, .ref o)] → W p l e room_1 s m #[Value.ref b] below meth c H locs (17 + (k + 1)) (663 + 6 * (k + 1)) (lw_Z below #[Value.ref b] s) (F0 m 885 ls [])
