/-- what a throw needs of the tables besides: the casts of the three exceptions, the texts -/
def nY (U : State) : Prop := nP U ∧ va_Nw (.castable "java/lang/IllegalArgumentException" "java/lang/IllegalArgumentException") U ∧ va_Nw (.castable "java/lang/IndexOutOfBoundsException" "java/lang/IndexOutOfBoundsException") U ∧ va_Nw (.castable "java/lang/IllegalStateException" "java/lang/IllegalStateException") U ∧ va_Nw (.declares ⟨"java/lang/RuntimeException", "<init>", "(Ljava/lang/String;)V"⟩) U ∧ va_Nw (.declares ⟨"java/lang/Exception", "<init>", "(Ljava/lang/String;)V"⟩) U ∧ va_Nw (.declares ⟨"java/lang/Throwable", "<init>", "(Ljava/lang/String;)V"⟩) U ∧ (∃ sa, vk_R RX10 85 "offset is out of range" sa U) ∧ (∃ sa, vk_R RX10 94 "jitter is out of range" sa U) ∧ (∃ sa, vk_R RX10 96 "seed is out of range" sa U) ∧ (∃ sa, vk_R RX10 105 "detector is out of range" sa U) ∧ (∃ sa, vk_R RX10 110 "p is out of range" sa U) ∧ (∃ sa, vk_R RX10 112 "i is out of range" sa U) ∧ (∃ sa, vk_R RX10 121 "phase is out of range" sa U) ∧ (∃ sa, vk_R RX10 132 "ticks is out of range" sa U) ∧ (∃ sa, vk_R RX10 163 "there is no such bit" sa U) ∧ (∃ sa, vk_R RX10 173 "there was no data strobe" sa U) ∧ (∃ sa, vk_R RX10 204 "remainder is out of range" sa U)
theorem sy_85 {U : State} (h : nY U) : ∃ sa, vk_R RX10 85 "offset is out of range" sa U := h.2.2.2.2.2.2.2.1
theorem sy_94 {U : State} (h : nY U) : ∃ sa, vk_R RX10 94 "jitter is out of range" sa U := h.2.2.2.2.2.2.2.2.1
theorem sy_96 {U : State} (h : nY U) : ∃ sa, vk_R RX10 96 "seed is out of range" sa U := h.2.2.2.2.2.2.2.2.2.1
theorem sy_105 {U : State} (h : nY U) : ∃ sa, vk_R RX10 105 "detector is out of range" sa U := h.2.2.2.2.2.2.2.2.2.2.1
theorem sy_110 {U : State} (h : nY U) : ∃ sa, vk_R RX10 110 "p is out of range" sa U := h.2.2.2.2.2.2.2.2.2.2.2.1
theorem sy_112 {U : State} (h : nY U) : ∃ sa, vk_R RX10 112 "i is out of range" sa U := h.2.2.2.2.2.2.2.2.2.2.2.2.1
theorem sy_121 {U : State} (h : nY U) : ∃ sa, vk_R RX10 121 "phase is out of range" sa U := h.2.2.2.2.2.2.2.2.2.2.2.2.2.1
theorem sy_132 {U : State} (h : nY U) : ∃ sa, vk_R RX10 132 "ticks is out of range" sa U := h.2.2.2.2.2.2.2.2.2.2.2.2.2.2.1
theorem sy_163 {U : State} (h : nY U) : ∃ sa, vk_R RX10 163 "there is no such bit" sa U := h.2.2.2.2.2.2.2.2.2.2.2.2.2.2.2.1
theorem sy_173 {U : State} (h : nY U) : ∃ sa, vk_R RX10 173 "there was no data strobe" sa U := h.2.2.2.2.2.2.2.2.2.2.2.2.2.2.2.2.1
theorem sy_204 {U : State} (h : nY U) : ∃ sa, vk_R RX10 204 "remainder is out of range" sa U := h.2.2.2.2.2.2.2.2.2.2.2.2.2.2.2.2.2
theorem ey_same {own tx : String} {k : Nat} {u U : State} (hv : u.vm = U.vm) (h : ∃ sa, vk_R own k tx sa u) : ∃ sa, vk_R own k tx sa U := h.elim fun sa q => ⟨sa, vk_R.same hv.symm q⟩
theorem ey_warm {own tx : String} {k : Nat} {s U : State} (hW : s.WarmedH U.vm) (h : ∃ sa, vk_R own k tx sa s) : ∃ sa, vk_R own k tx sa U := h.elim fun sa q => ⟨sa, vk_R.warm hW q⟩
theorem okN_Y : okN nY := by
  refine ⟨fun u U h q => ?_, fun s U hW q => ?_⟩
  · obtain ⟨a0, a1, a2, a3, d0, d1, d2, b0, b1, b2, b3, b4, b5, b6, b7, b8, b9, b10⟩ := q
    exact ⟨okN_P.1 u U h a0, va_Nw.same rfl h a1, va_Nw.same rfl h a2, va_Nw.same rfl h a3, va_Nw.same rfl h d0, va_Nw.same rfl h d1, va_Nw.same rfl h d2, ey_same h b0, ey_same h b1, ey_same h b2, ey_same h b3, ey_same h b4, ey_same h b5, ey_same h b6, ey_same h b7, ey_same h b8, ey_same h b9, ey_same h b10⟩
  · obtain ⟨a0, a1, a2, a3, d0, d1, d2, b0, b1, b2, b3, b4, b5, b6, b7, b8, b9, b10⟩ := q
    exact ⟨okN_P.2 s U hW a0, va_Nw.warmC hW a1, va_Nw.warmC hW a2, va_Nw.warmC hW a3, va_Nw.warmD hW d0, va_Nw.warmD hW d1, va_Nw.warmD hW d2, ey_warm hW b0, ey_warm hW b1, ey_warm hW b2, ey_warm hW b3, ey_warm hW b4, ey_warm hW b5, ey_warm hW b6, ey_warm hW b7, ey_warm hW b8, ey_warm hW b9, ey_warm hW b10⟩
def pY (D : va_G) (T : List (ClassId × FieldType)) (ws : va_W) (sz : Nat) (as : List Nat) (U : State) : Prop := pW D T ws sz nY U ∧ xZ (aA as sz) U U.heap
theorem blY {av : List Value} {D : va_G} {T : List (ClassId × FieldType)} {ws : va_W} {sz : Nat} {as : List Nat} : FrameBlind (va_Pc av (pY D T ws sz as)) := fun a U g mk q => by
  obtain ⟨q0, qW, qZ⟩ := q
  exact ⟨q0, (blW (av := av) okN_Y a U g mk ⟨q0, qW⟩).2, xZ.moved (u := U) (U := U.calling g mk a) (Vm.Alike.refl U.vm) qZ⟩
theorem preY {av : List Value} {D : va_G} {T : List (ClassId × FieldType)} {ws : va_W} {as : List Nat} {A : Nat → Prop} {H : Heap} {s : State} {locs : List Loc} (hP : va_P D vwCl ws H) (hK : va_K D vwCl T s) (hD : va_D A ws) (n : nY s) (hZ : xZ A s s.heap) (hS : va_S A s.heap H locs) (hf : ∀ q : Nat, aA as H.size q → A q) : ∀ U : State, U.heap = H → s.WarmedH U.vm → va_Pc av (pY D T ws H.size as) av.toArray U := fun U hU hW => ⟨rfl, (preW (av := av) hP hK hD okN_Y n U hU hW).2, by
  rw [hU]
  exact ((hZ.kept (fun a h1 h2 => hS.2.1 a h1 h2)).moved hW.alike).narrow hf⟩
