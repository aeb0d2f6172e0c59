def rm_X9_init : Room := { frames := 1, cells := 0, slots := 0, locals := 12 }
set_option maxRecDepth 100000 in
set_option maxHeartbeats 4000000 in
theorem k_X9_init (l : Launch) (D : va_G) (h0 sz : Nat) : Met l yX9_init wsX9_init rm_X9_init (va_Pc [.ref h0] (pW D [] [(h0, .inr (9, [.int 0, .int 0, .int 0, .long 0, .int 0, .int 0, .int 0]))] sz nT)) (va_Qv (fun _ : Unit => True) (fun u t => va_P D vwCl [(h0, .inr (9, [.int 0, .int 4096, .int 0, .long 1, .int 0, .int 1, .int 127]))] t.heap ∧ va_K D vwCl [] t ∧ va_D (va_A [(h0, .inr (9, [.int 0, .int 0, .int 0, .long 0, .int 0, .int 0, .int 0]))] sz) [(h0, .inr (9, [.int 0, .int 4096, .int 0, .long 1, .int 0, .int 1, .int 127]))]) (va_A [(h0, .inr (9, [.int 0, .int 0, .int 0, .long 0, .int 0, .int 0, .int 0]))] sz)) 0 0 (va_A [(h0, .inr (9, [.int 0, .int 0, .int 0, .long 0, .int 0, .int 0, .int 0]))] sz) := by
  refine Met.ofW (cc := cX9_init) (maxL := 1) (ret := none) (by decide) rfl ?_
  intro p e s m args below meth c s₁ B hml hv
  obtain ⟨rfl, hsz, hP, hK, hD9, hN⟩ := hv
  have hx := B.exec
  have hb := B.bytes
  have hr := B.returns
  have hts := atoms_spec (ws := wsX9_init) B.pre
  have hown : s.vm.findClass RX9 = some m.cls := findClass_of_methodNamed B.named
  have hlocks := B.notSynchronized
  have hin : meth.name = "<init>" := (name_of_methodNamed B.named B.method).1
  subst hsz
  have hD := hD9.self (sz := s.heap.size)
  generalize hAe : va_A [(h0, .inr (9, [.int 0, .int 0, .int 0, .long 0, .int 0, .int 0, .int 0]))] s.heap.size = A at hD ⊢
  have hA : ∀ q : Nat, s.heap.size ≤ q → A q := fun q h => by rw [← hAe]; exact Or.inr h
  have hS : va_S A s.heap s.heap [] := va_S.rf
  have hP : va_P D vwCl [(h0, .inr (9, [.int 0, .int 0, .int 0, .long 0, .int 0, .int 0, .int 0]))] s.heap := hP
  have hl := lv_entry ([.ref h0]) (n := 1) (Nat.le_of_ble_eq_true rfl)
  rw [lg_entry_eq]
  generalize (lg_sl ([.ref h0]) ++ List.replicate (1 - (lg_sl ([.ref h0])).length) Slot.unset).toArray = ls at hl ⊢
  have hl : lv_has ls 1 [(0, .ref h0)] := hl
  clear hD9 B
  refine lv_aload_n hx hb dX9_init_0 rfl (lv_at hl 0 rfl) ?_
  refine W.objInit hx hb hown (hts (.methodLink RX9 3 objectInit) (List.mem_cons_of_mem _ (List.mem_append_left _ (List.mem_of_getElem? (i := 0) rfl)))) (hts (.instanceMethod objectInit) (List.mem_cons_of_mem _ (List.mem_append_left _ (List.mem_of_getElem? (i := 1) rfl)))) (hts _ (List.mem_cons_of_mem _ (List.mem_append_left _ (List.mem_of_getElem? (i := 2) rfl)))) rfl (by rw [hml]; exact hl.1) rfl dX9_init_1 (Nat.le_of_ble_eq_true rfl) (Nat.le_of_ble_eq_true rfl) ?_
  refine W.eq (g2 := F0 m 4 ls []) rfl ?_
  refine lv_aload_n hx hb dX9_init_4 rfl (lv_at hl 0 rfl) ?_
  refine lv_iconst (v := 0) hx hb dX9_init_5 (by decide) ?_
  refine va_put (D := D) (ci := 9) (v := .int 0) (ty := .int) (C := RX9) (T := TX9) (N := 7) hx hb hts (fun _ h => List.mem_cons_of_mem _ (List.mem_append_right _ (h))) tyX9 tyX9_ok nmX9 hown hK hP hD hS 0 rfl rfl 0 (by decide) (hts (.fieldLink RX9 9 "Phaselock$Transmitter" "phase" "I") (List.mem_cons_of_mem _ (List.mem_append_left _ (List.mem_of_getElem? (i := 3) rfl)))) (fun _ h9 => h9) rfl (by decide +kernel) rfl rfl (Nat.le_of_ble_eq_true rfl) dX9_init_6 (fun H locs hP hD hS => ?_)
  replace hP : va_P D vwCl [(h0, .inr (9, [.int 0, .int 0, .int 0, .long 0, .int 0, .int 0, .int 0]))] H := hP
  replace hD : va_D A [(h0, .inr (9, [.int 0, .int 0, .int 0, .long 0, .int 0, .int 0, .int 0]))] := hD
  refine lv_aload_n hx hb dX9_init_9 rfl (lv_at hl 0 rfl) ?_
  refine lv_sipush (v := 4096) hx hb dX9_init_10 (by decide) ?_
  refine va_put (D := D) (ci := 9) (v := .int 4096) (ty := .int) (C := RX9) (T := TX9) (N := 7) hx hb hts (fun _ h => List.mem_cons_of_mem _ (List.mem_append_right _ (h))) tyX9 tyX9_ok nmX9 hown hK hP hD hS 0 rfl rfl 1 (by decide) (hts (.fieldLink RX9 15 "Phaselock$Transmitter" "step" "I") (List.mem_cons_of_mem _ (List.mem_append_left _ (List.mem_of_getElem? (i := 4) rfl)))) (fun _ h9 => h9) rfl (by decide +kernel) rfl rfl (Nat.le_of_ble_eq_true rfl) dX9_init_13 (fun H locs hP hD hS => ?_)
  replace hP : va_P D vwCl [(h0, .inr (9, [.int 0, .int 4096, .int 0, .long 0, .int 0, .int 0, .int 0]))] H := hP
  replace hD : va_D A [(h0, .inr (9, [.int 0, .int 4096, .int 0, .long 0, .int 0, .int 0, .int 0]))] := hD
  refine lv_aload_n hx hb dX9_init_16 rfl (lv_at hl 0 rfl) ?_
  refine lv_iconst (v := 0) hx hb dX9_init_17 (by decide) ?_
  refine va_put (D := D) (ci := 9) (v := .int 0) (ty := .int) (C := RX9) (T := TX9) (N := 7) hx hb hts (fun _ h => List.mem_cons_of_mem _ (List.mem_append_right _ (h))) tyX9 tyX9_ok nmX9 hown hK hP hD hS 0 rfl rfl 2 (by decide) (hts (.fieldLink RX9 18 "Phaselock$Transmitter" "jitter" "I") (List.mem_cons_of_mem _ (List.mem_append_left _ (List.mem_of_getElem? (i := 5) rfl)))) (fun _ h9 => h9) rfl (by decide +kernel) rfl rfl (Nat.le_of_ble_eq_true rfl) dX9_init_18 (fun H locs hP hD hS => ?_)
  replace hP : va_P D vwCl [(h0, .inr (9, [.int 0, .int 4096, .int 0, .long 0, .int 0, .int 0, .int 0]))] H := hP
  replace hD : va_D A [(h0, .inr (9, [.int 0, .int 4096, .int 0, .long 0, .int 0, .int 0, .int 0]))] := hD
  refine lv_aload_n hx hb dX9_init_21 rfl (lv_at hl 0 rfl) ?_
  refine lv_lconst (v := 1) hx hb dX9_init_22 rfl ?_
  refine va_put (D := D) (ci := 9) (v := .long 1) (ty := .long) (C := RX9) (T := TX9) (N := 7) hx hb hts (fun _ h => List.mem_cons_of_mem _ (List.mem_append_right _ (h))) tyX9 tyX9_ok nmX9 hown hK hP hD hS 0 rfl rfl 3 (by decide) (hts (.fieldLink RX9 21 "Phaselock$Transmitter" "randomState" "J") (List.mem_cons_of_mem _ (List.mem_append_left _ (List.mem_of_getElem? (i := 6) rfl)))) (fun _ h9 => h9) rfl (by decide +kernel) rfl rfl (Nat.le_of_ble_eq_true rfl) dX9_init_23 (fun H locs hP hD hS => ?_)
  replace hP : va_P D vwCl [(h0, .inr (9, [.int 0, .int 4096, .int 0, .long 1, .int 0, .int 0, .int 0]))] H := hP
  replace hD : va_D A [(h0, .inr (9, [.int 0, .int 4096, .int 0, .long 1, .int 0, .int 0, .int 0]))] := hD
  refine lv_aload_n hx hb dX9_init_26 rfl (lv_at hl 0 rfl) ?_
  refine lv_iconst (v := 0) hx hb dX9_init_27 (by decide) ?_
  refine va_put (D := D) (ci := 9) (v := .int 0) (ty := .int) (C := RX9) (T := TX9) (N := 7) hx hb hts (fun _ h => List.mem_cons_of_mem _ (List.mem_append_right _ (h))) tyX9 tyX9_ok nmX9 hown hK hP hD hS 0 rfl rfl 4 (by decide) (hts (.fieldLink RX9 25 "Phaselock$Transmitter" "number" "I") (List.mem_cons_of_mem _ (List.mem_append_left _ (List.mem_of_getElem? (i := 7) rfl)))) (fun _ h9 => h9) rfl (by decide +kernel) rfl rfl (Nat.le_of_ble_eq_true rfl) dX9_init_28 (fun H locs hP hD hS => ?_)
  replace hP : va_P D vwCl [(h0, .inr (9, [.int 0, .int 4096, .int 0, .long 1, .int 0, .int 0, .int 0]))] H := hP
  replace hD : va_D A [(h0, .inr (9, [.int 0, .int 4096, .int 0, .long 1, .int 0, .int 0, .int 0]))] := hD
  refine lv_aload_n hx hb dX9_init_31 rfl (lv_at hl 0 rfl) ?_
  refine lv_iconst (v := 1) hx hb dX9_init_32 (by decide) ?_
  refine va_put (D := D) (ci := 9) (v := .int 1) (ty := .int) (C := RX9) (T := TX9) (N := 7) hx hb hts (fun _ h => List.mem_cons_of_mem _ (List.mem_append_right _ (h))) tyX9 tyX9_ok nmX9 hown hK hP hD hS 0 rfl rfl 5 (by decide) (hts (.fieldLink RX9 28 "Phaselock$Transmitter" "value" "I") (List.mem_cons_of_mem _ (List.mem_append_left _ (List.mem_of_getElem? (i := 8) rfl)))) (fun _ h9 => h9) rfl (by decide +kernel) rfl rfl (Nat.le_of_ble_eq_true rfl) dX9_init_33 (fun H locs hP hD hS => ?_)
  replace hP : va_P D vwCl [(h0, .inr (9, [.int 0, .int 4096, .int 0, .long 1, .int 0, .int 1, .int 0]))] H := hP
  replace hD : va_D A [(h0, .inr (9, [.int 0, .int 4096, .int 0, .long 1, .int 0, .int 1, .int 0]))] := hD
  refine lv_aload_n hx hb dX9_init_36 rfl (lv_at hl 0 rfl) ?_
  refine lv_bipush (v := 127) hx hb dX9_init_37 (by decide) ?_
  refine va_put (D := D) (ci := 9) (v := .int 127) (ty := .int) (C := RX9) (T := TX9) (N := 7) hx hb hts (fun _ h => List.mem_cons_of_mem _ (List.mem_append_right _ (h))) tyX9 tyX9_ok nmX9 hown hK hP hD hS 0 rfl rfl 6 (by decide) (hts (.fieldLink RX9 31 "Phaselock$Transmitter" "register" "I") (List.mem_cons_of_mem _ (List.mem_append_left _ (List.mem_of_getElem? (i := 9) rfl)))) (fun _ h9 => h9) rfl (by decide +kernel) rfl rfl (Nat.le_of_ble_eq_true rfl) dX9_init_39 (fun H locs hP hD hS => ?_)
  replace hP : va_P D vwCl [(h0, .inr (9, [.int 0, .int 4096, .int 0, .long 1, .int 0, .int 1, .int 127]))] H := hP
  replace hD : va_D A [(h0, .inr (9, [.int 0, .int 4096, .int 0, .long 1, .int 0, .int 1, .int 127]))] := hD
  exact W.vret hx hb hr (fun t ht hW => ⟨⟨(), rfl, trivial, by rw [ht]; exact hP, va_K.moved hW.alike hK, hD⟩, hS.F ht⟩) hS.2.2 dX9_init_42
def rm_X3_init : Room := { frames := 1, cells := 0, slots := 0, locals := 12 }
set_option maxRecDepth 100000 in
set_option maxHeartbeats 4000000 in
theorem k_X3_init (l : Launch) (D : va_G) (h0 sz : Nat) : Met l yX3_init wsX3_init rm_X3_init (va_Pc [.ref h0] (pW D [] [(h0, .inr (3, [.int 0]))] sz nT)) (va_Qv (fun _ : Unit => True) (fun u t => va_P D vwCl [(h0, .inr (3, [.int 65535]))] t.heap ∧ va_K D vwCl [] t ∧ va_D (va_A [(h0, .inr (3, [.int 0]))] sz) [(h0, .inr (3, [.int 65535]))]) (va_A [(h0, .inr (3, [.int 0]))] sz)) 0 0 (va_A [(h0, .inr (3, [.int 0]))] sz) := by
  refine Met.ofW (cc := cX3_init) (maxL := 1) (ret := none) (by decide) rfl ?_
  intro p e s m args below meth c s₁ B hml hv
  obtain ⟨rfl, hsz, hP, hK, hD9, hN⟩ := hv
  have hx := B.exec
  have hb := B.bytes
  have hr := B.returns
  have hts := atoms_spec (ws := wsX3_init) B.pre
  have hown : s.vm.findClass RX3 = some m.cls := findClass_of_methodNamed B.named
  have hlocks := B.notSynchronized
  have hin : meth.name = "<init>" := (name_of_methodNamed B.named B.method).1
  subst hsz
  have hD := hD9.self (sz := s.heap.size)
  generalize hAe : va_A [(h0, .inr (3, [.int 0]))] s.heap.size = A at hD ⊢
  have hA : ∀ q : Nat, s.heap.size ≤ q → A q := fun q h => by rw [← hAe]; exact Or.inr h
  have hS : va_S A s.heap s.heap [] := va_S.rf
  have hP : va_P D vwCl [(h0, .inr (3, [.int 0]))] s.heap := hP
  have hl := lv_entry ([.ref h0]) (n := 1) (Nat.le_of_ble_eq_true rfl)
  rw [lg_entry_eq]
  generalize (lg_sl ([.ref h0]) ++ List.replicate (1 - (lg_sl ([.ref h0])).length) Slot.unset).toArray = ls at hl ⊢
  have hl : lv_has ls 1 [(0, .ref h0)] := hl
  clear hD9 B
  refine lv_aload_n hx hb dX3_init_0 rfl (lv_at hl 0 rfl) ?_
  refine W.objInit hx hb hown (hts (.methodLink RX3 1 objectInit) (List.mem_cons_of_mem _ (List.mem_append_left _ (List.mem_of_getElem? (i := 0) rfl)))) (hts (.instanceMethod objectInit) (List.mem_cons_of_mem _ (List.mem_append_left _ (List.mem_of_getElem? (i := 1) rfl)))) (hts _ (List.mem_cons_of_mem _ (List.mem_append_left _ (List.mem_of_getElem? (i := 2) rfl)))) rfl (by rw [hml]; exact hl.1) rfl dX3_init_1 (Nat.le_of_ble_eq_true rfl) (Nat.le_of_ble_eq_true rfl) ?_
  refine W.eq (g2 := F0 m 4 ls []) rfl ?_
  refine lv_aload_n hx hb dX3_init_4 rfl (lv_at hl 0 rfl) ?_
  refine lv_ldc (v := 65535) hx hb hown (hts (.constant RX3 7 (65535)) (List.mem_cons_of_mem _ (List.mem_append_left _ (List.mem_of_getElem? (i := 3) rfl)))) dX3_init_5 ?_
  refine va_put (D := D) (ci := 3) (v := .int 65535) (ty := .int) (C := RX3) (T := TX3) (N := 1) hx hb hts (fun _ h => List.mem_cons_of_mem _ (List.mem_append_right _ (h))) tyX3 tyX3_ok nmX3 hown hK hP hD hS 0 rfl rfl 0 (by decide) (hts (.fieldLink RX3 8 "Phaselock$LineMemory" "values" "I") (List.mem_cons_of_mem _ (List.mem_append_left _ (List.mem_of_getElem? (i := 4) rfl)))) (fun _ h9 => h9) rfl (by decide +kernel) rfl rfl (Nat.le_of_ble_eq_true rfl) dX3_init_7 (fun H locs hP hD hS => ?_)
  replace hP : va_P D vwCl [(h0, .inr (3, [.int 65535]))] H := hP
  replace hD : va_D A [(h0, .inr (3, [.int 65535]))] := hD
  exact W.vret hx hb hr (fun t ht hW => ⟨⟨(), rfl, trivial, by rw [ht]; exact hP, va_K.moved hW.alike hK, hD⟩, hS.F ht⟩) hS.2.2 dX3_init_10
def rm_X2_init : Room := { frames := 1, cells := 1, slots := 256, locals := 12 }
set_option maxRecDepth 100000 in
set_option maxHeartbeats 4000000 in
theorem k_X2_init (l : Launch) (D : va_G) (h0 sz : Nat) : Met l yX2_init wsX2_init rm_X2_init (va_Pc [.ref h0] (pW D [] [(h0, .inr (2, [.int 0, .null]))] sz nT)) (va_Qv (fun _ : Nat × ClassId => True) (fun u t => va_P D vwCl [(h0, .inr (2, [.int 0, .ref u.1])), (u.1, .inl (u.2, 256, .inl (fun _ => 0)))] t.heap ∧ va_K D vwCl [(u.2, .boolean)] t ∧ va_D (va_A [(h0, .inr (2, [.int 0, .null]))] sz) [(h0, .inr (2, [.int 0, .ref u.1])), (u.1, .inl (u.2, 256, .inl (fun _ => 0)))]) (va_A [(h0, .inr (2, [.int 0, .null]))] sz)) 1 256 (va_A [(h0, .inr (2, [.int 0, .null]))] sz) := by
  refine Met.ofW (cc := cX2_init) (maxL := 1) (ret := none) (by decide) rfl ?_
  intro p e s m args below meth c s₁ B hml hv
  obtain ⟨rfl, hsz, hP, hK, hD9, hN⟩ := hv
  have hx := B.exec
  have hb := B.bytes
  have hr := B.returns
  have hts := atoms_spec (ws := wsX2_init) B.pre
  have hown : s.vm.findClass RX2 = some m.cls := findClass_of_methodNamed B.named
  have hlocks := B.notSynchronized
  have hin : meth.name = "<init>" := (name_of_methodNamed B.named B.method).1
  subst hsz
  have hD := hD9.self (sz := s.heap.size)
  generalize hAe : va_A [(h0, .inr (2, [.int 0, .null]))] s.heap.size = A at hD ⊢
  have hA : ∀ q : Nat, s.heap.size ≤ q → A q := fun q h => by rw [← hAe]; exact Or.inr h
  have hS : va_S A s.heap s.heap [] := va_S.rf
  have hP : va_P D vwCl [(h0, .inr (2, [.int 0, .null]))] s.heap := hP
  have hl := lv_entry ([.ref h0]) (n := 1) (Nat.le_of_ble_eq_true rfl)
  rw [lg_entry_eq]
  generalize (lg_sl ([.ref h0]) ++ List.replicate (1 - (lg_sl ([.ref h0])).length) Slot.unset).toArray = ls at hl ⊢
  have hl : lv_has ls 1 [(0, .ref h0)] := hl
  clear hD9 B
  refine lv_aload_n hx hb dX2_init_0 rfl (lv_at hl 0 rfl) ?_
  refine W.objInit hx hb hown (hts (.methodLink RX2 1 objectInit) (List.mem_cons_of_mem _ (List.mem_append_left _ (List.mem_of_getElem? (i := 0) rfl)))) (hts (.instanceMethod objectInit) (List.mem_cons_of_mem _ (List.mem_append_left _ (List.mem_of_getElem? (i := 1) rfl)))) (hts _ (List.mem_cons_of_mem _ (List.mem_append_left _ (List.mem_of_getElem? (i := 2) rfl)))) rfl (by rw [hml]; exact hl.1) rfl dX2_init_1 (Nat.le_of_ble_eq_true rfl) (Nat.le_of_ble_eq_true rfl) ?_
  refine W.eq (g2 := F0 m 4 ls []) rfl ?_
  refine lv_aload_n hx hb dX2_init_4 rfl (lv_at hl 0 rfl) ?_
  refine lv_iconst (v := 0) hx hb dX2_init_5 (by decide) ?_
  refine va_put (D := D) (ci := 2) (v := .int 0) (ty := .int) (C := RX2) (T := TX2) (N := 2) hx hb hts (fun _ h => List.mem_cons_of_mem _ (List.mem_append_right _ (h))) tyX2 tyX2_ok nmX2 hown hK hP hD hS 0 rfl rfl 0 (by decide) (hts (.fieldLink RX2 7 "Phaselock$EdgeLog" "ticks" "I") (List.mem_cons_of_mem _ (List.mem_append_left _ (List.mem_of_getElem? (i := 3) rfl)))) (fun _ h9 => h9) rfl (by decide +kernel) rfl rfl (Nat.le_of_ble_eq_true rfl) dX2_init_6 (fun H locs hP hD hS => ?_)
  replace hP : va_P D vwCl [(h0, .inr (2, [.int 0, .null]))] H := hP
  replace hD : va_D A [(h0, .inr (2, [.int 0, .null]))] := hD
  refine lv_aload_n hx hb dX2_init_9 rfl (lv_at hl 0 rfl) ?_
  refine lv_sipush (v := 256) hx hb dX2_init_10 (by decide) ?_
  refine va_newa (atype := .boolean) (ty := .boolean) (N' := 256) (a0 := (256, .inl (fun _ => 0))) hx hb (hts (.arrayClass .boolean) (List.mem_cons_of_mem _ (List.mem_append_left _ (List.mem_of_getElem? (i := 4) rfl)))) rfl hK hP hD hS hA (fun _ => rfl) (by decide) (by decide) (by decide) (Nat.le_of_ble_eq_true rfl) (Nat.le_of_ble_eq_true rfl) dX2_init_13 (fun q13 cA13 H hK hP hD hS => ?_)
  replace hP : va_P D vwCl [(h0, .inr (2, [.int 0, .null])), (q13, .inl (cA13, 256, .inl (fun _ => 0)))] H := hP
  replace hD : va_D A [(h0, .inr (2, [.int 0, .null])), (q13, .inl (cA13, 256, .inl (fun _ => 0)))] := hD
  replace hK : va_K D vwCl [(cA13, .boolean)] s := hK
  refine W.widen (k := 1) (n := 256) (by decide) (by decide) ?_
  refine va_putF (D := D) (ci := 2) (v := .ref q13) (ty := .array .boolean) (C := RX2) (T := TX2) (N := 2) hx hb hts (fun _ h => List.mem_cons_of_mem _ (List.mem_append_right _ (h))) tyX2 tyX2_ok nmX2 hown hK hP hD hS 0 rfl rfl 1 (by decide) (hts (.fieldLink RX2 13 "Phaselock$EdgeLog" "changed" "[Z") (List.mem_cons_of_mem _ (List.mem_append_left _ (List.mem_of_getElem? (i := 5) rfl)))) (fun _ h9 => h9) rfl hin rfl (by decide +kernel) rfl rfl (Nat.le_of_ble_eq_true rfl) dX2_init_15 (fun H locs hP hD hS => ?_)
  replace hP : va_P D vwCl [(h0, .inr (2, [.int 0, .ref q13])), (q13, .inl (cA13, 256, .inl (fun _ => 0)))] H := hP
  replace hD : va_D A [(h0, .inr (2, [.int 0, .ref q13])), (q13, .inl (cA13, 256, .inl (fun _ => 0)))] := hD
  exact W.vret hx hb hr (fun t ht hW => ⟨⟨(q13, cA13), rfl, trivial, by rw [ht]; exact hP, va_K.moved hW.alike hK, hD⟩, hS.F ht⟩) hS.2.2 dX2_init_18
def rm_X5_init : Room := { frames := 1, cells := 0, slots := 0, locals := 12 }
set_option maxRecDepth 100000 in
set_option maxHeartbeats 4000000 in
theorem k_X5_init (l : Launch) (D : va_G) (h0 sz : Nat) : Met l yX5_init wsX5_init rm_X5_init (va_Pc [.ref h0] (pW D [] [(h0, .inr (5, [.int 0]))] sz nT)) (va_Qv (fun _ : Unit => True) (fun u t => va_P D vwCl [(h0, .inr (5, [.int 0]))] t.heap ∧ va_K D vwCl [] t ∧ va_D (va_A [(h0, .inr (5, [.int 0]))] sz) [(h0, .inr (5, [.int 0]))]) (va_A [(h0, .inr (5, [.int 0]))] sz)) 0 0 (va_A [(h0, .inr (5, [.int 0]))] sz) := by
  refine Met.ofW (cc := cX5_init) (maxL := 1) (ret := none) (by decide) rfl ?_
  intro p e s m args below meth c s₁ B hml hv
  obtain ⟨rfl, hsz, hP, hK, hD9, hN⟩ := hv
  have hx := B.exec
  have hb := B.bytes
  have hr := B.returns
  have hts := atoms_spec (ws := wsX5_init) B.pre
  have hown : s.vm.findClass RX5 = some m.cls := findClass_of_methodNamed B.named
  have hlocks := B.notSynchronized
  have hin : meth.name = "<init>" := (name_of_methodNamed B.named B.method).1
  subst hsz
  have hD := hD9.self (sz := s.heap.size)
  generalize hAe : va_A [(h0, .inr (5, [.int 0]))] s.heap.size = A at hD ⊢
  have hA : ∀ q : Nat, s.heap.size ≤ q → A q := fun q h => by rw [← hAe]; exact Or.inr h
  have hS : va_S A s.heap s.heap [] := va_S.rf
  have hP : va_P D vwCl [(h0, .inr (5, [.int 0]))] s.heap := hP
  have hl := lv_entry ([.ref h0]) (n := 1) (Nat.le_of_ble_eq_true rfl)
  rw [lg_entry_eq]
  generalize (lg_sl ([.ref h0]) ++ List.replicate (1 - (lg_sl ([.ref h0])).length) Slot.unset).toArray = ls at hl ⊢
  have hl : lv_has ls 1 [(0, .ref h0)] := hl
  clear hD9 B
  refine lv_aload_n hx hb dX5_init_0 rfl (lv_at hl 0 rfl) ?_
  refine W.objInit hx hb hown (hts (.methodLink RX5 3 objectInit) (List.mem_cons_of_mem _ (List.mem_append_left _ (List.mem_of_getElem? (i := 0) rfl)))) (hts (.instanceMethod objectInit) (List.mem_cons_of_mem _ (List.mem_append_left _ (List.mem_of_getElem? (i := 1) rfl)))) (hts _ (List.mem_cons_of_mem _ (List.mem_append_left _ (List.mem_of_getElem? (i := 2) rfl)))) rfl (by rw [hml]; exact hl.1) rfl dX5_init_1 (Nat.le_of_ble_eq_true rfl) (Nat.le_of_ble_eq_true rfl) ?_
  refine W.eq (g2 := F0 m 4 ls []) rfl ?_
  refine lv_aload_n hx hb dX5_init_4 rfl (lv_at hl 0 rfl) ?_
  refine lv_iconst (v := 0) hx hb dX5_init_5 (by decide) ?_
  refine va_put (D := D) (ci := 5) (v := .int 0) (ty := .int) (C := RX5) (T := TX5) (N := 1) hx hb hts (fun _ h => List.mem_cons_of_mem _ (List.mem_append_right _ (h))) tyX5 tyX5_ok nmX5 hown hK hP hD hS 0 rfl rfl 0 (by decide) (hts (.fieldLink RX5 9 "Phaselock$Oscillator" "phase" "I") (List.mem_cons_of_mem _ (List.mem_append_left _ (List.mem_of_getElem? (i := 3) rfl)))) (fun _ h9 => h9) rfl (by decide +kernel) rfl rfl (Nat.le_of_ble_eq_true rfl) dX5_init_6 (fun H locs hP hD hS => ?_)
  replace hP : va_P D vwCl [(h0, .inr (5, [.int 0]))] H := hP
  replace hD : va_D A [(h0, .inr (5, [.int 0]))] := hD
  exact W.vret hx hb hr (fun t ht hW => ⟨⟨(), rfl, trivial, by rw [ht]; exact hP, va_K.moved hW.alike hK, hD⟩, hS.F ht⟩) hS.2.2 dX5_init_9
def rm_X6_init : Room := { frames := 1, cells := 0, slots := 0, locals := 12 }
set_option maxRecDepth 100000 in
set_option maxHeartbeats 4000000 in
theorem k_X6_init (l : Launch) (D : va_G) (h0 sz : Nat) : Met l yX6_init wsX6_init rm_X6_init (va_Pc [.ref h0] (pW D [] [(h0, .inr (6, [.int 0, .int 0, .int 0, .int 0, .int 0, .int 0, .int 0]))] sz nT)) (va_Qv (fun _ : Unit => True) (fun u t => va_P D vwCl [(h0, .inr (6, [.int 0, .int 0, .int 0, .int 0, .int 0, .int 0, .int 0]))] t.heap ∧ va_K D vwCl [] t ∧ va_D (va_A [(h0, .inr (6, [.int 0, .int 0, .int 0, .int 0, .int 0, .int 0, .int 0]))] sz) [(h0, .inr (6, [.int 0, .int 0, .int 0, .int 0, .int 0, .int 0, .int 0]))]) (va_A [(h0, .inr (6, [.int 0, .int 0, .int 0, .int 0, .int 0, .int 0, .int 0]))] sz)) 0 0 (va_A [(h0, .inr (6, [.int 0, .int 0, .int 0, .int 0, .int 0, .int 0, .int 0]))] sz) := by
  refine Met.ofW (cc := cX6_init) (maxL := 1) (ret := none) (by decide) rfl ?_
  intro p e s m args below meth c s₁ B hml hv
  obtain ⟨rfl, hsz, hP, hK, hD9, hN⟩ := hv
  have hx := B.exec
  have hb := B.bytes
  have hr := B.returns
  have hts := atoms_spec (ws := wsX6_init) B.pre
  have hown : s.vm.findClass RX6 = some m.cls := findClass_of_methodNamed B.named
  have hlocks := B.notSynchronized
  have hin : meth.name = "<init>" := (name_of_methodNamed B.named B.method).1
  subst hsz
  have hD := hD9.self (sz := s.heap.size)
  generalize hAe : va_A [(h0, .inr (6, [.int 0, .int 0, .int 0, .int 0, .int 0, .int 0, .int 0]))] s.heap.size = A at hD ⊢
  have hA : ∀ q : Nat, s.heap.size ≤ q → A q := fun q h => by rw [← hAe]; exact Or.inr h
  have hS : va_S A s.heap s.heap [] := va_S.rf
  have hP : va_P D vwCl [(h0, .inr (6, [.int 0, .int 0, .int 0, .int 0, .int 0, .int 0, .int 0]))] s.heap := hP
  have hl := lv_entry ([.ref h0]) (n := 1) (Nat.le_of_ble_eq_true rfl)
  rw [lg_entry_eq]
  generalize (lg_sl ([.ref h0]) ++ List.replicate (1 - (lg_sl ([.ref h0])).length) Slot.unset).toArray = ls at hl ⊢
  have hl : lv_has ls 1 [(0, .ref h0)] := hl
  clear hD9 B
  refine lv_aload_n hx hb dX6_init_0 rfl (lv_at hl 0 rfl) ?_
  refine W.objInit hx hb hown (hts (.methodLink RX6 3 objectInit) (List.mem_cons_of_mem _ (List.mem_append_left _ (List.mem_of_getElem? (i := 0) rfl)))) (hts (.instanceMethod objectInit) (List.mem_cons_of_mem _ (List.mem_append_left _ (List.mem_of_getElem? (i := 1) rfl)))) (hts _ (List.mem_cons_of_mem _ (List.mem_append_left _ (List.mem_of_getElem? (i := 2) rfl)))) rfl (by rw [hml]; exact hl.1) rfl dX6_init_1 (Nat.le_of_ble_eq_true rfl) (Nat.le_of_ble_eq_true rfl) ?_
  refine W.eq (g2 := F0 m 4 ls []) rfl ?_
  refine lv_aload_n hx hb dX6_init_4 rfl (lv_at hl 0 rfl) ?_
  refine lv_iconst (v := 0) hx hb dX6_init_5 (by decide) ?_
  refine va_put (D := D) (ci := 6) (v := .int 0) (ty := .int) (C := RX6) (T := TX6) (N := 7) hx hb hts (fun _ h => List.mem_cons_of_mem _ (List.mem_append_right _ (h))) tyX6 tyX6_ok nmX6 hown hK hP hD hS 0 rfl rfl 0 (by decide) (hts (.fieldLink RX6 9 "Phaselock$PhaseDetector" "kind" "I") (List.mem_cons_of_mem _ (List.mem_append_left _ (List.mem_of_getElem? (i := 3) rfl)))) (fun _ h9 => h9) rfl (by decide +kernel) rfl rfl (Nat.le_of_ble_eq_true rfl) dX6_init_6 (fun H locs hP hD hS => ?_)
  replace hP : va_P D vwCl [(h0, .inr (6, [.int 0, .int 0, .int 0, .int 0, .int 0, .int 0, .int 0]))] H := hP
  replace hD : va_D A [(h0, .inr (6, [.int 0, .int 0, .int 0, .int 0, .int 0, .int 0, .int 0]))] := hD
  refine lv_aload_n hx hb dX6_init_9 rfl (lv_at hl 0 rfl) ?_
  refine lv_iconst (v := 0) hx hb dX6_init_10 (by decide) ?_
  refine va_put (D := D) (ci := 6) (v := .int 0) (ty := .int) (C := RX6) (T := TX6) (N := 7) hx hb hts (fun _ h => List.mem_cons_of_mem _ (List.mem_append_right _ (h))) tyX6 tyX6_ok nmX6 hown hK hP hD hS 0 rfl rfl 1 (by decide) (hts (.fieldLink RX6 15 "Phaselock$PhaseDetector" "edgeError" "I") (List.mem_cons_of_mem _ (List.mem_append_left _ (List.mem_of_getElem? (i := 4) rfl)))) (fun _ h9 => h9) rfl (by decide +kernel) rfl rfl (Nat.le_of_ble_eq_true rfl) dX6_init_11 (fun H locs hP hD hS => ?_)
  replace hP : va_P D vwCl [(h0, .inr (6, [.int 0, .int 0, .int 0, .int 0, .int 0, .int 0, .int 0]))] H := hP
  replace hD : va_D A [(h0, .inr (6, [.int 0, .int 0, .int 0, .int 0, .int 0, .int 0, .int 0]))] := hD
  refine lv_aload_n hx hb dX6_init_14 rfl (lv_at hl 0 rfl) ?_
  refine lv_iconst (v := 0) hx hb dX6_init_15 (by decide) ?_
  refine va_put (D := D) (ci := 6) (v := .int 0) (ty := .int) (C := RX6) (T := TX6) (N := 7) hx hb hts (fun _ h => List.mem_cons_of_mem _ (List.mem_append_right _ (h))) tyX6 tyX6_ok nmX6 hown hK hP hD hS 0 rfl rfl 2 (by decide) (hts (.fieldLink RX6 18 "Phaselock$PhaseDetector" "product" "I") (List.mem_cons_of_mem _ (List.mem_append_left _ (List.mem_of_getElem? (i := 5) rfl)))) (fun _ h9 => h9) rfl (by decide +kernel) rfl rfl (Nat.le_of_ble_eq_true rfl) dX6_init_16 (fun H locs hP hD hS => ?_)
  replace hP : va_P D vwCl [(h0, .inr (6, [.int 0, .int 0, .int 0, .int 0, .int 0, .int 0, .int 0]))] H := hP
  replace hD : va_D A [(h0, .inr (6, [.int 0, .int 0, .int 0, .int 0, .int 0, .int 0, .int 0]))] := hD
  refine lv_aload_n hx hb dX6_init_19 rfl (lv_at hl 0 rfl) ?_
  refine lv_iconst (v := 0) hx hb dX6_init_20 (by decide) ?_
  refine va_put (D := D) (ci := 6) (v := .int 0) (ty := .int) (C := RX6) (T := TX6) (N := 7) hx hb hts (fun _ h => List.mem_cons_of_mem _ (List.mem_append_right _ (h))) tyX6 tyX6_ok nmX6 hown hK hP hD hS 0 rfl rfl 3 (by decide) (hts (.fieldLink RX6 21 "Phaselock$PhaseDetector" "earlyValue" "I") (List.mem_cons_of_mem _ (List.mem_append_left _ (List.mem_of_getElem? (i := 6) rfl)))) (fun _ h9 => h9) rfl (by decide +kernel) rfl rfl (Nat.le_of_ble_eq_true rfl) dX6_init_21 (fun H locs hP hD hS => ?_)
  replace hP : va_P D vwCl [(h0, .inr (6, [.int 0, .int 0, .int 0, .int 0, .int 0, .int 0, .int 0]))] H := hP
  replace hD : va_D A [(h0, .inr (6, [.int 0, .int 0, .int 0, .int 0, .int 0, .int 0, .int 0]))] := hD
  refine lv_aload_n hx hb dX6_init_24 rfl (lv_at hl 0 rfl) ?_
  refine lv_iconst (v := 0) hx hb dX6_init_25 (by decide) ?_
  refine va_put (D := D) (ci := 6) (v := .int 0) (ty := .int) (C := RX6) (T := TX6) (N := 7) hx hb hts (fun _ h => List.mem_cons_of_mem _ (List.mem_append_right _ (h))) tyX6 tyX6_ok nmX6 hown hK hP hD hS 0 rfl rfl 4 (by decide) (hts (.fieldLink RX6 24 "Phaselock$PhaseDetector" "middleValue" "I") (List.mem_cons_of_mem _ (List.mem_append_left _ (List.mem_of_getElem? (i := 7) rfl)))) (fun _ h9 => h9) rfl (by decide +kernel) rfl rfl (Nat.le_of_ble_eq_true rfl) dX6_init_26 (fun H locs hP hD hS => ?_)
  replace hP : va_P D vwCl [(h0, .inr (6, [.int 0, .int 0, .int 0, .int 0, .int 0, .int 0, .int 0]))] H := hP
  replace hD : va_D A [(h0, .inr (6, [.int 0, .int 0, .int 0, .int 0, .int 0, .int 0, .int 0]))] := hD
  refine lv_aload_n hx hb dX6_init_29 rfl (lv_at hl 0 rfl) ?_
  refine lv_iconst (v := 0) hx hb dX6_init_30 (by decide) ?_
  refine va_put (D := D) (ci := 6) (v := .int 0) (ty := .int) (C := RX6) (T := TX6) (N := 7) hx hb hts (fun _ h => List.mem_cons_of_mem _ (List.mem_append_right _ (h))) tyX6 tyX6_ok nmX6 hown hK hP hD hS 0 rfl rfl 5 (by decide) (hts (.fieldLink RX6 27 "Phaselock$PhaseDetector" "middleLevel" "I") (List.mem_cons_of_mem _ (List.mem_append_left _ (List.mem_of_getElem? (i := 8) rfl)))) (fun _ h9 => h9) rfl (by decide +kernel) rfl rfl (Nat.le_of_ble_eq_true rfl) dX6_init_31 (fun H locs hP hD hS => ?_)
  replace hP : va_P D vwCl [(h0, .inr (6, [.int 0, .int 0, .int 0, .int 0, .int 0, .int 0, .int 0]))] H := hP
  replace hD : va_D A [(h0, .inr (6, [.int 0, .int 0, .int 0, .int 0, .int 0, .int 0, .int 0]))] := hD
  refine lv_aload_n hx hb dX6_init_34 rfl (lv_at hl 0 rfl) ?_
  refine lv_iconst (v := 0) hx hb dX6_init_35 (by decide) ?_
  refine va_put (D := D) (ci := 6) (v := .int 0) (ty := .int) (C := RX6) (T := TX6) (N := 7) hx hb hts (fun _ h => List.mem_cons_of_mem _ (List.mem_append_right _ (h))) tyX6 tyX6_ok nmX6 hown hK hP hD hS 0 rfl rfl 6 (by decide) (hts (.fieldLink RX6 30 "Phaselock$PhaseDetector" "dataLevel" "I") (List.mem_cons_of_mem _ (List.mem_append_left _ (List.mem_of_getElem? (i := 9) rfl)))) (fun _ h9 => h9) rfl (by decide +kernel) rfl rfl (Nat.le_of_ble_eq_true rfl) dX6_init_36 (fun H locs hP hD hS => ?_)
  replace hP : va_P D vwCl [(h0, .inr (6, [.int 0, .int 0, .int 0, .int 0, .int 0, .int 0, .int 0]))] H := hP
  replace hD : va_D A [(h0, .inr (6, [.int 0, .int 0, .int 0, .int 0, .int 0, .int 0, .int 0]))] := hD
  exact W.vret hx hb hr (fun t ht hW => ⟨⟨(), rfl, trivial, by rw [ht]; exact hP, va_K.moved hW.alike hK, hD⟩, hS.F ht⟩) hS.2.2 dX6_init_39
def rm_X4_init : Room := { frames := 1, cells := 0, slots := 0, locals := 12 }
set_option maxRecDepth 100000 in
set_option maxHeartbeats 4000000 in
theorem k_X4_init (l : Launch) (D : va_G) (h0 sz : Nat) : Met l yX4_init wsX4_init rm_X4_init (va_Pc [.ref h0] (pW D [] [(h0, .inr (4, [.int 0, .int 0, .int 0, .int 0, .int 0]))] sz nT)) (va_Qv (fun _ : Unit => True) (fun u t => va_P D vwCl [(h0, .inr (4, [.int 8, .int 1, .int 0, .int 0, .int 0]))] t.heap ∧ va_K D vwCl [] t ∧ va_D (va_A [(h0, .inr (4, [.int 0, .int 0, .int 0, .int 0, .int 0]))] sz) [(h0, .inr (4, [.int 8, .int 1, .int 0, .int 0, .int 0]))]) (va_A [(h0, .inr (4, [.int 0, .int 0, .int 0, .int 0, .int 0]))] sz)) 0 0 (va_A [(h0, .inr (4, [.int 0, .int 0, .int 0, .int 0, .int 0]))] sz) := by
  refine Met.ofW (cc := cX4_init) (maxL := 1) (ret := none) (by decide) rfl ?_
  intro p e s m args below meth c s₁ B hml hv
  obtain ⟨rfl, hsz, hP, hK, hD9, hN⟩ := hv
  have hx := B.exec
  have hb := B.bytes
  have hr := B.returns
  have hts := atoms_spec (ws := wsX4_init) B.pre
  have hown : s.vm.findClass RX4 = some m.cls := findClass_of_methodNamed B.named
  have hlocks := B.notSynchronized
  have hin : meth.name = "<init>" := (name_of_methodNamed B.named B.method).1
  subst hsz
  have hD := hD9.self (sz := s.heap.size)
  generalize hAe : va_A [(h0, .inr (4, [.int 0, .int 0, .int 0, .int 0, .int 0]))] s.heap.size = A at hD ⊢
  have hA : ∀ q : Nat, s.heap.size ≤ q → A q := fun q h => by rw [← hAe]; exact Or.inr h
  have hS : va_S A s.heap s.heap [] := va_S.rf
  have hP : va_P D vwCl [(h0, .inr (4, [.int 0, .int 0, .int 0, .int 0, .int 0]))] s.heap := hP
  have hl := lv_entry ([.ref h0]) (n := 1) (Nat.le_of_ble_eq_true rfl)
  rw [lg_entry_eq]
  generalize (lg_sl ([.ref h0]) ++ List.replicate (1 - (lg_sl ([.ref h0])).length) Slot.unset).toArray = ls at hl ⊢
  have hl : lv_has ls 1 [(0, .ref h0)] := hl
  clear hD9 B
  refine lv_aload_n hx hb dX4_init_0 rfl (lv_at hl 0 rfl) ?_
  refine W.objInit hx hb hown (hts (.methodLink RX4 1 objectInit) (List.mem_cons_of_mem _ (List.mem_append_left _ (List.mem_of_getElem? (i := 0) rfl)))) (hts (.instanceMethod objectInit) (List.mem_cons_of_mem _ (List.mem_append_left _ (List.mem_of_getElem? (i := 1) rfl)))) (hts _ (List.mem_cons_of_mem _ (List.mem_append_left _ (List.mem_of_getElem? (i := 2) rfl)))) rfl (by rw [hml]; exact hl.1) rfl dX4_init_1 (Nat.le_of_ble_eq_true rfl) (Nat.le_of_ble_eq_true rfl) ?_
  refine W.eq (g2 := F0 m 4 ls []) rfl ?_
  refine lv_aload_n hx hb dX4_init_4 rfl (lv_at hl 0 rfl) ?_
  refine lv_bipush (v := 8) hx hb dX4_init_5 (by decide) ?_
  refine va_put (D := D) (ci := 4) (v := .int 8) (ty := .int) (C := RX4) (T := TX4) (N := 5) hx hb hts (fun _ h => List.mem_cons_of_mem _ (List.mem_append_right _ (h))) tyX4 tyX4_ok nmX4 hown hK hP hD hS 0 rfl rfl 0 (by decide) (hts (.fieldLink RX4 7 "Phaselock$LoopFilter" "proportionalGain" "I") (List.mem_cons_of_mem _ (List.mem_append_left _ (List.mem_of_getElem? (i := 3) rfl)))) (fun _ h9 => h9) rfl (by decide +kernel) rfl rfl (Nat.le_of_ble_eq_true rfl) dX4_init_7 (fun H locs hP hD hS => ?_)
  replace hP : va_P D vwCl [(h0, .inr (4, [.int 8, .int 0, .int 0, .int 0, .int 0]))] H := hP
  replace hD : va_D A [(h0, .inr (4, [.int 8, .int 0, .int 0, .int 0, .int 0]))] := hD
  refine lv_aload_n hx hb dX4_init_10 rfl (lv_at hl 0 rfl) ?_
  refine lv_iconst (v := 1) hx hb dX4_init_11 (by decide) ?_
  refine va_put (D := D) (ci := 4) (v := .int 1) (ty := .int) (C := RX4) (T := TX4) (N := 5) hx hb hts (fun _ h => List.mem_cons_of_mem _ (List.mem_append_right _ (h))) tyX4 tyX4_ok nmX4 hown hK hP hD hS 0 rfl rfl 1 (by decide) (hts (.fieldLink RX4 13 "Phaselock$LoopFilter" "integralGain" "I") (List.mem_cons_of_mem _ (List.mem_append_left _ (List.mem_of_getElem? (i := 4) rfl)))) (fun _ h9 => h9) rfl (by decide +kernel) rfl rfl (Nat.le_of_ble_eq_true rfl) dX4_init_12 (fun H locs hP hD hS => ?_)
  replace hP : va_P D vwCl [(h0, .inr (4, [.int 8, .int 1, .int 0, .int 0, .int 0]))] H := hP
  replace hD : va_D A [(h0, .inr (4, [.int 8, .int 1, .int 0, .int 0, .int 0]))] := hD
  refine lv_aload_n hx hb dX4_init_15 rfl (lv_at hl 0 rfl) ?_
  refine lv_iconst (v := 0) hx hb dX4_init_16 (by decide) ?_
  refine va_put (D := D) (ci := 4) (v := .int 0) (ty := .int) (C := RX4) (T := TX4) (N := 5) hx hb hts (fun _ h => List.mem_cons_of_mem _ (List.mem_append_right _ (h))) tyX4 tyX4_ok nmX4 hown hK hP hD hS 0 rfl rfl 2 (by decide) (hts (.fieldLink RX4 16 "Phaselock$LoopFilter" "error" "I") (List.mem_cons_of_mem _ (List.mem_append_left _ (List.mem_of_getElem? (i := 5) rfl)))) (fun _ h9 => h9) rfl (by decide +kernel) rfl rfl (Nat.le_of_ble_eq_true rfl) dX4_init_17 (fun H locs hP hD hS => ?_)
  replace hP : va_P D vwCl [(h0, .inr (4, [.int 8, .int 1, .int 0, .int 0, .int 0]))] H := hP
  replace hD : va_D A [(h0, .inr (4, [.int 8, .int 1, .int 0, .int 0, .int 0]))] := hD
  refine lv_aload_n hx hb dX4_init_20 rfl (lv_at hl 0 rfl) ?_
  refine lv_iconst (v := 0) hx hb dX4_init_21 (by decide) ?_
  refine va_put (D := D) (ci := 4) (v := .int 0) (ty := .int) (C := RX4) (T := TX4) (N := 5) hx hb hts (fun _ h => List.mem_cons_of_mem _ (List.mem_append_right _ (h))) tyX4 tyX4_ok nmX4 hown hK hP hD hS 0 rfl rfl 3 (by decide) (hts (.fieldLink RX4 19 "Phaselock$LoopFilter" "integral" "I") (List.mem_cons_of_mem _ (List.mem_append_left _ (List.mem_of_getElem? (i := 6) rfl)))) (fun _ h9 => h9) rfl (by decide +kernel) rfl rfl (Nat.le_of_ble_eq_true rfl) dX4_init_22 (fun H locs hP hD hS => ?_)
  replace hP : va_P D vwCl [(h0, .inr (4, [.int 8, .int 1, .int 0, .int 0, .int 0]))] H := hP
  replace hD : va_D A [(h0, .inr (4, [.int 8, .int 1, .int 0, .int 0, .int 0]))] := hD
  refine lv_aload_n hx hb dX4_init_25 rfl (lv_at hl 0 rfl) ?_
  refine lv_iconst (v := 0) hx hb dX4_init_26 (by decide) ?_
  refine va_put (D := D) (ci := 4) (v := .int 0) (ty := .int) (C := RX4) (T := TX4) (N := 5) hx hb hts (fun _ h => List.mem_cons_of_mem _ (List.mem_append_right _ (h))) tyX4 tyX4_ok nmX4 hown hK hP hD hS 0 rfl rfl 4 (by decide) (hts (.fieldLink RX4 22 "Phaselock$LoopFilter" "control" "I") (List.mem_cons_of_mem _ (List.mem_append_left _ (List.mem_of_getElem? (i := 7) rfl)))) (fun _ h9 => h9) rfl (by decide +kernel) rfl rfl (Nat.le_of_ble_eq_true rfl) dX4_init_27 (fun H locs hP hD hS => ?_)
  replace hP : va_P D vwCl [(h0, .inr (4, [.int 8, .int 1, .int 0, .int 0, .int 0]))] H := hP
  replace hD : va_D A [(h0, .inr (4, [.int 8, .int 1, .int 0, .int 0, .int 0]))] := hD
  exact W.vret hx hb hr (fun t ht hW => ⟨⟨(), rfl, trivial, by rw [ht]; exact hP, va_K.moved hW.alike hK, hD⟩, hS.F ht⟩) hS.2.2 dX4_init_30
def rm_X1_init : Room := { frames := 1, cells := 0, slots := 0, locals := 12 }
set_option maxRecDepth 100000 in
set_option maxHeartbeats 4000000 in
theorem k_X1_init (l : Launch) (D : va_G) (h0 sz : Nat) : Met l yX1_init wsX1_init rm_X1_init (va_Pc [.ref h0] (pW D [] [(h0, .inr (1, [.int 0, .int 0]))] sz nT)) (va_Qv (fun _ : Unit => True) (fun u t => va_P D vwCl [(h0, .inr (1, [.int 0, .int 0]))] t.heap ∧ va_K D vwCl [] t ∧ va_D (va_A [(h0, .inr (1, [.int 0, .int 0]))] sz) [(h0, .inr (1, [.int 0, .int 0]))]) (va_A [(h0, .inr (1, [.int 0, .int 0]))] sz)) 0 0 (va_A [(h0, .inr (1, [.int 0, .int 0]))] sz) := by
  refine Met.ofW (cc := cX1_init) (maxL := 1) (ret := none) (by decide) rfl ?_
  intro p e s m args below meth c s₁ B hml hv
  obtain ⟨rfl, hsz, hP, hK, hD9, hN⟩ := hv
  have hx := B.exec
  have hb := B.bytes
  have hr := B.returns
  have hts := atoms_spec (ws := wsX1_init) B.pre
  have hown : s.vm.findClass RX1 = some m.cls := findClass_of_methodNamed B.named
  have hlocks := B.notSynchronized
  have hin : meth.name = "<init>" := (name_of_methodNamed B.named B.method).1
  subst hsz
  have hD := hD9.self (sz := s.heap.size)
  generalize hAe : va_A [(h0, .inr (1, [.int 0, .int 0]))] s.heap.size = A at hD ⊢
  have hA : ∀ q : Nat, s.heap.size ≤ q → A q := fun q h => by rw [← hAe]; exact Or.inr h
  have hS : va_S A s.heap s.heap [] := va_S.rf
  have hP : va_P D vwCl [(h0, .inr (1, [.int 0, .int 0]))] s.heap := hP
  have hl := lv_entry ([.ref h0]) (n := 1) (Nat.le_of_ble_eq_true rfl)
  rw [lg_entry_eq]
  generalize (lg_sl ([.ref h0]) ++ List.replicate (1 - (lg_sl ([.ref h0])).length) Slot.unset).toArray = ls at hl ⊢
  have hl : lv_has ls 1 [(0, .ref h0)] := hl
  clear hD9 B
  refine lv_aload_n hx hb dX1_init_0 rfl (lv_at hl 0 rfl) ?_
  refine W.objInit hx hb hown (hts (.methodLink RX1 3 objectInit) (List.mem_cons_of_mem _ (List.mem_append_left _ (List.mem_of_getElem? (i := 0) rfl)))) (hts (.instanceMethod objectInit) (List.mem_cons_of_mem _ (List.mem_append_left _ (List.mem_of_getElem? (i := 1) rfl)))) (hts _ (List.mem_cons_of_mem _ (List.mem_append_left _ (List.mem_of_getElem? (i := 2) rfl)))) rfl (by rw [hml]; exact hl.1) rfl dX1_init_1 (Nat.le_of_ble_eq_true rfl) (Nat.le_of_ble_eq_true rfl) ?_
  refine W.eq (g2 := F0 m 4 ls []) rfl ?_
  refine lv_aload_n hx hb dX1_init_4 rfl (lv_at hl 0 rfl) ?_
  refine lv_iconst (v := 0) hx hb dX1_init_5 (by decide) ?_
  refine va_put (D := D) (ci := 1) (v := .int 0) (ty := .int) (C := RX1) (T := TX1) (N := 2) hx hb hts (fun _ h => List.mem_cons_of_mem _ (List.mem_append_right _ (h))) tyX1 tyX1_ok nmX1 hown hK hP hD hS 0 rfl rfl 0 (by decide) (hts (.fieldLink RX1 9 "Phaselock$BitLog" "count" "I") (List.mem_cons_of_mem _ (List.mem_append_left _ (List.mem_of_getElem? (i := 3) rfl)))) (fun _ h9 => h9) rfl (by decide +kernel) rfl rfl (Nat.le_of_ble_eq_true rfl) dX1_init_6 (fun H locs hP hD hS => ?_)
  replace hP : va_P D vwCl [(h0, .inr (1, [.int 0, .int 0]))] H := hP
  replace hD : va_D A [(h0, .inr (1, [.int 0, .int 0]))] := hD
  refine lv_aload_n hx hb dX1_init_9 rfl (lv_at hl 0 rfl) ?_
  refine lv_iconst (v := 0) hx hb dX1_init_10 (by decide) ?_
  refine va_put (D := D) (ci := 1) (v := .int 0) (ty := .int) (C := RX1) (T := TX1) (N := 2) hx hb hts (fun _ h => List.mem_cons_of_mem _ (List.mem_append_right _ (h))) tyX1 tyX1_ok nmX1 hown hK hP hD hS 0 rfl rfl 1 (by decide) (hts (.fieldLink RX1 15 "Phaselock$BitLog" "latest32" "I") (List.mem_cons_of_mem _ (List.mem_append_left _ (List.mem_of_getElem? (i := 4) rfl)))) (fun _ h9 => h9) rfl (by decide +kernel) rfl rfl (Nat.le_of_ble_eq_true rfl) dX1_init_11 (fun H locs hP hD hS => ?_)
  replace hP : va_P D vwCl [(h0, .inr (1, [.int 0, .int 0]))] H := hP
  replace hD : va_D A [(h0, .inr (1, [.int 0, .int 0]))] := hD
  exact W.vret hx hb hr (fun t ht hW => ⟨⟨(), rfl, trivial, by rw [ht]; exact hP, va_K.moved hW.alike hK, hD⟩, hS.F ht⟩) hS.2.2 dX1_init_14
def rm_X8_init : Room := { frames := 1, cells := 0, slots := 0, locals := 12 }
set_option maxRecDepth 100000 in
set_option maxHeartbeats 4000000 in
theorem k_X8_init (l : Launch) (D : va_G) (h0 sz : Nat) : Met l yX8_init wsX8_init rm_X8_init (va_Pc [.ref h0] (pW D [] [(h0, .inr (8, [.int 0, .int 0, .int 0, .int 0]))] sz nT)) (va_Qv (fun _ : Unit => True) (fun u t => va_P D vwCl [(h0, .inr (8, [.int 0, .int 0, .int 0, .int 0]))] t.heap ∧ va_K D vwCl [] t ∧ va_D (va_A [(h0, .inr (8, [.int 0, .int 0, .int 0, .int 0]))] sz) [(h0, .inr (8, [.int 0, .int 0, .int 0, .int 0]))]) (va_A [(h0, .inr (8, [.int 0, .int 0, .int 0, .int 0]))] sz)) 0 0 (va_A [(h0, .inr (8, [.int 0, .int 0, .int 0, .int 0]))] sz) := by
  refine Met.ofW (cc := cX8_init) (maxL := 1) (ret := none) (by decide) rfl ?_
  intro p e s m args below meth c s₁ B hml hv
  obtain ⟨rfl, hsz, hP, hK, hD9, hN⟩ := hv
  have hx := B.exec
  have hb := B.bytes
  have hr := B.returns
  have hts := atoms_spec (ws := wsX8_init) B.pre
  have hown : s.vm.findClass RX8 = some m.cls := findClass_of_methodNamed B.named
  have hlocks := B.notSynchronized
  have hin : meth.name = "<init>" := (name_of_methodNamed B.named B.method).1
  subst hsz
  have hD := hD9.self (sz := s.heap.size)
  generalize hAe : va_A [(h0, .inr (8, [.int 0, .int 0, .int 0, .int 0]))] s.heap.size = A at hD ⊢
  have hA : ∀ q : Nat, s.heap.size ≤ q → A q := fun q h => by rw [← hAe]; exact Or.inr h
  have hS : va_S A s.heap s.heap [] := va_S.rf
  have hP : va_P D vwCl [(h0, .inr (8, [.int 0, .int 0, .int 0, .int 0]))] s.heap := hP
  have hl := lv_entry ([.ref h0]) (n := 1) (Nat.le_of_ble_eq_true rfl)
  rw [lg_entry_eq]
  generalize (lg_sl ([.ref h0]) ++ List.replicate (1 - (lg_sl ([.ref h0])).length) Slot.unset).toArray = ls at hl ⊢
  have hl : lv_has ls 1 [(0, .ref h0)] := hl
  clear hD9 B
  refine lv_aload_n hx hb dX8_init_0 rfl (lv_at hl 0 rfl) ?_
  refine W.objInit hx hb hown (hts (.methodLink RX8 1 objectInit) (List.mem_cons_of_mem _ (List.mem_append_left _ (List.mem_of_getElem? (i := 0) rfl)))) (hts (.instanceMethod objectInit) (List.mem_cons_of_mem _ (List.mem_append_left _ (List.mem_of_getElem? (i := 1) rfl)))) (hts _ (List.mem_cons_of_mem _ (List.mem_append_left _ (List.mem_of_getElem? (i := 2) rfl)))) rfl (by rw [hml]; exact hl.1) rfl dX8_init_1 (Nat.le_of_ble_eq_true rfl) (Nat.le_of_ble_eq_true rfl) ?_
  refine W.eq (g2 := F0 m 4 ls []) rfl ?_
  refine lv_aload_n hx hb dX8_init_4 rfl (lv_at hl 0 rfl) ?_
  refine lv_iconst (v := 0) hx hb dX8_init_5 (by decide) ?_
  refine va_put (D := D) (ci := 8) (v := .int 0) (ty := .int) (C := RX8) (T := TX8) (N := 4) hx hb hts (fun _ h => List.mem_cons_of_mem _ (List.mem_append_right _ (h))) tyX8 tyX8_ok nmX8 hown hK hP hD hS 0 rfl rfl 0 (by decide) (hts (.fieldLink RX8 7 "Phaselock$SlipCounter" "repeated" "I") (List.mem_cons_of_mem _ (List.mem_append_left _ (List.mem_of_getElem? (i := 3) rfl)))) (fun _ h9 => h9) rfl (by decide +kernel) rfl rfl (Nat.le_of_ble_eq_true rfl) dX8_init_6 (fun H locs hP hD hS => ?_)
  replace hP : va_P D vwCl [(h0, .inr (8, [.int 0, .int 0, .int 0, .int 0]))] H := hP
  replace hD : va_D A [(h0, .inr (8, [.int 0, .int 0, .int 0, .int 0]))] := hD
  refine lv_aload_n hx hb dX8_init_9 rfl (lv_at hl 0 rfl) ?_
  refine lv_iconst (v := 0) hx hb dX8_init_10 (by decide) ?_
  refine va_put (D := D) (ci := 8) (v := .int 0) (ty := .int) (C := RX8) (T := TX8) (N := 4) hx hb hts (fun _ h => List.mem_cons_of_mem _ (List.mem_append_right _ (h))) tyX8 tyX8_ok nmX8 hown hK hP hD hS 0 rfl rfl 1 (by decide) (hts (.fieldLink RX8 13 "Phaselock$SlipCounter" "skipped" "I") (List.mem_cons_of_mem _ (List.mem_append_left _ (List.mem_of_getElem? (i := 4) rfl)))) (fun _ h9 => h9) rfl (by decide +kernel) rfl rfl (Nat.le_of_ble_eq_true rfl) dX8_init_11 (fun H locs hP hD hS => ?_)
  replace hP : va_P D vwCl [(h0, .inr (8, [.int 0, .int 0, .int 0, .int 0]))] H := hP
  replace hD : va_D A [(h0, .inr (8, [.int 0, .int 0, .int 0, .int 0]))] := hD
  refine lv_aload_n hx hb dX8_init_14 rfl (lv_at hl 0 rfl) ?_
  refine lv_iconst (v := 0) hx hb dX8_init_15 (by decide) ?_
  refine va_put (D := D) (ci := 8) (v := .int 0) (ty := .boolean) (C := RX8) (T := TX8) (N := 4) hx hb hts (fun _ h => List.mem_cons_of_mem _ (List.mem_append_right _ (h))) tyX8 tyX8_ok nmX8 hown hK hP hD hS 0 rfl rfl 2 (by decide) (hts (.fieldLink RX8 16 "Phaselock$SlipCounter" "hasStrobed" "Z") (List.mem_cons_of_mem _ (List.mem_append_left _ (List.mem_of_getElem? (i := 5) rfl)))) (fun _ h9 => h9) rfl (by decide +kernel) rfl rfl (Nat.le_of_ble_eq_true rfl) dX8_init_16 (fun H locs hP hD hS => ?_)
  replace hP : va_P D vwCl [(h0, .inr (8, [.int 0, .int 0, .int 0, .int 0]))] H := hP
  replace hD : va_D A [(h0, .inr (8, [.int 0, .int 0, .int 0, .int 0]))] := hD
  refine lv_aload_n hx hb dX8_init_19 rfl (lv_at hl 0 rfl) ?_
  refine lv_iconst (v := 0) hx hb dX8_init_20 (by decide) ?_
  refine va_put (D := D) (ci := 8) (v := .int 0) (ty := .int) (C := RX8) (T := TX8) (N := 4) hx hb hts (fun _ h => List.mem_cons_of_mem _ (List.mem_append_right _ (h))) tyX8 tyX8_ok nmX8 hown hK hP hD hS 0 rfl rfl 3 (by decide) (hts (.fieldLink RX8 20 "Phaselock$SlipCounter" "numberBefore" "I") (List.mem_cons_of_mem _ (List.mem_append_left _ (List.mem_of_getElem? (i := 6) rfl)))) (fun _ h9 => h9) rfl (by decide +kernel) rfl rfl (Nat.le_of_ble_eq_true rfl) dX8_init_21 (fun H locs hP hD hS => ?_)
  replace hP : va_P D vwCl [(h0, .inr (8, [.int 0, .int 0, .int 0, .int 0]))] H := hP
  replace hD : va_D A [(h0, .inr (8, [.int 0, .int 0, .int 0, .int 0]))] := hD
  exact W.vret hx hb hr (fun t ht hW => ⟨⟨(), rfl, trivial, by rw [ht]; exact hP, va_K.moved hW.alike hK, hD⟩, hS.F ht⟩) hS.2.2 dX8_init_24
def rm_X7_init : Room := { frames := 1, cells := 1, slots := 32, locals := 12 }
set_option maxRecDepth 100000 in
set_option maxHeartbeats 4000000 in
theorem k_X7_init (l : Launch) (D : va_G) (h0 sz : Nat) : Met l yX7_init wsX7_init rm_X7_init (va_Pc [.ref h0] (pW D [] [(h0, .inr (7, [.int 0, .int 0, .int 0, .null]))] sz nT)) (va_Qv (fun _ : Nat × ClassId => True) (fun u t => va_P D vwCl [(h0, .inr (7, [.int 0, .int 0, .int 0, .ref u.1])), (u.1, .inl (u.2, 32, .inl (fun _ => 0)))] t.heap ∧ va_K D vwCl [(u.2, .int)] t ∧ va_D (va_A [(h0, .inr (7, [.int 0, .int 0, .int 0, .null]))] sz) [(h0, .inr (7, [.int 0, .int 0, .int 0, .ref u.1])), (u.1, .inl (u.2, 32, .inl (fun _ => 0)))]) (va_A [(h0, .inr (7, [.int 0, .int 0, .int 0, .null]))] sz)) 1 32 (va_A [(h0, .inr (7, [.int 0, .int 0, .int 0, .null]))] sz) := by
  refine Met.ofW (cc := cX7_init) (maxL := 1) (ret := none) (by decide) rfl ?_
  intro p e s m args below meth c s₁ B hml hv
  obtain ⟨rfl, hsz, hP, hK, hD9, hN⟩ := hv
  have hx := B.exec
  have hb := B.bytes
  have hr := B.returns
  have hts := atoms_spec (ws := wsX7_init) B.pre
  have hown : s.vm.findClass RX7 = some m.cls := findClass_of_methodNamed B.named
  have hlocks := B.notSynchronized
  have hin : meth.name = "<init>" := (name_of_methodNamed B.named B.method).1
  subst hsz
  have hD := hD9.self (sz := s.heap.size)
  generalize hAe : va_A [(h0, .inr (7, [.int 0, .int 0, .int 0, .null]))] s.heap.size = A at hD ⊢
  have hA : ∀ q : Nat, s.heap.size ≤ q → A q := fun q h => by rw [← hAe]; exact Or.inr h
  have hS : va_S A s.heap s.heap [] := va_S.rf
  have hP : va_P D vwCl [(h0, .inr (7, [.int 0, .int 0, .int 0, .null]))] s.heap := hP
  have hl := lv_entry ([.ref h0]) (n := 1) (Nat.le_of_ble_eq_true rfl)
  rw [lg_entry_eq]
  generalize (lg_sl ([.ref h0]) ++ List.replicate (1 - (lg_sl ([.ref h0])).length) Slot.unset).toArray = ls at hl ⊢
  have hl : lv_has ls 1 [(0, .ref h0)] := hl
  clear hD9 B
  refine lv_aload_n hx hb dX7_init_0 rfl (lv_at hl 0 rfl) ?_
  refine W.objInit hx hb hown (hts (.methodLink RX7 3 objectInit) (List.mem_cons_of_mem _ (List.mem_append_left _ (List.mem_of_getElem? (i := 0) rfl)))) (hts (.instanceMethod objectInit) (List.mem_cons_of_mem _ (List.mem_append_left _ (List.mem_of_getElem? (i := 1) rfl)))) (hts _ (List.mem_cons_of_mem _ (List.mem_append_left _ (List.mem_of_getElem? (i := 2) rfl)))) rfl (by rw [hml]; exact hl.1) rfl dX7_init_1 (Nat.le_of_ble_eq_true rfl) (Nat.le_of_ble_eq_true rfl) ?_
  refine W.eq (g2 := F0 m 4 ls []) rfl ?_
  refine lv_aload_n hx hb dX7_init_4 rfl (lv_at hl 0 rfl) ?_
  refine lv_iconst (v := 0) hx hb dX7_init_5 (by decide) ?_
  refine va_put (D := D) (ci := 7) (v := .int 0) (ty := .int) (C := RX7) (T := TX7) (N := 4) hx hb hts (fun _ h => List.mem_cons_of_mem _ (List.mem_append_right _ (h))) tyX7 tyX7_ok nmX7 hown hK hP hD hS 0 rfl rfl 0 (by decide) (hts (.fieldLink RX7 9 "Phaselock$PhaseLog" "count" "I") (List.mem_cons_of_mem _ (List.mem_append_left _ (List.mem_of_getElem? (i := 3) rfl)))) (fun _ h9 => h9) rfl (by decide +kernel) rfl rfl (Nat.le_of_ble_eq_true rfl) dX7_init_6 (fun H locs hP hD hS => ?_)
  replace hP : va_P D vwCl [(h0, .inr (7, [.int 0, .int 0, .int 0, .null]))] H := hP
  replace hD : va_D A [(h0, .inr (7, [.int 0, .int 0, .int 0, .null]))] := hD
  refine lv_aload_n hx hb dX7_init_9 rfl (lv_at hl 0 rfl) ?_
  refine lv_iconst (v := 0) hx hb dX7_init_10 (by decide) ?_
  refine va_put (D := D) (ci := 7) (v := .int 0) (ty := .int) (C := RX7) (T := TX7) (N := 4) hx hb hts (fun _ h => List.mem_cons_of_mem _ (List.mem_append_right _ (h))) tyX7 tyX7_ok nmX7 hown hK hP hD hS 0 rfl rfl 1 (by decide) (hts (.fieldLink RX7 15 "Phaselock$PhaseLog" "latest" "I") (List.mem_cons_of_mem _ (List.mem_append_left _ (List.mem_of_getElem? (i := 4) rfl)))) (fun _ h9 => h9) rfl (by decide +kernel) rfl rfl (Nat.le_of_ble_eq_true rfl) dX7_init_11 (fun H locs hP hD hS => ?_)
  replace hP : va_P D vwCl [(h0, .inr (7, [.int 0, .int 0, .int 0, .null]))] H := hP
  replace hD : va_D A [(h0, .inr (7, [.int 0, .int 0, .int 0, .null]))] := hD
  refine lv_aload_n hx hb dX7_init_14 rfl (lv_at hl 0 rfl) ?_
  refine lv_iconst (v := 0) hx hb dX7_init_15 (by decide) ?_
  refine va_put (D := D) (ci := 7) (v := .int 0) (ty := .int) (C := RX7) (T := TX7) (N := 4) hx hb hts (fun _ h => List.mem_cons_of_mem _ (List.mem_append_right _ (h))) tyX7 tyX7_ok nmX7 hown hK hP hD hS 0 rfl rfl 2 (by decide) (hts (.fieldLink RX7 18 "Phaselock$PhaseLog" "steadyCount" "I") (List.mem_cons_of_mem _ (List.mem_append_left _ (List.mem_of_getElem? (i := 5) rfl)))) (fun _ h9 => h9) rfl (by decide +kernel) rfl rfl (Nat.le_of_ble_eq_true rfl) dX7_init_16 (fun H locs hP hD hS => ?_)
  replace hP : va_P D vwCl [(h0, .inr (7, [.int 0, .int 0, .int 0, .null]))] H := hP
  replace hD : va_D A [(h0, .inr (7, [.int 0, .int 0, .int 0, .null]))] := hD
  refine lv_aload_n hx hb dX7_init_19 rfl (lv_at hl 0 rfl) ?_
  refine lv_bipush (v := 32) hx hb dX7_init_20 (by decide) ?_
  refine va_newa (atype := .int) (ty := .int) (N' := 32) (a0 := (32, .inl (fun _ => 0))) hx hb (hts (.arrayClass .int) (List.mem_cons_of_mem _ (List.mem_append_left _ (List.mem_of_getElem? (i := 6) rfl)))) rfl hK hP hD hS hA (fun _ => rfl) (by decide) (by decide) (by decide) (Nat.le_of_ble_eq_true rfl) (Nat.le_of_ble_eq_true rfl) dX7_init_22 (fun q22 cA22 H hK hP hD hS => ?_)
  replace hP : va_P D vwCl [(h0, .inr (7, [.int 0, .int 0, .int 0, .null])), (q22, .inl (cA22, 32, .inl (fun _ => 0)))] H := hP
  replace hD : va_D A [(h0, .inr (7, [.int 0, .int 0, .int 0, .null])), (q22, .inl (cA22, 32, .inl (fun _ => 0)))] := hD
  replace hK : va_K D vwCl [(cA22, .int)] s := hK
  refine W.widen (k := 1) (n := 32) (by decide) (by decide) ?_
  refine va_putF (D := D) (ci := 7) (v := .ref q22) (ty := .array .int) (C := RX7) (T := TX7) (N := 4) hx hb hts (fun _ h => List.mem_cons_of_mem _ (List.mem_append_right _ (h))) tyX7 tyX7_ok nmX7 hown hK hP hD hS 0 rfl rfl 3 (by decide) (hts (.fieldLink RX7 21 "Phaselock$PhaseLog" "window" "[I") (List.mem_cons_of_mem _ (List.mem_append_left _ (List.mem_of_getElem? (i := 7) rfl)))) (fun _ h9 => h9) rfl hin rfl (by decide +kernel) rfl rfl (Nat.le_of_ble_eq_true rfl) dX7_init_24 (fun H locs hP hD hS => ?_)
  replace hP : va_P D vwCl [(h0, .inr (7, [.int 0, .int 0, .int 0, .ref q22])), (q22, .inl (cA22, 32, .inl (fun _ => 0)))] H := hP
  replace hD : va_D A [(h0, .inr (7, [.int 0, .int 0, .int 0, .ref q22])), (q22, .inl (cA22, 32, .inl (fun _ => 0)))] := hD
  exact W.vret hx hb hr (fun t ht hW => ⟨⟨(q22, cA22), rfl, trivial, by rw [ht]; exact hP, va_K.moved hW.alike hK, hD⟩, hS.F ht⟩) hS.2.2 dX7_init_27
def rm_X0_init : Room := { frames := 1, cells := 0, slots := 0, locals := 12 }
set_option maxRecDepth 100000 in
set_option maxHeartbeats 4000000 in
theorem k_X0_init (l : Launch) (D : va_G) (h0 sz : Nat) : Met l yX0_init wsX0_init rm_X0_init (va_Pc [.ref h0] (pW D [] [(h0, .inr (0, [.int 0, .int 0, .int 0, .int 0, .int 0, .int 0]))] sz nT)) (va_Qv (fun _ : Unit => True) (fun u t => va_P D vwCl [(h0, .inr (0, [.int 0, .int 0, .int 0, .int 0, .int 0, .int 0]))] t.heap ∧ va_K D vwCl [] t ∧ va_D (va_A [(h0, .inr (0, [.int 0, .int 0, .int 0, .int 0, .int 0, .int 0]))] sz) [(h0, .inr (0, [.int 0, .int 0, .int 0, .int 0, .int 0, .int 0]))]) (va_A [(h0, .inr (0, [.int 0, .int 0, .int 0, .int 0, .int 0, .int 0]))] sz)) 0 0 (va_A [(h0, .inr (0, [.int 0, .int 0, .int 0, .int 0, .int 0, .int 0]))] sz) := by
  refine Met.ofW (cc := cX0_init) (maxL := 1) (ret := none) (by decide) rfl ?_
  intro p e s m args below meth c s₁ B hml hv
  obtain ⟨rfl, hsz, hP, hK, hD9, hN⟩ := hv
  have hx := B.exec
  have hb := B.bytes
  have hr := B.returns
  have hts := atoms_spec (ws := wsX0_init) B.pre
  have hown : s.vm.findClass RX0 = some m.cls := findClass_of_methodNamed B.named
  have hlocks := B.notSynchronized
  have hin : meth.name = "<init>" := (name_of_methodNamed B.named B.method).1
  subst hsz
  have hD := hD9.self (sz := s.heap.size)
  generalize hAe : va_A [(h0, .inr (0, [.int 0, .int 0, .int 0, .int 0, .int 0, .int 0]))] s.heap.size = A at hD ⊢
  have hA : ∀ q : Nat, s.heap.size ≤ q → A q := fun q h => by rw [← hAe]; exact Or.inr h
  have hS : va_S A s.heap s.heap [] := va_S.rf
  have hP : va_P D vwCl [(h0, .inr (0, [.int 0, .int 0, .int 0, .int 0, .int 0, .int 0]))] s.heap := hP
  have hl := lv_entry ([.ref h0]) (n := 1) (Nat.le_of_ble_eq_true rfl)
  rw [lg_entry_eq]
  generalize (lg_sl ([.ref h0]) ++ List.replicate (1 - (lg_sl ([.ref h0])).length) Slot.unset).toArray = ls at hl ⊢
  have hl : lv_has ls 1 [(0, .ref h0)] := hl
  clear hD9 B
  refine lv_aload_n hx hb dX0_init_0 rfl (lv_at hl 0 rfl) ?_
  refine W.objInit hx hb hown (hts (.methodLink RX0 3 objectInit) (List.mem_cons_of_mem _ (List.mem_append_left _ (List.mem_of_getElem? (i := 0) rfl)))) (hts (.instanceMethod objectInit) (List.mem_cons_of_mem _ (List.mem_append_left _ (List.mem_of_getElem? (i := 1) rfl)))) (hts _ (List.mem_cons_of_mem _ (List.mem_append_left _ (List.mem_of_getElem? (i := 2) rfl)))) rfl (by rw [hml]; exact hl.1) rfl dX0_init_1 (Nat.le_of_ble_eq_true rfl) (Nat.le_of_ble_eq_true rfl) ?_
  refine W.eq (g2 := F0 m 4 ls []) rfl ?_
  refine lv_aload_n hx hb dX0_init_4 rfl (lv_at hl 0 rfl) ?_
  refine lv_iconst (v := 0) hx hb dX0_init_5 (by decide) ?_
  refine va_put (D := D) (ci := 0) (v := .int 0) (ty := .int) (C := RX0) (T := TX0) (N := 6) hx hb hts (fun _ h => List.mem_cons_of_mem _ (List.mem_append_right _ (h))) tyX0 tyX0_ok nmX0 hown hK hP hD hS 0 rfl rfl 0 (by decide) (hts (.fieldLink RX0 11 "Phaselock$Aligner" "state" "I") (List.mem_cons_of_mem _ (List.mem_append_left _ (List.mem_of_getElem? (i := 3) rfl)))) (fun _ h9 => h9) rfl (by decide +kernel) rfl rfl (Nat.le_of_ble_eq_true rfl) dX0_init_6 (fun H locs hP hD hS => ?_)
  replace hP : va_P D vwCl [(h0, .inr (0, [.int 0, .int 0, .int 0, .int 0, .int 0, .int 0]))] H := hP
  replace hD : va_D A [(h0, .inr (0, [.int 0, .int 0, .int 0, .int 0, .int 0, .int 0]))] := hD
  refine lv_aload_n hx hb dX0_init_9 rfl (lv_at hl 0 rfl) ?_
  refine lv_iconst (v := 0) hx hb dX0_init_10 (by decide) ?_
  refine va_put (D := D) (ci := 0) (v := .int 0) (ty := .int) (C := RX0) (T := TX0) (N := 6) hx hb hts (fun _ h => List.mem_cons_of_mem _ (List.mem_append_right _ (h))) tyX0 tyX0_ok nmX0 hown hK hP hD hS 0 rfl rfl 1 (by decide) (hts (.fieldLink RX0 15 "Phaselock$Aligner" "frames" "I") (List.mem_cons_of_mem _ (List.mem_append_left _ (List.mem_of_getElem? (i := 4) rfl)))) (fun _ h9 => h9) rfl (by decide +kernel) rfl rfl (Nat.le_of_ble_eq_true rfl) dX0_init_11 (fun H locs hP hD hS => ?_)
  replace hP : va_P D vwCl [(h0, .inr (0, [.int 0, .int 0, .int 0, .int 0, .int 0, .int 0]))] H := hP
  replace hD : va_D A [(h0, .inr (0, [.int 0, .int 0, .int 0, .int 0, .int 0, .int 0]))] := hD
  refine lv_aload_n hx hb dX0_init_14 rfl (lv_at hl 0 rfl) ?_
  refine lv_iconst (v := 0) hx hb dX0_init_15 (by decide) ?_
  refine va_put (D := D) (ci := 0) (v := .int 0) (ty := .int) (C := RX0) (T := TX0) (N := 6) hx hb hts (fun _ h => List.mem_cons_of_mem _ (List.mem_append_right _ (h))) tyX0 tyX0_ok nmX0 hown hK hP hD hS 0 rfl rfl 2 (by decide) (hts (.fieldLink RX0 18 "Phaselock$Aligner" "losses" "I") (List.mem_cons_of_mem _ (List.mem_append_left _ (List.mem_of_getElem? (i := 5) rfl)))) (fun _ h9 => h9) rfl (by decide +kernel) rfl rfl (Nat.le_of_ble_eq_true rfl) dX0_init_16 (fun H locs hP hD hS => ?_)
  replace hP : va_P D vwCl [(h0, .inr (0, [.int 0, .int 0, .int 0, .int 0, .int 0, .int 0]))] H := hP
  replace hD : va_D A [(h0, .inr (0, [.int 0, .int 0, .int 0, .int 0, .int 0, .int 0]))] := hD
  refine lv_aload_n hx hb dX0_init_19 rfl (lv_at hl 0 rfl) ?_
  refine lv_iconst (v := 0) hx hb dX0_init_20 (by decide) ?_
  refine va_put (D := D) (ci := 0) (v := .int 0) (ty := .int) (C := RX0) (T := TX0) (N := 6) hx hb hts (fun _ h => List.mem_cons_of_mem _ (List.mem_append_right _ (h))) tyX0 tyX0_ok nmX0 hown hK hP hD hS 0 rfl rfl 3 (by decide) (hts (.fieldLink RX0 21 "Phaselock$Aligner" "position" "I") (List.mem_cons_of_mem _ (List.mem_append_left _ (List.mem_of_getElem? (i := 6) rfl)))) (fun _ h9 => h9) rfl (by decide +kernel) rfl rfl (Nat.le_of_ble_eq_true rfl) dX0_init_21 (fun H locs hP hD hS => ?_)
  replace hP : va_P D vwCl [(h0, .inr (0, [.int 0, .int 0, .int 0, .int 0, .int 0, .int 0]))] H := hP
  replace hD : va_D A [(h0, .inr (0, [.int 0, .int 0, .int 0, .int 0, .int 0, .int 0]))] := hD
  refine lv_aload_n hx hb dX0_init_24 rfl (lv_at hl 0 rfl) ?_
  refine lv_iconst (v := 0) hx hb dX0_init_25 (by decide) ?_
  refine va_put (D := D) (ci := 0) (v := .int 0) (ty := .int) (C := RX0) (T := TX0) (N := 6) hx hb hts (fun _ h => List.mem_cons_of_mem _ (List.mem_append_right _ (h))) tyX0 tyX0_ok nmX0 hown hK hP hD hS 0 rfl rfl 4 (by decide) (hts (.fieldLink RX0 24 "Phaselock$Aligner" "matches" "I") (List.mem_cons_of_mem _ (List.mem_append_left _ (List.mem_of_getElem? (i := 7) rfl)))) (fun _ h9 => h9) rfl (by decide +kernel) rfl rfl (Nat.le_of_ble_eq_true rfl) dX0_init_26 (fun H locs hP hD hS => ?_)
  replace hP : va_P D vwCl [(h0, .inr (0, [.int 0, .int 0, .int 0, .int 0, .int 0, .int 0]))] H := hP
  replace hD : va_D A [(h0, .inr (0, [.int 0, .int 0, .int 0, .int 0, .int 0, .int 0]))] := hD
  refine lv_aload_n hx hb dX0_init_29 rfl (lv_at hl 0 rfl) ?_
  refine lv_iconst (v := 0) hx hb dX0_init_30 (by decide) ?_
  refine va_put (D := D) (ci := 0) (v := .int 0) (ty := .int) (C := RX0) (T := TX0) (N := 6) hx hb hts (fun _ h => List.mem_cons_of_mem _ (List.mem_append_right _ (h))) tyX0 tyX0_ok nmX0 hown hK hP hD hS 0 rfl rfl 5 (by decide) (hts (.fieldLink RX0 27 "Phaselock$Aligner" "misses" "I") (List.mem_cons_of_mem _ (List.mem_append_left _ (List.mem_of_getElem? (i := 8) rfl)))) (fun _ h9 => h9) rfl (by decide +kernel) rfl rfl (Nat.le_of_ble_eq_true rfl) dX0_init_31 (fun H locs hP hD hS => ?_)
  replace hP : va_P D vwCl [(h0, .inr (0, [.int 0, .int 0, .int 0, .int 0, .int 0, .int 0]))] H := hP
  replace hD : va_D A [(h0, .inr (0, [.int 0, .int 0, .int 0, .int 0, .int 0, .int 0]))] := hD
  exact W.vret hx hb hr (fun t ht hW => ⟨⟨(), rfl, trivial, by rw [ht]; exact hP, va_K.moved hW.alike hK, hD⟩, hS.F ht⟩) hS.2.2 dX0_init_34
/-- the links of the nest's constructors -/
def nC (U : State) : Prop := va_Nw (.methodLinkNest RX10 9 yX9_init RX10) U ∧ va_Nw (.methodLinkNest RX10 18 yX3_init RX10) U ∧ va_Nw (.methodLinkNest RX10 25 yX2_init RX10) U ∧ va_Nw (.methodLinkNest RX10 32 yX5_init RX10) U ∧ va_Nw (.methodLinkNest RX10 39 yX6_init RX10) U ∧ va_Nw (.methodLinkNest RX10 46 yX4_init RX10) U ∧ va_Nw (.methodLinkNest RX10 53 yX1_init RX10) U ∧ va_Nw (.methodLinkNest RX10 60 yX8_init RX10) U ∧ va_Nw (.methodLinkNest RX10 67 yX7_init RX10) U ∧ va_Nw (.methodLinkNest RX10 74 yX0_init RX10) U
theorem okN_C : okN nC := ⟨fun _ _ h q => by obtain ⟨a0, a1, a2, a3, a4, a5, a6, a7, a8, a9⟩ := q; exact ⟨va_Nw.same rfl h a0, va_Nw.same rfl h a1, va_Nw.same rfl h a2, va_Nw.same rfl h a3, va_Nw.same rfl h a4, va_Nw.same rfl h a5, va_Nw.same rfl h a6, va_Nw.same rfl h a7, va_Nw.same rfl h a8, va_Nw.same rfl h a9⟩, fun _ _ hW q => by obtain ⟨a0, a1, a2, a3, a4, a5, a6, a7, a8, a9⟩ := q; exact ⟨va_Nw.warmM hW a0, va_Nw.warmM hW a1, va_Nw.warmM hW a2, va_Nw.warmM hW a3, va_Nw.warmM hW a4, va_Nw.warmM hW a5, va_Nw.warmM hW a6, va_Nw.warmM hW a7, va_Nw.warmM hW a8, va_Nw.warmM hW a9⟩⟩
/-- the state at the start, of the class and of its check -/
def st0 : St := (fun k => if k = 2 then 4096 else if k = 6 then 127 else if k = 7 then 1 else if k = 8 then 65535 else if k = 16 then 8 else if k = 17 then 1 else 0, 1, fun _ => 0, fun _ => 0)
def rm_X10_init : Room := { frames := 2, cells := 12, slots := 327, locals := 32 }
set_option maxRecDepth 100000 in
set_option maxHeartbeats 4000000 in
theorem k_X10_init (l : Launch) (D : va_G) (h0 sz : Nat) : Met l yX10_init wsX10_init rm_X10_init (va_Pc [.ref h0] (pW D [] [(h0, .inr (10, [.null, .null, .null, .null, .null, .null, .null, .null, .null, .null]))] sz nC)) (va_Qv (fun u : (Nat → Nat) × ClassId × ClassId => u.1 0 = h0) (fun u t => va_P D vwCl (wP u.1 u.2.1 u.2.2 st0) t.heap ∧ va_K D vwCl (tyZI u.2.1 u.2.2) t ∧ va_D (va_A [(h0, .inr (10, [.null, .null, .null, .null, .null, .null, .null, .null, .null, .null]))] sz) (wP u.1 u.2.1 u.2.2 st0)) (va_A [(h0, .inr (10, [.null, .null, .null, .null, .null, .null, .null, .null, .null, .null]))] sz)) 12 327 (va_A [(h0, .inr (10, [.null, .null, .null, .null, .null, .null, .null, .null, .null, .null]))] sz) := by
  refine Met.ofW (cc := cX10_init) (maxL := 1) (ret := none) (by decide) rfl ?_
  intro p e s m args below meth c s₁ B hml hv
  obtain ⟨rfl, hsz, hP, hK, hD9, hN⟩ := hv
  have hx := B.exec
  have hb := B.bytes
  have hr := B.returns
  have hts := atoms_spec (ws := wsX10_init) B.pre
  have hown : s.vm.findClass RX10 = some m.cls := findClass_of_methodNamed B.named
  have hlocks := B.notSynchronized
  have hin : meth.name = "<init>" := (name_of_methodNamed B.named B.method).1
  subst hsz
  have hD := hD9.self (sz := s.heap.size)
  generalize hAe : va_A [(h0, .inr (10, [.null, .null, .null, .null, .null, .null, .null, .null, .null, .null]))] s.heap.size = A at hD ⊢
  have hA : ∀ q : Nat, s.heap.size ≤ q → A q := fun q h => by rw [← hAe]; exact Or.inr h
  have hS : va_S A s.heap s.heap [] := va_S.rf
  have hP : va_P D vwCl [(h0, .inr (10, [.null, .null, .null, .null, .null, .null, .null, .null, .null, .null]))] s.heap := hP
  have hl := lv_entry ([.ref h0]) (n := 1) (Nat.le_of_ble_eq_true rfl)
  rw [lg_entry_eq]
  generalize (lg_sl ([.ref h0]) ++ List.replicate (1 - (lg_sl ([.ref h0])).length) Slot.unset).toArray = ls at hl ⊢
  have hl : lv_has ls 1 [(0, .ref h0)] := hl
  clear hD9 B
  refine lv_aload_n hx hb dX10_init_0 rfl (lv_at hl 0 rfl) ?_
  refine W.objInit hx hb hown (hts (.methodLink RX10 1 objectInit) (List.mem_cons_of_mem _ (List.mem_append_left _ (List.mem_append_left _ (List.mem_append_left _ (List.mem_append_left _ (List.mem_append_left _ (List.mem_append_left _ (List.mem_append_left _ (List.mem_append_left _ (List.mem_append_left _ (List.mem_append_left _ (List.mem_append_left _ (List.mem_append_left _ (List.mem_of_getElem? (i := 0) rfl))))))))))))))) (hts (.instanceMethod objectInit) (List.mem_cons_of_mem _ (List.mem_append_left _ (List.mem_append_left _ (List.mem_append_left _ (List.mem_append_left _ (List.mem_append_left _ (List.mem_append_left _ (List.mem_append_left _ (List.mem_append_left _ (List.mem_append_left _ (List.mem_append_left _ (List.mem_append_left _ (List.mem_append_left _ (List.mem_of_getElem? (i := 1) rfl))))))))))))))) (hts _ (List.mem_cons_of_mem _ (List.mem_append_left _ (List.mem_append_left _ (List.mem_append_left _ (List.mem_append_left _ (List.mem_append_left _ (List.mem_append_left _ (List.mem_append_left _ (List.mem_append_left _ (List.mem_append_left _ (List.mem_append_left _ (List.mem_append_left _ (List.mem_append_left _ (List.mem_of_getElem? (i := 2) rfl))))))))))))))) rfl (by rw [hml]; exact hl.1) rfl dX10_init_1 (Nat.le_of_ble_eq_true rfl) (Nat.le_of_ble_eq_true rfl) ?_
  refine W.eq (g2 := F0 m 4 ls []) rfl ?_
  obtain ⟨n9, n18, n25, n32, n39, n46, n53, n60, n67, n74⟩ := id hN
  refine lv_aload_n hx hb dX10_init_4 rfl (lv_at hl 0 rfl) ?_
  refine va_new (ci := 9) (fs := [.int 0, .int 0, .int 0, .long 0, .int 0, .int 0, .int 0]) (C := RX9) (T := TX9) (N := 7) hx hb hts (fun _ h => List.mem_cons_of_mem _ (List.mem_append_left _ (List.mem_append_left _ (List.mem_append_left _ (List.mem_append_left _ (List.mem_append_left _ (List.mem_append_left _ (List.mem_append_left _ (List.mem_append_left _ (List.mem_append_left _ (List.mem_append_left _ (List.mem_append_right _ (h))))))))))))) tyX9 tyX9_ok hown (hts (.classLink RX10 7 RX9) (List.mem_cons_of_mem _ (List.mem_append_left _ (List.mem_append_left _ (List.mem_append_left _ (List.mem_append_left _ (List.mem_append_left _ (List.mem_append_left _ (List.mem_append_left _ (List.mem_append_left _ (List.mem_append_left _ (List.mem_append_left _ (List.mem_append_left _ (List.mem_append_left _ (List.mem_of_getElem? (i := 3) rfl))))))))))))))) (hts (.instantiable RX9 7) (List.mem_cons_of_mem _ (List.mem_append_left _ (List.mem_append_left _ (List.mem_append_left _ (List.mem_append_left _ (List.mem_append_left _ (List.mem_append_left _ (List.mem_append_left _ (List.mem_append_left _ (List.mem_append_left _ (List.mem_append_left _ (List.mem_append_left _ (List.mem_append_left _ (List.mem_of_getElem? (i := 4) rfl))))))))))))))) (hts (.initialized RX9) (List.mem_cons_of_mem _ (List.mem_append_left _ (List.mem_append_left _ (List.mem_append_left _ (List.mem_append_left _ (List.mem_append_left _ (List.mem_append_left _ (List.mem_append_left _ (List.mem_append_left _ (List.mem_append_left _ (List.mem_append_left _ (List.mem_append_left _ (List.mem_append_left _ (List.mem_of_getElem? (i := 5) rfl))))))))))))))) hK hP hD hS hA rfl (fun j hj => by rcases (show j = 0 ∨ j = 1 ∨ j = 2 ∨ j = 3 ∨ j = 4 ∨ j = 5 ∨ j = 6 by omega) with rfl | rfl | rfl | rfl | rfl | rfl | rfl <;> rfl) (Nat.le_of_ble_eq_true rfl) (Nat.le_of_ble_eq_true rfl) dX10_init_5 (fun q9 H hP hD hS => ?_)
  replace hP : va_P D vwCl [(h0, .inr (10, [.null, .null, .null, .null, .null, .null, .null, .null, .null, .null])), (q9, .inr (9, [.int 0, .int 0, .int 0, .long 0, .int 0, .int 0, .int 0]))] H := hP
  replace hD : va_D A [(h0, .inr (10, [.null, .null, .null, .null, .null, .null, .null, .null, .null, .null])), (q9, .inr (9, [.int 0, .int 0, .int 0, .long 0, .int 0, .int 0, .int 0]))] := hD
  refine W.widen (k := 1) (n := 7) (by decide) (by decide) ?_
  refine lv_dup hx hb dX10_init_8 rfl ?_
  have hPc := hP.sub (ws' := [(q9, .inr (9, [.int 0, .int 0, .int 0, .long 0, .int 0, .int 0, .int 0]))]) [1] rfl
  have hDc := hD.sub (ws' := [(q9, .inr (9, [.int 0, .int 0, .int 0, .long 0, .int 0, .int 0, .int 0]))]) [1] (by decide) rfl
  have hKc := hK.sub (tys' := []) [] rfl
  have hFc := va_free (wc := [(q9, .inr (9, [.int 0, .int 0, .int 0, .long 0, .int 0, .int 0, .int 0]))]) hD hS hA [1] rfl
  refine va_callv (va_runIN (As := []) (rest := [.ref q9, .ref h0]) ⟨hx, hb, hml, hown, hts⟩ (k_X9_init l D q9 H.size) ⟨va_cnB 0 hts gX10_init_X9_init_n9 rfl rfl rfl n9 (hts (.initialized RX9) (List.mem_cons_of_mem _ (List.mem_append_left _ (List.mem_append_left _ (List.mem_append_left _ (List.mem_append_left _ (List.mem_append_left _ (List.mem_append_left _ (List.mem_append_left _ (List.mem_append_left _ (List.mem_append_left _ (List.mem_append_left _ (List.mem_append_left _ (List.mem_append_left _ (List.mem_of_getElem? (i := 5) rfl))))))))))))))) (by decide +kernel) ⟨Nat.le_of_ble_eq_true rfl, Nat.le_of_ble_eq_true rfl⟩, rfl, (hts (.instanceMethod yX9_init) (List.mem_cons_of_mem _ (List.mem_append_left _ (List.mem_append_left _ (List.mem_append_left _ (List.mem_append_left _ (List.mem_append_left _ (List.mem_append_left _ (List.mem_append_left _ (List.mem_append_left _ (List.mem_append_left _ (List.mem_append_left _ (List.mem_append_left _ (List.mem_append_right _ (List.mem_append_left _ (List.mem_of_getElem? (i := 19) rfl))))))))))))))))⟩ ⟨blW okN_T, preW hPc hKc hDc okN_T trivial⟩ rfl rfl hl.1 rfl (lv_room (Nat.le_of_ble_eq_true rfl)) dX10_init_9 ⟨Nat.le_of_ble_eq_true rfl, Nat.le_of_ble_eq_true rfl⟩) hS (fun q _ h => hFc q h) hFc (fun u t H1 locs ht hvm hw hB hz1 hk1 hS => ?_)
  obtain ⟨hP1, hK1, hD1⟩ := hB
  rw [ht] at hP1
  replace hK1 := va_K.moved hvm.symm hK1
  replace hP1 : va_P D vwCl [(q9, .inr (9, [.int 0, .int 4096, .int 0, .long 1, .int 0, .int 1, .int 127]))] H1 := hP1
  replace hD1 : va_D (va_A [(q9, .inr (9, [.int 0, .int 0, .int 0, .long 0, .int 0, .int 0, .int 0]))] H.size) [(q9, .inr (9, [.int 0, .int 4096, .int 0, .long 1, .int 0, .int 1, .int 127]))] := hD1
  replace hK1 : va_K D vwCl [] s := hK1
  obtain ⟨hP9, hD9⟩ := va_join (wr := [(h0, .inr (10, [.null, .null, .null, .null, .null, .null, .null, .null, .null, .null]))]) (w1 := [(q9, .inr (9, [.int 0, .int 4096, .int 0, .long 1, .int 0, .int 1, .int 127]))]) hP hD [1] [0] rfl rfl (by decide) (by decide) hk1 hFc hP1 hD1
  clear hPc hDc hKc hFc hP1 hD1 hz1 hk1 hw ht hvm t
  replace hK : va_K D vwCl [] s := va_K.app hK hK1
  replace hP : va_P D vwCl [(h0, .inr (10, [.null, .null, .null, .null, .null, .null, .null, .null, .null, .null])), (q9, .inr (9, [.int 0, .int 4096, .int 0, .long 1, .int 0, .int 1, .int 127]))] H1 := hP9
  replace hD : va_D A [(h0, .inr (10, [.null, .null, .null, .null, .null, .null, .null, .null, .null, .null])), (q9, .inr (9, [.int 0, .int 4096, .int 0, .long 1, .int 0, .int 1, .int 127]))] := hD9
  clear hP9 hD9 hK1
  skip
  refine W.widen (k := 1) (n := 7) (by decide) (by decide) ?_
  refine va_putF (D := D) (ci := 10) (v := .ref q9) (ty := .object "Phaselock$Transmitter") (C := RX10) (T := TX10) (N := 10) hx hb hts (fun _ h => List.mem_cons_of_mem _ (List.mem_append_left _ (List.mem_append_left _ (List.mem_append_left _ (List.mem_append_left _ (List.mem_append_left _ (List.mem_append_left _ (List.mem_append_left _ (List.mem_append_left _ (List.mem_append_left _ (List.mem_append_right _ (h)))))))))))) tyX10 tyX10_ok nmX10 hown hK hP hD hS 0 rfl rfl 0 (by decide) (hts (.fieldLink RX10 10 "Phaselock" "transmitter" "LPhaselock$Transmitter;") (List.mem_cons_of_mem _ (List.mem_append_left _ (List.mem_append_left _ (List.mem_append_left _ (List.mem_append_left _ (List.mem_append_left _ (List.mem_append_left _ (List.mem_append_left _ (List.mem_append_left _ (List.mem_append_left _ (List.mem_append_left _ (List.mem_append_left _ (List.mem_append_left _ (List.mem_of_getElem? (i := 6) rfl))))))))))))))) (fun _ h9 => h9) rfl hin rfl (by decide +kernel) rfl rfl (Nat.le_of_ble_eq_true rfl) dX10_init_12 (fun H locs hP hD hS => ?_)
  replace hP : va_P D vwCl [(h0, .inr (10, [.ref q9, .null, .null, .null, .null, .null, .null, .null, .null, .null])), (q9, .inr (9, [.int 0, .int 4096, .int 0, .long 1, .int 0, .int 1, .int 127]))] H := hP
  replace hD : va_D A [(h0, .inr (10, [.ref q9, .null, .null, .null, .null, .null, .null, .null, .null, .null])), (q9, .inr (9, [.int 0, .int 4096, .int 0, .long 1, .int 0, .int 1, .int 127]))] := hD
  refine lv_aload_n hx hb dX10_init_15 rfl (lv_at hl 0 rfl) ?_
  refine va_new (ci := 3) (fs := [.int 0]) (C := RX3) (T := TX3) (N := 1) hx hb hts (fun _ h => List.mem_cons_of_mem _ (List.mem_append_left _ (List.mem_append_left _ (List.mem_append_left _ (List.mem_append_left _ (List.mem_append_left _ (List.mem_append_left _ (List.mem_append_left _ (List.mem_append_left _ (List.mem_append_right _ (h))))))))))) tyX3 tyX3_ok hown (hts (.classLink RX10 16 RX3) (List.mem_cons_of_mem _ (List.mem_append_left _ (List.mem_append_left _ (List.mem_append_left _ (List.mem_append_left _ (List.mem_append_left _ (List.mem_append_left _ (List.mem_append_left _ (List.mem_append_left _ (List.mem_append_left _ (List.mem_append_left _ (List.mem_append_left _ (List.mem_append_left _ (List.mem_of_getElem? (i := 7) rfl))))))))))))))) (hts (.instantiable RX3 1) (List.mem_cons_of_mem _ (List.mem_append_left _ (List.mem_append_left _ (List.mem_append_left _ (List.mem_append_left _ (List.mem_append_left _ (List.mem_append_left _ (List.mem_append_left _ (List.mem_append_left _ (List.mem_append_left _ (List.mem_append_left _ (List.mem_append_left _ (List.mem_append_left _ (List.mem_of_getElem? (i := 8) rfl))))))))))))))) (hts (.initialized RX3) (List.mem_cons_of_mem _ (List.mem_append_left _ (List.mem_append_left _ (List.mem_append_left _ (List.mem_append_left _ (List.mem_append_left _ (List.mem_append_left _ (List.mem_append_left _ (List.mem_append_left _ (List.mem_append_left _ (List.mem_append_left _ (List.mem_append_left _ (List.mem_append_left _ (List.mem_of_getElem? (i := 9) rfl))))))))))))))) hK hP hD hS hA rfl (fun j hj => by rcases (show j = 0 by omega) with rfl <;> rfl) (Nat.le_of_ble_eq_true rfl) (Nat.le_of_ble_eq_true rfl) dX10_init_16 (fun q3 H hP hD hS => ?_)
  replace hP : va_P D vwCl [(h0, .inr (10, [.ref q9, .null, .null, .null, .null, .null, .null, .null, .null, .null])), (q9, .inr (9, [.int 0, .int 4096, .int 0, .long 1, .int 0, .int 1, .int 127])), (q3, .inr (3, [.int 0]))] H := hP
  replace hD : va_D A [(h0, .inr (10, [.ref q9, .null, .null, .null, .null, .null, .null, .null, .null, .null])), (q9, .inr (9, [.int 0, .int 4096, .int 0, .long 1, .int 0, .int 1, .int 127])), (q3, .inr (3, [.int 0]))] := hD
  refine W.widen (k := 2) (n := 8) (by decide) (by decide) ?_
  refine lv_dup hx hb dX10_init_19 rfl ?_
  have hPc := hP.sub (ws' := [(q3, .inr (3, [.int 0]))]) [2] rfl
  have hDc := hD.sub (ws' := [(q3, .inr (3, [.int 0]))]) [2] (by decide) rfl
  have hKc := hK.sub (tys' := []) [] rfl
  have hFc := va_free (wc := [(q3, .inr (3, [.int 0]))]) hD hS hA [2] rfl
  refine va_callv (va_runIN (As := []) (rest := [.ref q3, .ref h0]) ⟨hx, hb, hml, hown, hts⟩ (k_X3_init l D q3 H.size) ⟨va_cnB 0 hts gX10_init_X3_init_n18 rfl rfl rfl n18 (hts (.initialized RX3) (List.mem_cons_of_mem _ (List.mem_append_left _ (List.mem_append_left _ (List.mem_append_left _ (List.mem_append_left _ (List.mem_append_left _ (List.mem_append_left _ (List.mem_append_left _ (List.mem_append_left _ (List.mem_append_left _ (List.mem_append_left _ (List.mem_append_left _ (List.mem_append_left _ (List.mem_of_getElem? (i := 9) rfl))))))))))))))) (by decide +kernel) ⟨Nat.le_of_ble_eq_true rfl, Nat.le_of_ble_eq_true rfl⟩, rfl, (hts (.instanceMethod yX3_init) (List.mem_cons_of_mem _ (List.mem_append_left _ (List.mem_append_left _ (List.mem_append_left _ (List.mem_append_left _ (List.mem_append_left _ (List.mem_append_left _ (List.mem_append_left _ (List.mem_append_left _ (List.mem_append_left _ (List.mem_append_left _ (List.mem_append_left _ (List.mem_append_right _ (List.mem_append_right _ (List.mem_append_left _ (List.mem_of_getElem? (i := 5) rfl)))))))))))))))))⟩ ⟨blW okN_T, preW hPc hKc hDc okN_T trivial⟩ rfl rfl hl.1 rfl (lv_room (Nat.le_of_ble_eq_true rfl)) dX10_init_20 ⟨Nat.le_of_ble_eq_true rfl, Nat.le_of_ble_eq_true rfl⟩) hS (fun q _ h => hFc q h) hFc (fun u t H1 locs ht hvm hw hB hz1 hk1 hS => ?_)
  obtain ⟨hP1, hK1, hD1⟩ := hB
  rw [ht] at hP1
  replace hK1 := va_K.moved hvm.symm hK1
  replace hP1 : va_P D vwCl [(q3, .inr (3, [.int 65535]))] H1 := hP1
  replace hD1 : va_D (va_A [(q3, .inr (3, [.int 0]))] H.size) [(q3, .inr (3, [.int 65535]))] := hD1
  replace hK1 : va_K D vwCl [] s := hK1
  obtain ⟨hP9, hD9⟩ := va_join (wr := [(h0, .inr (10, [.ref q9, .null, .null, .null, .null, .null, .null, .null, .null, .null])), (q9, .inr (9, [.int 0, .int 4096, .int 0, .long 1, .int 0, .int 1, .int 127]))]) (w1 := [(q3, .inr (3, [.int 65535]))]) hP hD [2] [0, 1] rfl rfl (by decide) (by decide) hk1 hFc hP1 hD1
  clear hPc hDc hKc hFc hP1 hD1 hz1 hk1 hw ht hvm t
  replace hK : va_K D vwCl [] s := va_K.app hK hK1
  replace hP : va_P D vwCl [(h0, .inr (10, [.ref q9, .null, .null, .null, .null, .null, .null, .null, .null, .null])), (q9, .inr (9, [.int 0, .int 4096, .int 0, .long 1, .int 0, .int 1, .int 127])), (q3, .inr (3, [.int 65535]))] H1 := hP9
  replace hD : va_D A [(h0, .inr (10, [.ref q9, .null, .null, .null, .null, .null, .null, .null, .null, .null])), (q9, .inr (9, [.int 0, .int 4096, .int 0, .long 1, .int 0, .int 1, .int 127])), (q3, .inr (3, [.int 65535]))] := hD9
  clear hP9 hD9 hK1
  skip
  refine W.widen (k := 2) (n := 8) (by decide) (by decide) ?_
  refine va_putF (D := D) (ci := 10) (v := .ref q3) (ty := .object "Phaselock$LineMemory") (C := RX10) (T := TX10) (N := 10) hx hb hts (fun _ h => List.mem_cons_of_mem _ (List.mem_append_left _ (List.mem_append_left _ (List.mem_append_left _ (List.mem_append_left _ (List.mem_append_left _ (List.mem_append_left _ (List.mem_append_left _ (List.mem_append_left _ (List.mem_append_left _ (List.mem_append_right _ (h)))))))))))) tyX10 tyX10_ok nmX10 hown hK hP hD hS 0 rfl rfl 1 (by decide) (hts (.fieldLink RX10 19 "Phaselock" "memory" "LPhaselock$LineMemory;") (List.mem_cons_of_mem _ (List.mem_append_left _ (List.mem_append_left _ (List.mem_append_left _ (List.mem_append_left _ (List.mem_append_left _ (List.mem_append_left _ (List.mem_append_left _ (List.mem_append_left _ (List.mem_append_left _ (List.mem_append_left _ (List.mem_append_left _ (List.mem_append_left _ (List.mem_of_getElem? (i := 10) rfl))))))))))))))) (fun _ h9 => h9) rfl hin rfl (by decide +kernel) rfl rfl (Nat.le_of_ble_eq_true rfl) dX10_init_23 (fun H locs hP hD hS => ?_)
  replace hP : va_P D vwCl [(h0, .inr (10, [.ref q9, .ref q3, .null, .null, .null, .null, .null, .null, .null, .null])), (q9, .inr (9, [.int 0, .int 4096, .int 0, .long 1, .int 0, .int 1, .int 127])), (q3, .inr (3, [.int 65535]))] H := hP
  replace hD : va_D A [(h0, .inr (10, [.ref q9, .ref q3, .null, .null, .null, .null, .null, .null, .null, .null])), (q9, .inr (9, [.int 0, .int 4096, .int 0, .long 1, .int 0, .int 1, .int 127])), (q3, .inr (3, [.int 65535]))] := hD
  refine lv_aload_n hx hb dX10_init_26 rfl (lv_at hl 0 rfl) ?_
  refine va_new (ci := 2) (fs := [.int 0, .null]) (C := RX2) (T := TX2) (N := 2) hx hb hts (fun _ h => List.mem_cons_of_mem _ (List.mem_append_left _ (List.mem_append_left _ (List.mem_append_left _ (List.mem_append_left _ (List.mem_append_left _ (List.mem_append_left _ (List.mem_append_left _ (List.mem_append_right _ (h)))))))))) tyX2 tyX2_ok hown (hts (.classLink RX10 23 RX2) (List.mem_cons_of_mem _ (List.mem_append_left _ (List.mem_append_left _ (List.mem_append_left _ (List.mem_append_left _ (List.mem_append_left _ (List.mem_append_left _ (List.mem_append_left _ (List.mem_append_left _ (List.mem_append_left _ (List.mem_append_left _ (List.mem_append_left _ (List.mem_append_left _ (List.mem_of_getElem? (i := 11) rfl))))))))))))))) (hts (.instantiable RX2 2) (List.mem_cons_of_mem _ (List.mem_append_left _ (List.mem_append_left _ (List.mem_append_left _ (List.mem_append_left _ (List.mem_append_left _ (List.mem_append_left _ (List.mem_append_left _ (List.mem_append_left _ (List.mem_append_left _ (List.mem_append_left _ (List.mem_append_left _ (List.mem_append_left _ (List.mem_of_getElem? (i := 12) rfl))))))))))))))) (hts (.initialized RX2) (List.mem_cons_of_mem _ (List.mem_append_left _ (List.mem_append_left _ (List.mem_append_left _ (List.mem_append_left _ (List.mem_append_left _ (List.mem_append_left _ (List.mem_append_left _ (List.mem_append_left _ (List.mem_append_left _ (List.mem_append_left _ (List.mem_append_left _ (List.mem_append_left _ (List.mem_of_getElem? (i := 13) rfl))))))))))))))) hK hP hD hS hA rfl (fun j hj => by rcases (show j = 0 ∨ j = 1 by omega) with rfl | rfl <;> rfl) (Nat.le_of_ble_eq_true rfl) (Nat.le_of_ble_eq_true rfl) dX10_init_27 (fun q2 H hP hD hS => ?_)
  replace hP : va_P D vwCl [(h0, .inr (10, [.ref q9, .ref q3, .null, .null, .null, .null, .null, .null, .null, .null])), (q9, .inr (9, [.int 0, .int 4096, .int 0, .long 1, .int 0, .int 1, .int 127])), (q3, .inr (3, [.int 65535])), (q2, .inr (2, [.int 0, .null]))] H := hP
  replace hD : va_D A [(h0, .inr (10, [.ref q9, .ref q3, .null, .null, .null, .null, .null, .null, .null, .null])), (q9, .inr (9, [.int 0, .int 4096, .int 0, .long 1, .int 0, .int 1, .int 127])), (q3, .inr (3, [.int 65535])), (q2, .inr (2, [.int 0, .null]))] := hD
  refine W.widen (k := 3) (n := 10) (by decide) (by decide) ?_
  refine lv_dup hx hb dX10_init_30 rfl ?_
  have hPc := hP.sub (ws' := [(q2, .inr (2, [.int 0, .null]))]) [3] rfl
  have hDc := hD.sub (ws' := [(q2, .inr (2, [.int 0, .null]))]) [3] (by decide) rfl
  have hKc := hK.sub (tys' := []) [] rfl
  have hFc := va_free (wc := [(q2, .inr (2, [.int 0, .null]))]) hD hS hA [3] rfl
  refine va_callv (va_runIN (As := []) (rest := [.ref q2, .ref h0]) ⟨hx, hb, hml, hown, hts⟩ (k_X2_init l D q2 H.size) ⟨va_cnB 0 hts gX10_init_X2_init_n25 rfl rfl rfl n25 (hts (.initialized RX2) (List.mem_cons_of_mem _ (List.mem_append_left _ (List.mem_append_left _ (List.mem_append_left _ (List.mem_append_left _ (List.mem_append_left _ (List.mem_append_left _ (List.mem_append_left _ (List.mem_append_left _ (List.mem_append_left _ (List.mem_append_left _ (List.mem_append_left _ (List.mem_append_left _ (List.mem_of_getElem? (i := 13) rfl))))))))))))))) (by decide +kernel) ⟨Nat.le_of_ble_eq_true rfl, Nat.le_of_ble_eq_true rfl⟩, rfl, (hts (.instanceMethod yX2_init) (List.mem_cons_of_mem _ (List.mem_append_left _ (List.mem_append_left _ (List.mem_append_left _ (List.mem_append_left _ (List.mem_append_left _ (List.mem_append_left _ (List.mem_append_left _ (List.mem_append_left _ (List.mem_append_left _ (List.mem_append_left _ (List.mem_append_left _ (List.mem_append_right _ (List.mem_append_right _ (List.mem_append_left _ (List.mem_of_getElem? (i := 10) rfl)))))))))))))))))⟩ ⟨blW okN_T, preW hPc hKc hDc okN_T trivial⟩ rfl rfl hl.1 rfl (lv_room (Nat.le_of_ble_eq_true rfl)) dX10_init_31 ⟨Nat.le_of_ble_eq_true rfl, Nat.le_of_ble_eq_true rfl⟩) hS (fun q _ h => hFc q h) hFc (fun u t H1 locs ht hvm hw hB hz1 hk1 hS => ?_)
  obtain ⟨hP1, hK1, hD1⟩ := hB
  rw [ht] at hP1
  replace hK1 := va_K.moved hvm.symm hK1
  obtain ⟨r2, cA2⟩ := u
  replace hP1 : va_P D vwCl [(q2, .inr (2, [.int 0, .ref r2])), (r2, .inl (cA2, 256, .inl (fun _ => 0)))] H1 := hP1
  replace hD1 : va_D (va_A [(q2, .inr (2, [.int 0, .null]))] H.size) [(q2, .inr (2, [.int 0, .ref r2])), (r2, .inl (cA2, 256, .inl (fun _ => 0)))] := hD1
  replace hK1 : va_K D vwCl [(cA2, .boolean)] s := hK1
  obtain ⟨hP9, hD9⟩ := va_join (wr := [(h0, .inr (10, [.ref q9, .ref q3, .null, .null, .null, .null, .null, .null, .null, .null])), (q9, .inr (9, [.int 0, .int 4096, .int 0, .long 1, .int 0, .int 1, .int 127])), (q3, .inr (3, [.int 65535]))]) (w1 := [(q2, .inr (2, [.int 0, .ref r2])), (r2, .inl (cA2, 256, .inl (fun _ => 0)))]) hP hD [3] [0, 1, 2] rfl rfl (by decide) (by decide) hk1 hFc hP1 hD1
  clear hPc hDc hKc hFc hP1 hD1 hz1 hk1 hw ht hvm t
  replace hK : va_K D vwCl [(cA2, .boolean)] s := va_K.app hK hK1
  replace hP : va_P D vwCl [(h0, .inr (10, [.ref q9, .ref q3, .null, .null, .null, .null, .null, .null, .null, .null])), (q9, .inr (9, [.int 0, .int 4096, .int 0, .long 1, .int 0, .int 1, .int 127])), (q3, .inr (3, [.int 65535])), (q2, .inr (2, [.int 0, .ref r2])), (r2, .inl (cA2, 256, .inl (fun _ => 0)))] H1 := hP9
  replace hD : va_D A [(h0, .inr (10, [.ref q9, .ref q3, .null, .null, .null, .null, .null, .null, .null, .null])), (q9, .inr (9, [.int 0, .int 4096, .int 0, .long 1, .int 0, .int 1, .int 127])), (q3, .inr (3, [.int 65535])), (q2, .inr (2, [.int 0, .ref r2])), (r2, .inl (cA2, 256, .inl (fun _ => 0)))] := hD9
  clear hP9 hD9 hK1
  skip
  refine W.widen (k := 4) (n := 266) (by decide) (by decide) ?_
  refine va_putF (D := D) (ci := 10) (v := .ref q2) (ty := .object "Phaselock$EdgeLog") (C := RX10) (T := TX10) (N := 10) hx hb hts (fun _ h => List.mem_cons_of_mem _ (List.mem_append_left _ (List.mem_append_left _ (List.mem_append_left _ (List.mem_append_left _ (List.mem_append_left _ (List.mem_append_left _ (List.mem_append_left _ (List.mem_append_left _ (List.mem_append_left _ (List.mem_append_right _ (h)))))))))))) tyX10 tyX10_ok nmX10 hown hK hP hD hS 0 rfl rfl 2 (by decide) (hts (.fieldLink RX10 26 "Phaselock" "edges" "LPhaselock$EdgeLog;") (List.mem_cons_of_mem _ (List.mem_append_left _ (List.mem_append_left _ (List.mem_append_left _ (List.mem_append_left _ (List.mem_append_left _ (List.mem_append_left _ (List.mem_append_left _ (List.mem_append_left _ (List.mem_append_left _ (List.mem_append_left _ (List.mem_append_left _ (List.mem_append_left _ (List.mem_of_getElem? (i := 14) rfl))))))))))))))) (fun _ h9 => h9) rfl hin rfl (by decide +kernel) rfl rfl (Nat.le_of_ble_eq_true rfl) dX10_init_34 (fun H locs hP hD hS => ?_)
  replace hP : va_P D vwCl [(h0, .inr (10, [.ref q9, .ref q3, .ref q2, .null, .null, .null, .null, .null, .null, .null])), (q9, .inr (9, [.int 0, .int 4096, .int 0, .long 1, .int 0, .int 1, .int 127])), (q3, .inr (3, [.int 65535])), (q2, .inr (2, [.int 0, .ref r2])), (r2, .inl (cA2, 256, .inl (fun _ => 0)))] H := hP
  replace hD : va_D A [(h0, .inr (10, [.ref q9, .ref q3, .ref q2, .null, .null, .null, .null, .null, .null, .null])), (q9, .inr (9, [.int 0, .int 4096, .int 0, .long 1, .int 0, .int 1, .int 127])), (q3, .inr (3, [.int 65535])), (q2, .inr (2, [.int 0, .ref r2])), (r2, .inl (cA2, 256, .inl (fun _ => 0)))] := hD
  refine lv_aload_n hx hb dX10_init_37 rfl (lv_at hl 0 rfl) ?_
  refine va_new (ci := 5) (fs := [.int 0]) (C := RX5) (T := TX5) (N := 1) hx hb hts (fun _ h => List.mem_cons_of_mem _ (List.mem_append_left _ (List.mem_append_left _ (List.mem_append_left _ (List.mem_append_left _ (List.mem_append_left _ (List.mem_append_left _ (List.mem_append_right _ (h))))))))) tyX5 tyX5_ok hown (hts (.classLink RX10 30 RX5) (List.mem_cons_of_mem _ (List.mem_append_left _ (List.mem_append_left _ (List.mem_append_left _ (List.mem_append_left _ (List.mem_append_left _ (List.mem_append_left _ (List.mem_append_left _ (List.mem_append_left _ (List.mem_append_left _ (List.mem_append_left _ (List.mem_append_left _ (List.mem_append_left _ (List.mem_of_getElem? (i := 15) rfl))))))))))))))) (hts (.instantiable RX5 1) (List.mem_cons_of_mem _ (List.mem_append_left _ (List.mem_append_left _ (List.mem_append_left _ (List.mem_append_left _ (List.mem_append_left _ (List.mem_append_left _ (List.mem_append_left _ (List.mem_append_left _ (List.mem_append_left _ (List.mem_append_left _ (List.mem_append_left _ (List.mem_append_left _ (List.mem_of_getElem? (i := 16) rfl))))))))))))))) (hts (.initialized RX5) (List.mem_cons_of_mem _ (List.mem_append_left _ (List.mem_append_left _ (List.mem_append_left _ (List.mem_append_left _ (List.mem_append_left _ (List.mem_append_left _ (List.mem_append_left _ (List.mem_append_left _ (List.mem_append_left _ (List.mem_append_left _ (List.mem_append_left _ (List.mem_append_left _ (List.mem_of_getElem? (i := 17) rfl))))))))))))))) hK hP hD hS hA rfl (fun j hj => by rcases (show j = 0 by omega) with rfl <;> rfl) (Nat.le_of_ble_eq_true rfl) (Nat.le_of_ble_eq_true rfl) dX10_init_38 (fun q5 H hP hD hS => ?_)
  replace hP : va_P D vwCl [(h0, .inr (10, [.ref q9, .ref q3, .ref q2, .null, .null, .null, .null, .null, .null, .null])), (q9, .inr (9, [.int 0, .int 4096, .int 0, .long 1, .int 0, .int 1, .int 127])), (q3, .inr (3, [.int 65535])), (q2, .inr (2, [.int 0, .ref r2])), (r2, .inl (cA2, 256, .inl (fun _ => 0))), (q5, .inr (5, [.int 0]))] H := hP
  replace hD : va_D A [(h0, .inr (10, [.ref q9, .ref q3, .ref q2, .null, .null, .null, .null, .null, .null, .null])), (q9, .inr (9, [.int 0, .int 4096, .int 0, .long 1, .int 0, .int 1, .int 127])), (q3, .inr (3, [.int 65535])), (q2, .inr (2, [.int 0, .ref r2])), (r2, .inl (cA2, 256, .inl (fun _ => 0))), (q5, .inr (5, [.int 0]))] := hD
  refine W.widen (k := 5) (n := 267) (by decide) (by decide) ?_
  refine lv_dup hx hb dX10_init_41 rfl ?_
  have hPc := hP.sub (ws' := [(q5, .inr (5, [.int 0]))]) [5] rfl
  have hDc := hD.sub (ws' := [(q5, .inr (5, [.int 0]))]) [5] (by decide) rfl
  have hKc := hK.sub (tys' := []) [] rfl
  have hFc := va_free (wc := [(q5, .inr (5, [.int 0]))]) hD hS hA [5] rfl
  refine va_callv (va_runIN (As := []) (rest := [.ref q5, .ref h0]) ⟨hx, hb, hml, hown, hts⟩ (k_X5_init l D q5 H.size) ⟨va_cnB 0 hts gX10_init_X5_init_n32 rfl rfl rfl n32 (hts (.initialized RX5) (List.mem_cons_of_mem _ (List.mem_append_left _ (List.mem_append_left _ (List.mem_append_left _ (List.mem_append_left _ (List.mem_append_left _ (List.mem_append_left _ (List.mem_append_left _ (List.mem_append_left _ (List.mem_append_left _ (List.mem_append_left _ (List.mem_append_left _ (List.mem_append_left _ (List.mem_of_getElem? (i := 17) rfl))))))))))))))) (by decide +kernel) ⟨Nat.le_of_ble_eq_true rfl, Nat.le_of_ble_eq_true rfl⟩, rfl, (hts (.instanceMethod yX5_init) (List.mem_cons_of_mem _ (List.mem_append_left _ (List.mem_append_left _ (List.mem_append_left _ (List.mem_append_left _ (List.mem_append_left _ (List.mem_append_left _ (List.mem_append_left _ (List.mem_append_left _ (List.mem_append_left _ (List.mem_append_left _ (List.mem_append_left _ (List.mem_append_right _ (List.mem_append_right _ (List.mem_append_left _ (List.mem_of_getElem? (i := 16) rfl)))))))))))))))))⟩ ⟨blW okN_T, preW hPc hKc hDc okN_T trivial⟩ rfl rfl hl.1 rfl (lv_room (Nat.le_of_ble_eq_true rfl)) dX10_init_42 ⟨Nat.le_of_ble_eq_true rfl, Nat.le_of_ble_eq_true rfl⟩) hS (fun q _ h => hFc q h) hFc (fun u t H1 locs ht hvm hw hB hz1 hk1 hS => ?_)
  obtain ⟨hP1, hK1, hD1⟩ := hB
  rw [ht] at hP1
  replace hK1 := va_K.moved hvm.symm hK1
  replace hP1 : va_P D vwCl [(q5, .inr (5, [.int 0]))] H1 := hP1
  replace hD1 : va_D (va_A [(q5, .inr (5, [.int 0]))] H.size) [(q5, .inr (5, [.int 0]))] := hD1
  replace hK1 : va_K D vwCl [] s := hK1
  obtain ⟨hP9, hD9⟩ := va_join (wr := [(h0, .inr (10, [.ref q9, .ref q3, .ref q2, .null, .null, .null, .null, .null, .null, .null])), (q9, .inr (9, [.int 0, .int 4096, .int 0, .long 1, .int 0, .int 1, .int 127])), (q3, .inr (3, [.int 65535])), (q2, .inr (2, [.int 0, .ref r2])), (r2, .inl (cA2, 256, .inl (fun _ => 0)))]) (w1 := [(q5, .inr (5, [.int 0]))]) hP hD [5] [0, 1, 2, 3, 4] rfl rfl (by decide) (by decide) hk1 hFc hP1 hD1
  clear hPc hDc hKc hFc hP1 hD1 hz1 hk1 hw ht hvm t
  replace hK : va_K D vwCl [(cA2, .boolean)] s := va_K.app hK hK1
  replace hP : va_P D vwCl [(h0, .inr (10, [.ref q9, .ref q3, .ref q2, .null, .null, .null, .null, .null, .null, .null])), (q9, .inr (9, [.int 0, .int 4096, .int 0, .long 1, .int 0, .int 1, .int 127])), (q3, .inr (3, [.int 65535])), (q2, .inr (2, [.int 0, .ref r2])), (r2, .inl (cA2, 256, .inl (fun _ => 0))), (q5, .inr (5, [.int 0]))] H1 := hP9
  replace hD : va_D A [(h0, .inr (10, [.ref q9, .ref q3, .ref q2, .null, .null, .null, .null, .null, .null, .null])), (q9, .inr (9, [.int 0, .int 4096, .int 0, .long 1, .int 0, .int 1, .int 127])), (q3, .inr (3, [.int 65535])), (q2, .inr (2, [.int 0, .ref r2])), (r2, .inl (cA2, 256, .inl (fun _ => 0))), (q5, .inr (5, [.int 0]))] := hD9
  clear hP9 hD9 hK1
  skip
  refine W.widen (k := 5) (n := 267) (by decide) (by decide) ?_
  refine va_putF (D := D) (ci := 10) (v := .ref q5) (ty := .object "Phaselock$Oscillator") (C := RX10) (T := TX10) (N := 10) hx hb hts (fun _ h => List.mem_cons_of_mem _ (List.mem_append_left _ (List.mem_append_left _ (List.mem_append_left _ (List.mem_append_left _ (List.mem_append_left _ (List.mem_append_left _ (List.mem_append_left _ (List.mem_append_left _ (List.mem_append_left _ (List.mem_append_right _ (h)))))))))))) tyX10 tyX10_ok nmX10 hown hK hP hD hS 0 rfl rfl 3 (by decide) (hts (.fieldLink RX10 33 "Phaselock" "oscillator" "LPhaselock$Oscillator;") (List.mem_cons_of_mem _ (List.mem_append_left _ (List.mem_append_left _ (List.mem_append_left _ (List.mem_append_left _ (List.mem_append_left _ (List.mem_append_left _ (List.mem_append_left _ (List.mem_append_left _ (List.mem_append_left _ (List.mem_append_left _ (List.mem_append_left _ (List.mem_append_left _ (List.mem_of_getElem? (i := 18) rfl))))))))))))))) (fun _ h9 => h9) rfl hin rfl (by decide +kernel) rfl rfl (Nat.le_of_ble_eq_true rfl) dX10_init_45 (fun H locs hP hD hS => ?_)
  replace hP : va_P D vwCl [(h0, .inr (10, [.ref q9, .ref q3, .ref q2, .ref q5, .null, .null, .null, .null, .null, .null])), (q9, .inr (9, [.int 0, .int 4096, .int 0, .long 1, .int 0, .int 1, .int 127])), (q3, .inr (3, [.int 65535])), (q2, .inr (2, [.int 0, .ref r2])), (r2, .inl (cA2, 256, .inl (fun _ => 0))), (q5, .inr (5, [.int 0]))] H := hP
  replace hD : va_D A [(h0, .inr (10, [.ref q9, .ref q3, .ref q2, .ref q5, .null, .null, .null, .null, .null, .null])), (q9, .inr (9, [.int 0, .int 4096, .int 0, .long 1, .int 0, .int 1, .int 127])), (q3, .inr (3, [.int 65535])), (q2, .inr (2, [.int 0, .ref r2])), (r2, .inl (cA2, 256, .inl (fun _ => 0))), (q5, .inr (5, [.int 0]))] := hD
  refine lv_aload_n hx hb dX10_init_48 rfl (lv_at hl 0 rfl) ?_
  refine va_new (ci := 6) (fs := [.int 0, .int 0, .int 0, .int 0, .int 0, .int 0, .int 0]) (C := RX6) (T := TX6) (N := 7) hx hb hts (fun _ h => List.mem_cons_of_mem _ (List.mem_append_left _ (List.mem_append_left _ (List.mem_append_left _ (List.mem_append_left _ (List.mem_append_left _ (List.mem_append_right _ (h)))))))) tyX6 tyX6_ok hown (hts (.classLink RX10 37 RX6) (List.mem_cons_of_mem _ (List.mem_append_left _ (List.mem_append_left _ (List.mem_append_left _ (List.mem_append_left _ (List.mem_append_left _ (List.mem_append_left _ (List.mem_append_left _ (List.mem_append_left _ (List.mem_append_left _ (List.mem_append_left _ (List.mem_append_left _ (List.mem_append_left _ (List.mem_of_getElem? (i := 19) rfl))))))))))))))) (hts (.instantiable RX6 7) (List.mem_cons_of_mem _ (List.mem_append_left _ (List.mem_append_left _ (List.mem_append_left _ (List.mem_append_left _ (List.mem_append_left _ (List.mem_append_left _ (List.mem_append_left _ (List.mem_append_left _ (List.mem_append_left _ (List.mem_append_left _ (List.mem_append_left _ (List.mem_append_left _ (List.mem_of_getElem? (i := 20) rfl))))))))))))))) (hts (.initialized RX6) (List.mem_cons_of_mem _ (List.mem_append_left _ (List.mem_append_left _ (List.mem_append_left _ (List.mem_append_left _ (List.mem_append_left _ (List.mem_append_left _ (List.mem_append_left _ (List.mem_append_left _ (List.mem_append_left _ (List.mem_append_left _ (List.mem_append_left _ (List.mem_append_left _ (List.mem_of_getElem? (i := 21) rfl))))))))))))))) hK hP hD hS hA rfl (fun j hj => by rcases (show j = 0 ∨ j = 1 ∨ j = 2 ∨ j = 3 ∨ j = 4 ∨ j = 5 ∨ j = 6 by omega) with rfl | rfl | rfl | rfl | rfl | rfl | rfl <;> rfl) (Nat.le_of_ble_eq_true rfl) (Nat.le_of_ble_eq_true rfl) dX10_init_49 (fun q6 H hP hD hS => ?_)
  replace hP : va_P D vwCl [(h0, .inr (10, [.ref q9, .ref q3, .ref q2, .ref q5, .null, .null, .null, .null, .null, .null])), (q9, .inr (9, [.int 0, .int 4096, .int 0, .long 1, .int 0, .int 1, .int 127])), (q3, .inr (3, [.int 65535])), (q2, .inr (2, [.int 0, .ref r2])), (r2, .inl (cA2, 256, .inl (fun _ => 0))), (q5, .inr (5, [.int 0])), (q6, .inr (6, [.int 0, .int 0, .int 0, .int 0, .int 0, .int 0, .int 0]))] H := hP
  replace hD : va_D A [(h0, .inr (10, [.ref q9, .ref q3, .ref q2, .ref q5, .null, .null, .null, .null, .null, .null])), (q9, .inr (9, [.int 0, .int 4096, .int 0, .long 1, .int 0, .int 1, .int 127])), (q3, .inr (3, [.int 65535])), (q2, .inr (2, [.int 0, .ref r2])), (r2, .inl (cA2, 256, .inl (fun _ => 0))), (q5, .inr (5, [.int 0])), (q6, .inr (6, [.int 0, .int 0, .int 0, .int 0, .int 0, .int 0, .int 0]))] := hD
  refine W.widen (k := 6) (n := 274) (by decide) (by decide) ?_
  refine lv_dup hx hb dX10_init_52 rfl ?_
  have hPc := hP.sub (ws' := [(q6, .inr (6, [.int 0, .int 0, .int 0, .int 0, .int 0, .int 0, .int 0]))]) [6] rfl
  have hDc := hD.sub (ws' := [(q6, .inr (6, [.int 0, .int 0, .int 0, .int 0, .int 0, .int 0, .int 0]))]) [6] (by decide) rfl
  have hKc := hK.sub (tys' := []) [] rfl
  have hFc := va_free (wc := [(q6, .inr (6, [.int 0, .int 0, .int 0, .int 0, .int 0, .int 0, .int 0]))]) hD hS hA [6] rfl
  refine va_callv (va_runIN (As := []) (rest := [.ref q6, .ref h0]) ⟨hx, hb, hml, hown, hts⟩ (k_X6_init l D q6 H.size) ⟨va_cnB 0 hts gX10_init_X6_init_n39 rfl rfl rfl n39 (hts (.initialized RX6) (List.mem_cons_of_mem _ (List.mem_append_left _ (List.mem_append_left _ (List.mem_append_left _ (List.mem_append_left _ (List.mem_append_left _ (List.mem_append_left _ (List.mem_append_left _ (List.mem_append_left _ (List.mem_append_left _ (List.mem_append_left _ (List.mem_append_left _ (List.mem_append_left _ (List.mem_of_getElem? (i := 21) rfl))))))))))))))) (by decide +kernel) ⟨Nat.le_of_ble_eq_true rfl, Nat.le_of_ble_eq_true rfl⟩, rfl, (hts (.instanceMethod yX6_init) (List.mem_cons_of_mem _ (List.mem_append_left _ (List.mem_append_left _ (List.mem_append_left _ (List.mem_append_left _ (List.mem_append_left _ (List.mem_append_left _ (List.mem_append_left _ (List.mem_append_left _ (List.mem_append_left _ (List.mem_append_left _ (List.mem_append_left _ (List.mem_append_right _ (List.mem_append_right _ (List.mem_append_left _ (List.mem_of_getElem? (i := 20) rfl)))))))))))))))))⟩ ⟨blW okN_T, preW hPc hKc hDc okN_T trivial⟩ rfl rfl hl.1 rfl (lv_room (Nat.le_of_ble_eq_true rfl)) dX10_init_53 ⟨Nat.le_of_ble_eq_true rfl, Nat.le_of_ble_eq_true rfl⟩) hS (fun q _ h => hFc q h) hFc (fun u t H1 locs ht hvm hw hB hz1 hk1 hS => ?_)
  obtain ⟨hP1, hK1, hD1⟩ := hB
  rw [ht] at hP1
  replace hK1 := va_K.moved hvm.symm hK1
  replace hP1 : va_P D vwCl [(q6, .inr (6, [.int 0, .int 0, .int 0, .int 0, .int 0, .int 0, .int 0]))] H1 := hP1
  replace hD1 : va_D (va_A [(q6, .inr (6, [.int 0, .int 0, .int 0, .int 0, .int 0, .int 0, .int 0]))] H.size) [(q6, .inr (6, [.int 0, .int 0, .int 0, .int 0, .int 0, .int 0, .int 0]))] := hD1
  replace hK1 : va_K D vwCl [] s := hK1
  obtain ⟨hP9, hD9⟩ := va_join (wr := [(h0, .inr (10, [.ref q9, .ref q3, .ref q2, .ref q5, .null, .null, .null, .null, .null, .null])), (q9, .inr (9, [.int 0, .int 4096, .int 0, .long 1, .int 0, .int 1, .int 127])), (q3, .inr (3, [.int 65535])), (q2, .inr (2, [.int 0, .ref r2])), (r2, .inl (cA2, 256, .inl (fun _ => 0))), (q5, .inr (5, [.int 0]))]) (w1 := [(q6, .inr (6, [.int 0, .int 0, .int 0, .int 0, .int 0, .int 0, .int 0]))]) hP hD [6] [0, 1, 2, 3, 4, 5] rfl rfl (by decide) (by decide) hk1 hFc hP1 hD1
  clear hPc hDc hKc hFc hP1 hD1 hz1 hk1 hw ht hvm t
  replace hK : va_K D vwCl [(cA2, .boolean)] s := va_K.app hK hK1
  replace hP : va_P D vwCl [(h0, .inr (10, [.ref q9, .ref q3, .ref q2, .ref q5, .null, .null, .null, .null, .null, .null])), (q9, .inr (9, [.int 0, .int 4096, .int 0, .long 1, .int 0, .int 1, .int 127])), (q3, .inr (3, [.int 65535])), (q2, .inr (2, [.int 0, .ref r2])), (r2, .inl (cA2, 256, .inl (fun _ => 0))), (q5, .inr (5, [.int 0])), (q6, .inr (6, [.int 0, .int 0, .int 0, .int 0, .int 0, .int 0, .int 0]))] H1 := hP9
  replace hD : va_D A [(h0, .inr (10, [.ref q9, .ref q3, .ref q2, .ref q5, .null, .null, .null, .null, .null, .null])), (q9, .inr (9, [.int 0, .int 4096, .int 0, .long 1, .int 0, .int 1, .int 127])), (q3, .inr (3, [.int 65535])), (q2, .inr (2, [.int 0, .ref r2])), (r2, .inl (cA2, 256, .inl (fun _ => 0))), (q5, .inr (5, [.int 0])), (q6, .inr (6, [.int 0, .int 0, .int 0, .int 0, .int 0, .int 0, .int 0]))] := hD9
  clear hP9 hD9 hK1
  skip
  refine W.widen (k := 6) (n := 274) (by decide) (by decide) ?_
  refine va_putF (D := D) (ci := 10) (v := .ref q6) (ty := .object "Phaselock$PhaseDetector") (C := RX10) (T := TX10) (N := 10) hx hb hts (fun _ h => List.mem_cons_of_mem _ (List.mem_append_left _ (List.mem_append_left _ (List.mem_append_left _ (List.mem_append_left _ (List.mem_append_left _ (List.mem_append_left _ (List.mem_append_left _ (List.mem_append_left _ (List.mem_append_left _ (List.mem_append_right _ (h)))))))))))) tyX10 tyX10_ok nmX10 hown hK hP hD hS 0 rfl rfl 4 (by decide) (hts (.fieldLink RX10 40 "Phaselock" "detector" "LPhaselock$PhaseDetector;") (List.mem_cons_of_mem _ (List.mem_append_left _ (List.mem_append_left _ (List.mem_append_left _ (List.mem_append_left _ (List.mem_append_left _ (List.mem_append_left _ (List.mem_append_left _ (List.mem_append_left _ (List.mem_append_left _ (List.mem_append_left _ (List.mem_append_left _ (List.mem_append_left _ (List.mem_of_getElem? (i := 22) rfl))))))))))))))) (fun _ h9 => h9) rfl hin rfl (by decide +kernel) rfl rfl (Nat.le_of_ble_eq_true rfl) dX10_init_56 (fun H locs hP hD hS => ?_)
  replace hP : va_P D vwCl [(h0, .inr (10, [.ref q9, .ref q3, .ref q2, .ref q5, .ref q6, .null, .null, .null, .null, .null])), (q9, .inr (9, [.int 0, .int 4096, .int 0, .long 1, .int 0, .int 1, .int 127])), (q3, .inr (3, [.int 65535])), (q2, .inr (2, [.int 0, .ref r2])), (r2, .inl (cA2, 256, .inl (fun _ => 0))), (q5, .inr (5, [.int 0])), (q6, .inr (6, [.int 0, .int 0, .int 0, .int 0, .int 0, .int 0, .int 0]))] H := hP
  replace hD : va_D A [(h0, .inr (10, [.ref q9, .ref q3, .ref q2, .ref q5, .ref q6, .null, .null, .null, .null, .null])), (q9, .inr (9, [.int 0, .int 4096, .int 0, .long 1, .int 0, .int 1, .int 127])), (q3, .inr (3, [.int 65535])), (q2, .inr (2, [.int 0, .ref r2])), (r2, .inl (cA2, 256, .inl (fun _ => 0))), (q5, .inr (5, [.int 0])), (q6, .inr (6, [.int 0, .int 0, .int 0, .int 0, .int 0, .int 0, .int 0]))] := hD
  refine lv_aload_n hx hb dX10_init_59 rfl (lv_at hl 0 rfl) ?_
  refine va_new (ci := 4) (fs := [.int 0, .int 0, .int 0, .int 0, .int 0]) (C := RX4) (T := TX4) (N := 5) hx hb hts (fun _ h => List.mem_cons_of_mem _ (List.mem_append_left _ (List.mem_append_left _ (List.mem_append_left _ (List.mem_append_left _ (List.mem_append_right _ (h))))))) tyX4 tyX4_ok hown (hts (.classLink RX10 44 RX4) (List.mem_cons_of_mem _ (List.mem_append_left _ (List.mem_append_left _ (List.mem_append_left _ (List.mem_append_left _ (List.mem_append_left _ (List.mem_append_left _ (List.mem_append_left _ (List.mem_append_left _ (List.mem_append_left _ (List.mem_append_left _ (List.mem_append_left _ (List.mem_append_left _ (List.mem_of_getElem? (i := 23) rfl))))))))))))))) (hts (.instantiable RX4 5) (List.mem_cons_of_mem _ (List.mem_append_left _ (List.mem_append_left _ (List.mem_append_left _ (List.mem_append_left _ (List.mem_append_left _ (List.mem_append_left _ (List.mem_append_left _ (List.mem_append_left _ (List.mem_append_left _ (List.mem_append_left _ (List.mem_append_left _ (List.mem_append_right _ (List.mem_append_left _ (List.mem_of_getElem? (i := 0) rfl)))))))))))))))) (hts (.initialized RX4) (List.mem_cons_of_mem _ (List.mem_append_left _ (List.mem_append_left _ (List.mem_append_left _ (List.mem_append_left _ (List.mem_append_left _ (List.mem_append_left _ (List.mem_append_left _ (List.mem_append_left _ (List.mem_append_left _ (List.mem_append_left _ (List.mem_append_left _ (List.mem_append_right _ (List.mem_append_left _ (List.mem_of_getElem? (i := 1) rfl)))))))))))))))) hK hP hD hS hA rfl (fun j hj => by rcases (show j = 0 ∨ j = 1 ∨ j = 2 ∨ j = 3 ∨ j = 4 by omega) with rfl | rfl | rfl | rfl | rfl <;> rfl) (Nat.le_of_ble_eq_true rfl) (Nat.le_of_ble_eq_true rfl) dX10_init_60 (fun q4 H hP hD hS => ?_)
  replace hP : va_P D vwCl [(h0, .inr (10, [.ref q9, .ref q3, .ref q2, .ref q5, .ref q6, .null, .null, .null, .null, .null])), (q9, .inr (9, [.int 0, .int 4096, .int 0, .long 1, .int 0, .int 1, .int 127])), (q3, .inr (3, [.int 65535])), (q2, .inr (2, [.int 0, .ref r2])), (r2, .inl (cA2, 256, .inl (fun _ => 0))), (q5, .inr (5, [.int 0])), (q6, .inr (6, [.int 0, .int 0, .int 0, .int 0, .int 0, .int 0, .int 0])), (q4, .inr (4, [.int 0, .int 0, .int 0, .int 0, .int 0]))] H := hP
  replace hD : va_D A [(h0, .inr (10, [.ref q9, .ref q3, .ref q2, .ref q5, .ref q6, .null, .null, .null, .null, .null])), (q9, .inr (9, [.int 0, .int 4096, .int 0, .long 1, .int 0, .int 1, .int 127])), (q3, .inr (3, [.int 65535])), (q2, .inr (2, [.int 0, .ref r2])), (r2, .inl (cA2, 256, .inl (fun _ => 0))), (q5, .inr (5, [.int 0])), (q6, .inr (6, [.int 0, .int 0, .int 0, .int 0, .int 0, .int 0, .int 0])), (q4, .inr (4, [.int 0, .int 0, .int 0, .int 0, .int 0]))] := hD
  refine W.widen (k := 7) (n := 279) (by decide) (by decide) ?_
  refine lv_dup hx hb dX10_init_63 rfl ?_
  have hPc := hP.sub (ws' := [(q4, .inr (4, [.int 0, .int 0, .int 0, .int 0, .int 0]))]) [7] rfl
  have hDc := hD.sub (ws' := [(q4, .inr (4, [.int 0, .int 0, .int 0, .int 0, .int 0]))]) [7] (by decide) rfl
  have hKc := hK.sub (tys' := []) [] rfl
  have hFc := va_free (wc := [(q4, .inr (4, [.int 0, .int 0, .int 0, .int 0, .int 0]))]) hD hS hA [7] rfl
  refine va_callv (va_runIN (As := []) (rest := [.ref q4, .ref h0]) ⟨hx, hb, hml, hown, hts⟩ (k_X4_init l D q4 H.size) ⟨va_cnB 0 hts gX10_init_X4_init_n46 rfl rfl rfl n46 (hts (.initialized RX4) (List.mem_cons_of_mem _ (List.mem_append_left _ (List.mem_append_left _ (List.mem_append_left _ (List.mem_append_left _ (List.mem_append_left _ (List.mem_append_left _ (List.mem_append_left _ (List.mem_append_left _ (List.mem_append_left _ (List.mem_append_left _ (List.mem_append_left _ (List.mem_append_right _ (List.mem_append_left _ (List.mem_of_getElem? (i := 1) rfl)))))))))))))))) (by decide +kernel) ⟨Nat.le_of_ble_eq_true rfl, Nat.le_of_ble_eq_true rfl⟩, rfl, (hts (.instanceMethod yX4_init) (List.mem_cons_of_mem _ (List.mem_append_left _ (List.mem_append_left _ (List.mem_append_left _ (List.mem_append_left _ (List.mem_append_left _ (List.mem_append_left _ (List.mem_append_left _ (List.mem_append_left _ (List.mem_append_left _ (List.mem_append_left _ (List.mem_append_left _ (List.mem_append_right _ (List.mem_append_right _ (List.mem_append_right _ (List.mem_append_left _ (List.mem_of_getElem? (i := 6) rfl))))))))))))))))))⟩ ⟨blW okN_T, preW hPc hKc hDc okN_T trivial⟩ rfl rfl hl.1 rfl (lv_room (Nat.le_of_ble_eq_true rfl)) dX10_init_64 ⟨Nat.le_of_ble_eq_true rfl, Nat.le_of_ble_eq_true rfl⟩) hS (fun q _ h => hFc q h) hFc (fun u t H1 locs ht hvm hw hB hz1 hk1 hS => ?_)
  obtain ⟨hP1, hK1, hD1⟩ := hB
  rw [ht] at hP1
  replace hK1 := va_K.moved hvm.symm hK1
  replace hP1 : va_P D vwCl [(q4, .inr (4, [.int 8, .int 1, .int 0, .int 0, .int 0]))] H1 := hP1
  replace hD1 : va_D (va_A [(q4, .inr (4, [.int 0, .int 0, .int 0, .int 0, .int 0]))] H.size) [(q4, .inr (4, [.int 8, .int 1, .int 0, .int 0, .int 0]))] := hD1
  replace hK1 : va_K D vwCl [] s := hK1
  obtain ⟨hP9, hD9⟩ := va_join (wr := [(h0, .inr (10, [.ref q9, .ref q3, .ref q2, .ref q5, .ref q6, .null, .null, .null, .null, .null])), (q9, .inr (9, [.int 0, .int 4096, .int 0, .long 1, .int 0, .int 1, .int 127])), (q3, .inr (3, [.int 65535])), (q2, .inr (2, [.int 0, .ref r2])), (r2, .inl (cA2, 256, .inl (fun _ => 0))), (q5, .inr (5, [.int 0])), (q6, .inr (6, [.int 0, .int 0, .int 0, .int 0, .int 0, .int 0, .int 0]))]) (w1 := [(q4, .inr (4, [.int 8, .int 1, .int 0, .int 0, .int 0]))]) hP hD [7] [0, 1, 2, 3, 4, 5, 6] rfl rfl (by decide) (by decide) hk1 hFc hP1 hD1
  clear hPc hDc hKc hFc hP1 hD1 hz1 hk1 hw ht hvm t
  replace hK : va_K D vwCl [(cA2, .boolean)] s := va_K.app hK hK1
  replace hP : va_P D vwCl [(h0, .inr (10, [.ref q9, .ref q3, .ref q2, .ref q5, .ref q6, .null, .null, .null, .null, .null])), (q9, .inr (9, [.int 0, .int 4096, .int 0, .long 1, .int 0, .int 1, .int 127])), (q3, .inr (3, [.int 65535])), (q2, .inr (2, [.int 0, .ref r2])), (r2, .inl (cA2, 256, .inl (fun _ => 0))), (q5, .inr (5, [.int 0])), (q6, .inr (6, [.int 0, .int 0, .int 0, .int 0, .int 0, .int 0, .int 0])), (q4, .inr (4, [.int 8, .int 1, .int 0, .int 0, .int 0]))] H1 := hP9
  replace hD : va_D A [(h0, .inr (10, [.ref q9, .ref q3, .ref q2, .ref q5, .ref q6, .null, .null, .null, .null, .null])), (q9, .inr (9, [.int 0, .int 4096, .int 0, .long 1, .int 0, .int 1, .int 127])), (q3, .inr (3, [.int 65535])), (q2, .inr (2, [.int 0, .ref r2])), (r2, .inl (cA2, 256, .inl (fun _ => 0))), (q5, .inr (5, [.int 0])), (q6, .inr (6, [.int 0, .int 0, .int 0, .int 0, .int 0, .int 0, .int 0])), (q4, .inr (4, [.int 8, .int 1, .int 0, .int 0, .int 0]))] := hD9
  clear hP9 hD9 hK1
  skip
  refine W.widen (k := 7) (n := 279) (by decide) (by decide) ?_
  refine va_putF (D := D) (ci := 10) (v := .ref q4) (ty := .object "Phaselock$LoopFilter") (C := RX10) (T := TX10) (N := 10) hx hb hts (fun _ h => List.mem_cons_of_mem _ (List.mem_append_left _ (List.mem_append_left _ (List.mem_append_left _ (List.mem_append_left _ (List.mem_append_left _ (List.mem_append_left _ (List.mem_append_left _ (List.mem_append_left _ (List.mem_append_left _ (List.mem_append_right _ (h)))))))))))) tyX10 tyX10_ok nmX10 hown hK hP hD hS 0 rfl rfl 5 (by decide) (hts (.fieldLink RX10 47 "Phaselock" "filter" "LPhaselock$LoopFilter;") (List.mem_cons_of_mem _ (List.mem_append_left _ (List.mem_append_left _ (List.mem_append_left _ (List.mem_append_left _ (List.mem_append_left _ (List.mem_append_left _ (List.mem_append_left _ (List.mem_append_left _ (List.mem_append_left _ (List.mem_append_left _ (List.mem_append_left _ (List.mem_append_right _ (List.mem_append_left _ (List.mem_of_getElem? (i := 2) rfl)))))))))))))))) (fun _ h9 => h9) rfl hin rfl (by decide +kernel) rfl rfl (Nat.le_of_ble_eq_true rfl) dX10_init_67 (fun H locs hP hD hS => ?_)
  replace hP : va_P D vwCl [(h0, .inr (10, [.ref q9, .ref q3, .ref q2, .ref q5, .ref q6, .ref q4, .null, .null, .null, .null])), (q9, .inr (9, [.int 0, .int 4096, .int 0, .long 1, .int 0, .int 1, .int 127])), (q3, .inr (3, [.int 65535])), (q2, .inr (2, [.int 0, .ref r2])), (r2, .inl (cA2, 256, .inl (fun _ => 0))), (q5, .inr (5, [.int 0])), (q6, .inr (6, [.int 0, .int 0, .int 0, .int 0, .int 0, .int 0, .int 0])), (q4, .inr (4, [.int 8, .int 1, .int 0, .int 0, .int 0]))] H := hP
  replace hD : va_D A [(h0, .inr (10, [.ref q9, .ref q3, .ref q2, .ref q5, .ref q6, .ref q4, .null, .null, .null, .null])), (q9, .inr (9, [.int 0, .int 4096, .int 0, .long 1, .int 0, .int 1, .int 127])), (q3, .inr (3, [.int 65535])), (q2, .inr (2, [.int 0, .ref r2])), (r2, .inl (cA2, 256, .inl (fun _ => 0))), (q5, .inr (5, [.int 0])), (q6, .inr (6, [.int 0, .int 0, .int 0, .int 0, .int 0, .int 0, .int 0])), (q4, .inr (4, [.int 8, .int 1, .int 0, .int 0, .int 0]))] := hD
  refine lv_aload_n hx hb dX10_init_70 rfl (lv_at hl 0 rfl) ?_
  refine va_new (ci := 1) (fs := [.int 0, .int 0]) (C := RX1) (T := TX1) (N := 2) hx hb hts (fun _ h => List.mem_cons_of_mem _ (List.mem_append_left _ (List.mem_append_left _ (List.mem_append_left _ (List.mem_append_right _ (h)))))) tyX1 tyX1_ok hown (hts (.classLink RX10 51 RX1) (List.mem_cons_of_mem _ (List.mem_append_left _ (List.mem_append_left _ (List.mem_append_left _ (List.mem_append_left _ (List.mem_append_left _ (List.mem_append_left _ (List.mem_append_left _ (List.mem_append_left _ (List.mem_append_left _ (List.mem_append_left _ (List.mem_append_left _ (List.mem_append_right _ (List.mem_append_left _ (List.mem_of_getElem? (i := 3) rfl)))))))))))))))) (hts (.instantiable RX1 2) (List.mem_cons_of_mem _ (List.mem_append_left _ (List.mem_append_left _ (List.mem_append_left _ (List.mem_append_left _ (List.mem_append_left _ (List.mem_append_left _ (List.mem_append_left _ (List.mem_append_left _ (List.mem_append_left _ (List.mem_append_left _ (List.mem_append_left _ (List.mem_append_right _ (List.mem_append_left _ (List.mem_of_getElem? (i := 4) rfl)))))))))))))))) (hts (.initialized RX1) (List.mem_cons_of_mem _ (List.mem_append_left _ (List.mem_append_left _ (List.mem_append_left _ (List.mem_append_left _ (List.mem_append_left _ (List.mem_append_left _ (List.mem_append_left _ (List.mem_append_left _ (List.mem_append_left _ (List.mem_append_left _ (List.mem_append_left _ (List.mem_append_right _ (List.mem_append_left _ (List.mem_of_getElem? (i := 5) rfl)))))))))))))))) hK hP hD hS hA rfl (fun j hj => by rcases (show j = 0 ∨ j = 1 by omega) with rfl | rfl <;> rfl) (Nat.le_of_ble_eq_true rfl) (Nat.le_of_ble_eq_true rfl) dX10_init_71 (fun q1 H hP hD hS => ?_)
  replace hP : va_P D vwCl [(h0, .inr (10, [.ref q9, .ref q3, .ref q2, .ref q5, .ref q6, .ref q4, .null, .null, .null, .null])), (q9, .inr (9, [.int 0, .int 4096, .int 0, .long 1, .int 0, .int 1, .int 127])), (q3, .inr (3, [.int 65535])), (q2, .inr (2, [.int 0, .ref r2])), (r2, .inl (cA2, 256, .inl (fun _ => 0))), (q5, .inr (5, [.int 0])), (q6, .inr (6, [.int 0, .int 0, .int 0, .int 0, .int 0, .int 0, .int 0])), (q4, .inr (4, [.int 8, .int 1, .int 0, .int 0, .int 0])), (q1, .inr (1, [.int 0, .int 0]))] H := hP
  replace hD : va_D A [(h0, .inr (10, [.ref q9, .ref q3, .ref q2, .ref q5, .ref q6, .ref q4, .null, .null, .null, .null])), (q9, .inr (9, [.int 0, .int 4096, .int 0, .long 1, .int 0, .int 1, .int 127])), (q3, .inr (3, [.int 65535])), (q2, .inr (2, [.int 0, .ref r2])), (r2, .inl (cA2, 256, .inl (fun _ => 0))), (q5, .inr (5, [.int 0])), (q6, .inr (6, [.int 0, .int 0, .int 0, .int 0, .int 0, .int 0, .int 0])), (q4, .inr (4, [.int 8, .int 1, .int 0, .int 0, .int 0])), (q1, .inr (1, [.int 0, .int 0]))] := hD
  refine W.widen (k := 8) (n := 281) (by decide) (by decide) ?_
  refine lv_dup hx hb dX10_init_74 rfl ?_
  have hPc := hP.sub (ws' := [(q1, .inr (1, [.int 0, .int 0]))]) [8] rfl
  have hDc := hD.sub (ws' := [(q1, .inr (1, [.int 0, .int 0]))]) [8] (by decide) rfl
  have hKc := hK.sub (tys' := []) [] rfl
  have hFc := va_free (wc := [(q1, .inr (1, [.int 0, .int 0]))]) hD hS hA [8] rfl
  refine va_callv (va_runIN (As := []) (rest := [.ref q1, .ref h0]) ⟨hx, hb, hml, hown, hts⟩ (k_X1_init l D q1 H.size) ⟨va_cnB 0 hts gX10_init_X1_init_n53 rfl rfl rfl n53 (hts (.initialized RX1) (List.mem_cons_of_mem _ (List.mem_append_left _ (List.mem_append_left _ (List.mem_append_left _ (List.mem_append_left _ (List.mem_append_left _ (List.mem_append_left _ (List.mem_append_left _ (List.mem_append_left _ (List.mem_append_left _ (List.mem_append_left _ (List.mem_append_left _ (List.mem_append_right _ (List.mem_append_left _ (List.mem_of_getElem? (i := 5) rfl)))))))))))))))) (by decide +kernel) ⟨Nat.le_of_ble_eq_true rfl, Nat.le_of_ble_eq_true rfl⟩, rfl, (hts (.instanceMethod yX1_init) (List.mem_cons_of_mem _ (List.mem_append_left _ (List.mem_append_left _ (List.mem_append_left _ (List.mem_append_left _ (List.mem_append_left _ (List.mem_append_left _ (List.mem_append_left _ (List.mem_append_left _ (List.mem_append_left _ (List.mem_append_left _ (List.mem_append_left _ (List.mem_append_right _ (List.mem_append_right _ (List.mem_append_right _ (List.mem_append_left _ (List.mem_of_getElem? (i := 14) rfl))))))))))))))))))⟩ ⟨blW okN_T, preW hPc hKc hDc okN_T trivial⟩ rfl rfl hl.1 rfl (lv_room (Nat.le_of_ble_eq_true rfl)) dX10_init_75 ⟨Nat.le_of_ble_eq_true rfl, Nat.le_of_ble_eq_true rfl⟩) hS (fun q _ h => hFc q h) hFc (fun u t H1 locs ht hvm hw hB hz1 hk1 hS => ?_)
  obtain ⟨hP1, hK1, hD1⟩ := hB
  rw [ht] at hP1
  replace hK1 := va_K.moved hvm.symm hK1
  replace hP1 : va_P D vwCl [(q1, .inr (1, [.int 0, .int 0]))] H1 := hP1
  replace hD1 : va_D (va_A [(q1, .inr (1, [.int 0, .int 0]))] H.size) [(q1, .inr (1, [.int 0, .int 0]))] := hD1
  replace hK1 : va_K D vwCl [] s := hK1
  obtain ⟨hP9, hD9⟩ := va_join (wr := [(h0, .inr (10, [.ref q9, .ref q3, .ref q2, .ref q5, .ref q6, .ref q4, .null, .null, .null, .null])), (q9, .inr (9, [.int 0, .int 4096, .int 0, .long 1, .int 0, .int 1, .int 127])), (q3, .inr (3, [.int 65535])), (q2, .inr (2, [.int 0, .ref r2])), (r2, .inl (cA2, 256, .inl (fun _ => 0))), (q5, .inr (5, [.int 0])), (q6, .inr (6, [.int 0, .int 0, .int 0, .int 0, .int 0, .int 0, .int 0])), (q4, .inr (4, [.int 8, .int 1, .int 0, .int 0, .int 0]))]) (w1 := [(q1, .inr (1, [.int 0, .int 0]))]) hP hD [8] [0, 1, 2, 3, 4, 5, 6, 7] rfl rfl (by decide) (by decide) hk1 hFc hP1 hD1
  clear hPc hDc hKc hFc hP1 hD1 hz1 hk1 hw ht hvm t
  replace hK : va_K D vwCl [(cA2, .boolean)] s := va_K.app hK hK1
  replace hP : va_P D vwCl [(h0, .inr (10, [.ref q9, .ref q3, .ref q2, .ref q5, .ref q6, .ref q4, .null, .null, .null, .null])), (q9, .inr (9, [.int 0, .int 4096, .int 0, .long 1, .int 0, .int 1, .int 127])), (q3, .inr (3, [.int 65535])), (q2, .inr (2, [.int 0, .ref r2])), (r2, .inl (cA2, 256, .inl (fun _ => 0))), (q5, .inr (5, [.int 0])), (q6, .inr (6, [.int 0, .int 0, .int 0, .int 0, .int 0, .int 0, .int 0])), (q4, .inr (4, [.int 8, .int 1, .int 0, .int 0, .int 0])), (q1, .inr (1, [.int 0, .int 0]))] H1 := hP9
  replace hD : va_D A [(h0, .inr (10, [.ref q9, .ref q3, .ref q2, .ref q5, .ref q6, .ref q4, .null, .null, .null, .null])), (q9, .inr (9, [.int 0, .int 4096, .int 0, .long 1, .int 0, .int 1, .int 127])), (q3, .inr (3, [.int 65535])), (q2, .inr (2, [.int 0, .ref r2])), (r2, .inl (cA2, 256, .inl (fun _ => 0))), (q5, .inr (5, [.int 0])), (q6, .inr (6, [.int 0, .int 0, .int 0, .int 0, .int 0, .int 0, .int 0])), (q4, .inr (4, [.int 8, .int 1, .int 0, .int 0, .int 0])), (q1, .inr (1, [.int 0, .int 0]))] := hD9
  clear hP9 hD9 hK1
  skip
  refine W.widen (k := 8) (n := 281) (by decide) (by decide) ?_
  refine va_putF (D := D) (ci := 10) (v := .ref q1) (ty := .object "Phaselock$BitLog") (C := RX10) (T := TX10) (N := 10) hx hb hts (fun _ h => List.mem_cons_of_mem _ (List.mem_append_left _ (List.mem_append_left _ (List.mem_append_left _ (List.mem_append_left _ (List.mem_append_left _ (List.mem_append_left _ (List.mem_append_left _ (List.mem_append_left _ (List.mem_append_left _ (List.mem_append_right _ (h)))))))))))) tyX10 tyX10_ok nmX10 hown hK hP hD hS 0 rfl rfl 6 (by decide) (hts (.fieldLink RX10 54 "Phaselock" "bits" "LPhaselock$BitLog;") (List.mem_cons_of_mem _ (List.mem_append_left _ (List.mem_append_left _ (List.mem_append_left _ (List.mem_append_left _ (List.mem_append_left _ (List.mem_append_left _ (List.mem_append_left _ (List.mem_append_left _ (List.mem_append_left _ (List.mem_append_left _ (List.mem_append_left _ (List.mem_append_right _ (List.mem_append_left _ (List.mem_of_getElem? (i := 6) rfl)))))))))))))))) (fun _ h9 => h9) rfl hin rfl (by decide +kernel) rfl rfl (Nat.le_of_ble_eq_true rfl) dX10_init_78 (fun H locs hP hD hS => ?_)
  replace hP : va_P D vwCl [(h0, .inr (10, [.ref q9, .ref q3, .ref q2, .ref q5, .ref q6, .ref q4, .ref q1, .null, .null, .null])), (q9, .inr (9, [.int 0, .int 4096, .int 0, .long 1, .int 0, .int 1, .int 127])), (q3, .inr (3, [.int 65535])), (q2, .inr (2, [.int 0, .ref r2])), (r2, .inl (cA2, 256, .inl (fun _ => 0))), (q5, .inr (5, [.int 0])), (q6, .inr (6, [.int 0, .int 0, .int 0, .int 0, .int 0, .int 0, .int 0])), (q4, .inr (4, [.int 8, .int 1, .int 0, .int 0, .int 0])), (q1, .inr (1, [.int 0, .int 0]))] H := hP
  replace hD : va_D A [(h0, .inr (10, [.ref q9, .ref q3, .ref q2, .ref q5, .ref q6, .ref q4, .ref q1, .null, .null, .null])), (q9, .inr (9, [.int 0, .int 4096, .int 0, .long 1, .int 0, .int 1, .int 127])), (q3, .inr (3, [.int 65535])), (q2, .inr (2, [.int 0, .ref r2])), (r2, .inl (cA2, 256, .inl (fun _ => 0))), (q5, .inr (5, [.int 0])), (q6, .inr (6, [.int 0, .int 0, .int 0, .int 0, .int 0, .int 0, .int 0])), (q4, .inr (4, [.int 8, .int 1, .int 0, .int 0, .int 0])), (q1, .inr (1, [.int 0, .int 0]))] := hD
  refine lv_aload_n hx hb dX10_init_81 rfl (lv_at hl 0 rfl) ?_
  refine va_new (ci := 8) (fs := [.int 0, .int 0, .int 0, .int 0]) (C := RX8) (T := TX8) (N := 4) hx hb hts (fun _ h => List.mem_cons_of_mem _ (List.mem_append_left _ (List.mem_append_left _ (List.mem_append_right _ (h))))) tyX8 tyX8_ok hown (hts (.classLink RX10 58 RX8) (List.mem_cons_of_mem _ (List.mem_append_left _ (List.mem_append_left _ (List.mem_append_left _ (List.mem_append_left _ (List.mem_append_left _ (List.mem_append_left _ (List.mem_append_left _ (List.mem_append_left _ (List.mem_append_left _ (List.mem_append_left _ (List.mem_append_left _ (List.mem_append_right _ (List.mem_append_left _ (List.mem_of_getElem? (i := 7) rfl)))))))))))))))) (hts (.instantiable RX8 4) (List.mem_cons_of_mem _ (List.mem_append_left _ (List.mem_append_left _ (List.mem_append_left _ (List.mem_append_left _ (List.mem_append_left _ (List.mem_append_left _ (List.mem_append_left _ (List.mem_append_left _ (List.mem_append_left _ (List.mem_append_left _ (List.mem_append_left _ (List.mem_append_right _ (List.mem_append_left _ (List.mem_of_getElem? (i := 8) rfl)))))))))))))))) (hts (.initialized RX8) (List.mem_cons_of_mem _ (List.mem_append_left _ (List.mem_append_left _ (List.mem_append_left _ (List.mem_append_left _ (List.mem_append_left _ (List.mem_append_left _ (List.mem_append_left _ (List.mem_append_left _ (List.mem_append_left _ (List.mem_append_left _ (List.mem_append_left _ (List.mem_append_right _ (List.mem_append_left _ (List.mem_of_getElem? (i := 9) rfl)))))))))))))))) hK hP hD hS hA rfl (fun j hj => by rcases (show j = 0 ∨ j = 1 ∨ j = 2 ∨ j = 3 by omega) with rfl | rfl | rfl | rfl <;> rfl) (Nat.le_of_ble_eq_true rfl) (Nat.le_of_ble_eq_true rfl) dX10_init_82 (fun q8 H hP hD hS => ?_)
  replace hP : va_P D vwCl [(h0, .inr (10, [.ref q9, .ref q3, .ref q2, .ref q5, .ref q6, .ref q4, .ref q1, .null, .null, .null])), (q9, .inr (9, [.int 0, .int 4096, .int 0, .long 1, .int 0, .int 1, .int 127])), (q3, .inr (3, [.int 65535])), (q2, .inr (2, [.int 0, .ref r2])), (r2, .inl (cA2, 256, .inl (fun _ => 0))), (q5, .inr (5, [.int 0])), (q6, .inr (6, [.int 0, .int 0, .int 0, .int 0, .int 0, .int 0, .int 0])), (q4, .inr (4, [.int 8, .int 1, .int 0, .int 0, .int 0])), (q1, .inr (1, [.int 0, .int 0])), (q8, .inr (8, [.int 0, .int 0, .int 0, .int 0]))] H := hP
  replace hD : va_D A [(h0, .inr (10, [.ref q9, .ref q3, .ref q2, .ref q5, .ref q6, .ref q4, .ref q1, .null, .null, .null])), (q9, .inr (9, [.int 0, .int 4096, .int 0, .long 1, .int 0, .int 1, .int 127])), (q3, .inr (3, [.int 65535])), (q2, .inr (2, [.int 0, .ref r2])), (r2, .inl (cA2, 256, .inl (fun _ => 0))), (q5, .inr (5, [.int 0])), (q6, .inr (6, [.int 0, .int 0, .int 0, .int 0, .int 0, .int 0, .int 0])), (q4, .inr (4, [.int 8, .int 1, .int 0, .int 0, .int 0])), (q1, .inr (1, [.int 0, .int 0])), (q8, .inr (8, [.int 0, .int 0, .int 0, .int 0]))] := hD
  refine W.widen (k := 9) (n := 285) (by decide) (by decide) ?_
  refine lv_dup hx hb dX10_init_85 rfl ?_
  have hPc := hP.sub (ws' := [(q8, .inr (8, [.int 0, .int 0, .int 0, .int 0]))]) [9] rfl
  have hDc := hD.sub (ws' := [(q8, .inr (8, [.int 0, .int 0, .int 0, .int 0]))]) [9] (by decide) rfl
  have hKc := hK.sub (tys' := []) [] rfl
  have hFc := va_free (wc := [(q8, .inr (8, [.int 0, .int 0, .int 0, .int 0]))]) hD hS hA [9] rfl
  refine va_callv (va_runIN (As := []) (rest := [.ref q8, .ref h0]) ⟨hx, hb, hml, hown, hts⟩ (k_X8_init l D q8 H.size) ⟨va_cnB 0 hts gX10_init_X8_init_n60 rfl rfl rfl n60 (hts (.initialized RX8) (List.mem_cons_of_mem _ (List.mem_append_left _ (List.mem_append_left _ (List.mem_append_left _ (List.mem_append_left _ (List.mem_append_left _ (List.mem_append_left _ (List.mem_append_left _ (List.mem_append_left _ (List.mem_append_left _ (List.mem_append_left _ (List.mem_append_left _ (List.mem_append_right _ (List.mem_append_left _ (List.mem_of_getElem? (i := 9) rfl)))))))))))))))) (by decide +kernel) ⟨Nat.le_of_ble_eq_true rfl, Nat.le_of_ble_eq_true rfl⟩, rfl, (hts (.instanceMethod yX8_init) (List.mem_cons_of_mem _ (List.mem_append_left _ (List.mem_append_left _ (List.mem_append_left _ (List.mem_append_left _ (List.mem_append_left _ (List.mem_append_left _ (List.mem_append_left _ (List.mem_append_left _ (List.mem_append_left _ (List.mem_append_left _ (List.mem_append_left _ (List.mem_append_right _ (List.mem_append_right _ (List.mem_append_right _ (List.mem_append_left _ (List.mem_of_getElem? (i := 19) rfl))))))))))))))))))⟩ ⟨blW okN_T, preW hPc hKc hDc okN_T trivial⟩ rfl rfl hl.1 rfl (lv_room (Nat.le_of_ble_eq_true rfl)) dX10_init_86 ⟨Nat.le_of_ble_eq_true rfl, Nat.le_of_ble_eq_true rfl⟩) hS (fun q _ h => hFc q h) hFc (fun u t H1 locs ht hvm hw hB hz1 hk1 hS => ?_)
  obtain ⟨hP1, hK1, hD1⟩ := hB
  rw [ht] at hP1
  replace hK1 := va_K.moved hvm.symm hK1
  replace hP1 : va_P D vwCl [(q8, .inr (8, [.int 0, .int 0, .int 0, .int 0]))] H1 := hP1
  replace hD1 : va_D (va_A [(q8, .inr (8, [.int 0, .int 0, .int 0, .int 0]))] H.size) [(q8, .inr (8, [.int 0, .int 0, .int 0, .int 0]))] := hD1
  replace hK1 : va_K D vwCl [] s := hK1
  obtain ⟨hP9, hD9⟩ := va_join (wr := [(h0, .inr (10, [.ref q9, .ref q3, .ref q2, .ref q5, .ref q6, .ref q4, .ref q1, .null, .null, .null])), (q9, .inr (9, [.int 0, .int 4096, .int 0, .long 1, .int 0, .int 1, .int 127])), (q3, .inr (3, [.int 65535])), (q2, .inr (2, [.int 0, .ref r2])), (r2, .inl (cA2, 256, .inl (fun _ => 0))), (q5, .inr (5, [.int 0])), (q6, .inr (6, [.int 0, .int 0, .int 0, .int 0, .int 0, .int 0, .int 0])), (q4, .inr (4, [.int 8, .int 1, .int 0, .int 0, .int 0])), (q1, .inr (1, [.int 0, .int 0]))]) (w1 := [(q8, .inr (8, [.int 0, .int 0, .int 0, .int 0]))]) hP hD [9] [0, 1, 2, 3, 4, 5, 6, 7, 8] rfl rfl (by decide) (by decide) hk1 hFc hP1 hD1
  clear hPc hDc hKc hFc hP1 hD1 hz1 hk1 hw ht hvm t
  replace hK : va_K D vwCl [(cA2, .boolean)] s := va_K.app hK hK1
  replace hP : va_P D vwCl [(h0, .inr (10, [.ref q9, .ref q3, .ref q2, .ref q5, .ref q6, .ref q4, .ref q1, .null, .null, .null])), (q9, .inr (9, [.int 0, .int 4096, .int 0, .long 1, .int 0, .int 1, .int 127])), (q3, .inr (3, [.int 65535])), (q2, .inr (2, [.int 0, .ref r2])), (r2, .inl (cA2, 256, .inl (fun _ => 0))), (q5, .inr (5, [.int 0])), (q6, .inr (6, [.int 0, .int 0, .int 0, .int 0, .int 0, .int 0, .int 0])), (q4, .inr (4, [.int 8, .int 1, .int 0, .int 0, .int 0])), (q1, .inr (1, [.int 0, .int 0])), (q8, .inr (8, [.int 0, .int 0, .int 0, .int 0]))] H1 := hP9
  replace hD : va_D A [(h0, .inr (10, [.ref q9, .ref q3, .ref q2, .ref q5, .ref q6, .ref q4, .ref q1, .null, .null, .null])), (q9, .inr (9, [.int 0, .int 4096, .int 0, .long 1, .int 0, .int 1, .int 127])), (q3, .inr (3, [.int 65535])), (q2, .inr (2, [.int 0, .ref r2])), (r2, .inl (cA2, 256, .inl (fun _ => 0))), (q5, .inr (5, [.int 0])), (q6, .inr (6, [.int 0, .int 0, .int 0, .int 0, .int 0, .int 0, .int 0])), (q4, .inr (4, [.int 8, .int 1, .int 0, .int 0, .int 0])), (q1, .inr (1, [.int 0, .int 0])), (q8, .inr (8, [.int 0, .int 0, .int 0, .int 0]))] := hD9
  clear hP9 hD9 hK1
  skip
  refine W.widen (k := 9) (n := 285) (by decide) (by decide) ?_
  refine va_putF (D := D) (ci := 10) (v := .ref q8) (ty := .object "Phaselock$SlipCounter") (C := RX10) (T := TX10) (N := 10) hx hb hts (fun _ h => List.mem_cons_of_mem _ (List.mem_append_left _ (List.mem_append_left _ (List.mem_append_left _ (List.mem_append_left _ (List.mem_append_left _ (List.mem_append_left _ (List.mem_append_left _ (List.mem_append_left _ (List.mem_append_left _ (List.mem_append_right _ (h)))))))))))) tyX10 tyX10_ok nmX10 hown hK hP hD hS 0 rfl rfl 7 (by decide) (hts (.fieldLink RX10 61 "Phaselock" "slips" "LPhaselock$SlipCounter;") (List.mem_cons_of_mem _ (List.mem_append_left _ (List.mem_append_left _ (List.mem_append_left _ (List.mem_append_left _ (List.mem_append_left _ (List.mem_append_left _ (List.mem_append_left _ (List.mem_append_left _ (List.mem_append_left _ (List.mem_append_left _ (List.mem_append_left _ (List.mem_append_right _ (List.mem_append_left _ (List.mem_of_getElem? (i := 10) rfl)))))))))))))))) (fun _ h9 => h9) rfl hin rfl (by decide +kernel) rfl rfl (Nat.le_of_ble_eq_true rfl) dX10_init_89 (fun H locs hP hD hS => ?_)
  replace hP : va_P D vwCl [(h0, .inr (10, [.ref q9, .ref q3, .ref q2, .ref q5, .ref q6, .ref q4, .ref q1, .ref q8, .null, .null])), (q9, .inr (9, [.int 0, .int 4096, .int 0, .long 1, .int 0, .int 1, .int 127])), (q3, .inr (3, [.int 65535])), (q2, .inr (2, [.int 0, .ref r2])), (r2, .inl (cA2, 256, .inl (fun _ => 0))), (q5, .inr (5, [.int 0])), (q6, .inr (6, [.int 0, .int 0, .int 0, .int 0, .int 0, .int 0, .int 0])), (q4, .inr (4, [.int 8, .int 1, .int 0, .int 0, .int 0])), (q1, .inr (1, [.int 0, .int 0])), (q8, .inr (8, [.int 0, .int 0, .int 0, .int 0]))] H := hP
  replace hD : va_D A [(h0, .inr (10, [.ref q9, .ref q3, .ref q2, .ref q5, .ref q6, .ref q4, .ref q1, .ref q8, .null, .null])), (q9, .inr (9, [.int 0, .int 4096, .int 0, .long 1, .int 0, .int 1, .int 127])), (q3, .inr (3, [.int 65535])), (q2, .inr (2, [.int 0, .ref r2])), (r2, .inl (cA2, 256, .inl (fun _ => 0))), (q5, .inr (5, [.int 0])), (q6, .inr (6, [.int 0, .int 0, .int 0, .int 0, .int 0, .int 0, .int 0])), (q4, .inr (4, [.int 8, .int 1, .int 0, .int 0, .int 0])), (q1, .inr (1, [.int 0, .int 0])), (q8, .inr (8, [.int 0, .int 0, .int 0, .int 0]))] := hD
  refine lv_aload_n hx hb dX10_init_92 rfl (lv_at hl 0 rfl) ?_
  refine va_new (ci := 7) (fs := [.int 0, .int 0, .int 0, .null]) (C := RX7) (T := TX7) (N := 4) hx hb hts (fun _ h => List.mem_cons_of_mem _ (List.mem_append_left _ (List.mem_append_right _ (h)))) tyX7 tyX7_ok hown (hts (.classLink RX10 65 RX7) (List.mem_cons_of_mem _ (List.mem_append_left _ (List.mem_append_left _ (List.mem_append_left _ (List.mem_append_left _ (List.mem_append_left _ (List.mem_append_left _ (List.mem_append_left _ (List.mem_append_left _ (List.mem_append_left _ (List.mem_append_left _ (List.mem_append_left _ (List.mem_append_right _ (List.mem_append_left _ (List.mem_of_getElem? (i := 11) rfl)))))))))))))))) (hts (.instantiable RX7 4) (List.mem_cons_of_mem _ (List.mem_append_left _ (List.mem_append_left _ (List.mem_append_left _ (List.mem_append_left _ (List.mem_append_left _ (List.mem_append_left _ (List.mem_append_left _ (List.mem_append_left _ (List.mem_append_left _ (List.mem_append_left _ (List.mem_append_left _ (List.mem_append_right _ (List.mem_append_left _ (List.mem_of_getElem? (i := 12) rfl)))))))))))))))) (hts (.initialized RX7) (List.mem_cons_of_mem _ (List.mem_append_left _ (List.mem_append_left _ (List.mem_append_left _ (List.mem_append_left _ (List.mem_append_left _ (List.mem_append_left _ (List.mem_append_left _ (List.mem_append_left _ (List.mem_append_left _ (List.mem_append_left _ (List.mem_append_left _ (List.mem_append_right _ (List.mem_append_left _ (List.mem_of_getElem? (i := 13) rfl)))))))))))))))) hK hP hD hS hA rfl (fun j hj => by rcases (show j = 0 ∨ j = 1 ∨ j = 2 ∨ j = 3 by omega) with rfl | rfl | rfl | rfl <;> rfl) (Nat.le_of_ble_eq_true rfl) (Nat.le_of_ble_eq_true rfl) dX10_init_93 (fun q7 H hP hD hS => ?_)
  replace hP : va_P D vwCl [(h0, .inr (10, [.ref q9, .ref q3, .ref q2, .ref q5, .ref q6, .ref q4, .ref q1, .ref q8, .null, .null])), (q9, .inr (9, [.int 0, .int 4096, .int 0, .long 1, .int 0, .int 1, .int 127])), (q3, .inr (3, [.int 65535])), (q2, .inr (2, [.int 0, .ref r2])), (r2, .inl (cA2, 256, .inl (fun _ => 0))), (q5, .inr (5, [.int 0])), (q6, .inr (6, [.int 0, .int 0, .int 0, .int 0, .int 0, .int 0, .int 0])), (q4, .inr (4, [.int 8, .int 1, .int 0, .int 0, .int 0])), (q1, .inr (1, [.int 0, .int 0])), (q8, .inr (8, [.int 0, .int 0, .int 0, .int 0])), (q7, .inr (7, [.int 0, .int 0, .int 0, .null]))] H := hP
  replace hD : va_D A [(h0, .inr (10, [.ref q9, .ref q3, .ref q2, .ref q5, .ref q6, .ref q4, .ref q1, .ref q8, .null, .null])), (q9, .inr (9, [.int 0, .int 4096, .int 0, .long 1, .int 0, .int 1, .int 127])), (q3, .inr (3, [.int 65535])), (q2, .inr (2, [.int 0, .ref r2])), (r2, .inl (cA2, 256, .inl (fun _ => 0))), (q5, .inr (5, [.int 0])), (q6, .inr (6, [.int 0, .int 0, .int 0, .int 0, .int 0, .int 0, .int 0])), (q4, .inr (4, [.int 8, .int 1, .int 0, .int 0, .int 0])), (q1, .inr (1, [.int 0, .int 0])), (q8, .inr (8, [.int 0, .int 0, .int 0, .int 0])), (q7, .inr (7, [.int 0, .int 0, .int 0, .null]))] := hD
  refine W.widen (k := 10) (n := 289) (by decide) (by decide) ?_
  refine lv_dup hx hb dX10_init_96 rfl ?_
  have hPc := hP.sub (ws' := [(q7, .inr (7, [.int 0, .int 0, .int 0, .null]))]) [10] rfl
  have hDc := hD.sub (ws' := [(q7, .inr (7, [.int 0, .int 0, .int 0, .null]))]) [10] (by decide) rfl
  have hKc := hK.sub (tys' := []) [] rfl
  have hFc := va_free (wc := [(q7, .inr (7, [.int 0, .int 0, .int 0, .null]))]) hD hS hA [10] rfl
  refine va_callv (va_runIN (As := []) (rest := [.ref q7, .ref h0]) ⟨hx, hb, hml, hown, hts⟩ (k_X7_init l D q7 H.size) ⟨va_cnB 0 hts gX10_init_X7_init_n67 rfl rfl rfl n67 (hts (.initialized RX7) (List.mem_cons_of_mem _ (List.mem_append_left _ (List.mem_append_left _ (List.mem_append_left _ (List.mem_append_left _ (List.mem_append_left _ (List.mem_append_left _ (List.mem_append_left _ (List.mem_append_left _ (List.mem_append_left _ (List.mem_append_left _ (List.mem_append_left _ (List.mem_append_right _ (List.mem_append_left _ (List.mem_of_getElem? (i := 13) rfl)))))))))))))))) (by decide +kernel) ⟨Nat.le_of_ble_eq_true rfl, Nat.le_of_ble_eq_true rfl⟩, rfl, (hts (.instanceMethod yX7_init) (List.mem_cons_of_mem _ (List.mem_append_left _ (List.mem_append_left _ (List.mem_append_left _ (List.mem_append_left _ (List.mem_append_left _ (List.mem_append_left _ (List.mem_append_left _ (List.mem_append_left _ (List.mem_append_left _ (List.mem_append_left _ (List.mem_append_left _ (List.mem_append_right _ (List.mem_append_right _ (List.mem_append_right _ (List.mem_append_right _ (List.mem_of_getElem? (i := 2) rfl))))))))))))))))))⟩ ⟨blW okN_T, preW hPc hKc hDc okN_T trivial⟩ rfl rfl hl.1 rfl (lv_room (Nat.le_of_ble_eq_true rfl)) dX10_init_97 ⟨Nat.le_of_ble_eq_true rfl, Nat.le_of_ble_eq_true rfl⟩) hS (fun q _ h => hFc q h) hFc (fun u t H1 locs ht hvm hw hB hz1 hk1 hS => ?_)
  obtain ⟨hP1, hK1, hD1⟩ := hB
  rw [ht] at hP1
  replace hK1 := va_K.moved hvm.symm hK1
  obtain ⟨r7, cA7⟩ := u
  replace hP1 : va_P D vwCl [(q7, .inr (7, [.int 0, .int 0, .int 0, .ref r7])), (r7, .inl (cA7, 32, .inl (fun _ => 0)))] H1 := hP1
  replace hD1 : va_D (va_A [(q7, .inr (7, [.int 0, .int 0, .int 0, .null]))] H.size) [(q7, .inr (7, [.int 0, .int 0, .int 0, .ref r7])), (r7, .inl (cA7, 32, .inl (fun _ => 0)))] := hD1
  replace hK1 : va_K D vwCl [(cA7, .int)] s := hK1
  obtain ⟨hP9, hD9⟩ := va_join (wr := [(h0, .inr (10, [.ref q9, .ref q3, .ref q2, .ref q5, .ref q6, .ref q4, .ref q1, .ref q8, .null, .null])), (q9, .inr (9, [.int 0, .int 4096, .int 0, .long 1, .int 0, .int 1, .int 127])), (q3, .inr (3, [.int 65535])), (q2, .inr (2, [.int 0, .ref r2])), (r2, .inl (cA2, 256, .inl (fun _ => 0))), (q5, .inr (5, [.int 0])), (q6, .inr (6, [.int 0, .int 0, .int 0, .int 0, .int 0, .int 0, .int 0])), (q4, .inr (4, [.int 8, .int 1, .int 0, .int 0, .int 0])), (q1, .inr (1, [.int 0, .int 0])), (q8, .inr (8, [.int 0, .int 0, .int 0, .int 0]))]) (w1 := [(q7, .inr (7, [.int 0, .int 0, .int 0, .ref r7])), (r7, .inl (cA7, 32, .inl (fun _ => 0)))]) hP hD [10] [0, 1, 2, 3, 4, 5, 6, 7, 8, 9] rfl rfl (by decide) (by decide) hk1 hFc hP1 hD1
  clear hPc hDc hKc hFc hP1 hD1 hz1 hk1 hw ht hvm t
  replace hK : va_K D vwCl [(cA2, .boolean), (cA7, .int)] s := va_K.app hK hK1
  replace hP : va_P D vwCl [(h0, .inr (10, [.ref q9, .ref q3, .ref q2, .ref q5, .ref q6, .ref q4, .ref q1, .ref q8, .null, .null])), (q9, .inr (9, [.int 0, .int 4096, .int 0, .long 1, .int 0, .int 1, .int 127])), (q3, .inr (3, [.int 65535])), (q2, .inr (2, [.int 0, .ref r2])), (r2, .inl (cA2, 256, .inl (fun _ => 0))), (q5, .inr (5, [.int 0])), (q6, .inr (6, [.int 0, .int 0, .int 0, .int 0, .int 0, .int 0, .int 0])), (q4, .inr (4, [.int 8, .int 1, .int 0, .int 0, .int 0])), (q1, .inr (1, [.int 0, .int 0])), (q8, .inr (8, [.int 0, .int 0, .int 0, .int 0])), (q7, .inr (7, [.int 0, .int 0, .int 0, .ref r7])), (r7, .inl (cA7, 32, .inl (fun _ => 0)))] H1 := hP9
  replace hD : va_D A [(h0, .inr (10, [.ref q9, .ref q3, .ref q2, .ref q5, .ref q6, .ref q4, .ref q1, .ref q8, .null, .null])), (q9, .inr (9, [.int 0, .int 4096, .int 0, .long 1, .int 0, .int 1, .int 127])), (q3, .inr (3, [.int 65535])), (q2, .inr (2, [.int 0, .ref r2])), (r2, .inl (cA2, 256, .inl (fun _ => 0))), (q5, .inr (5, [.int 0])), (q6, .inr (6, [.int 0, .int 0, .int 0, .int 0, .int 0, .int 0, .int 0])), (q4, .inr (4, [.int 8, .int 1, .int 0, .int 0, .int 0])), (q1, .inr (1, [.int 0, .int 0])), (q8, .inr (8, [.int 0, .int 0, .int 0, .int 0])), (q7, .inr (7, [.int 0, .int 0, .int 0, .ref r7])), (r7, .inl (cA7, 32, .inl (fun _ => 0)))] := hD9
  clear hP9 hD9 hK1
  skip
  refine W.widen (k := 11) (n := 321) (by decide) (by decide) ?_
  refine va_putF (D := D) (ci := 10) (v := .ref q7) (ty := .object "Phaselock$PhaseLog") (C := RX10) (T := TX10) (N := 10) hx hb hts (fun _ h => List.mem_cons_of_mem _ (List.mem_append_left _ (List.mem_append_left _ (List.mem_append_left _ (List.mem_append_left _ (List.mem_append_left _ (List.mem_append_left _ (List.mem_append_left _ (List.mem_append_left _ (List.mem_append_left _ (List.mem_append_right _ (h)))))))))))) tyX10 tyX10_ok nmX10 hown hK hP hD hS 0 rfl rfl 8 (by decide) (hts (.fieldLink RX10 68 "Phaselock" "phases" "LPhaselock$PhaseLog;") (List.mem_cons_of_mem _ (List.mem_append_left _ (List.mem_append_left _ (List.mem_append_left _ (List.mem_append_left _ (List.mem_append_left _ (List.mem_append_left _ (List.mem_append_left _ (List.mem_append_left _ (List.mem_append_left _ (List.mem_append_left _ (List.mem_append_left _ (List.mem_append_right _ (List.mem_append_left _ (List.mem_of_getElem? (i := 14) rfl)))))))))))))))) (fun _ h9 => h9) rfl hin rfl (by decide +kernel) rfl rfl (Nat.le_of_ble_eq_true rfl) dX10_init_100 (fun H locs hP hD hS => ?_)
  replace hP : va_P D vwCl [(h0, .inr (10, [.ref q9, .ref q3, .ref q2, .ref q5, .ref q6, .ref q4, .ref q1, .ref q8, .ref q7, .null])), (q9, .inr (9, [.int 0, .int 4096, .int 0, .long 1, .int 0, .int 1, .int 127])), (q3, .inr (3, [.int 65535])), (q2, .inr (2, [.int 0, .ref r2])), (r2, .inl (cA2, 256, .inl (fun _ => 0))), (q5, .inr (5, [.int 0])), (q6, .inr (6, [.int 0, .int 0, .int 0, .int 0, .int 0, .int 0, .int 0])), (q4, .inr (4, [.int 8, .int 1, .int 0, .int 0, .int 0])), (q1, .inr (1, [.int 0, .int 0])), (q8, .inr (8, [.int 0, .int 0, .int 0, .int 0])), (q7, .inr (7, [.int 0, .int 0, .int 0, .ref r7])), (r7, .inl (cA7, 32, .inl (fun _ => 0)))] H := hP
  replace hD : va_D A [(h0, .inr (10, [.ref q9, .ref q3, .ref q2, .ref q5, .ref q6, .ref q4, .ref q1, .ref q8, .ref q7, .null])), (q9, .inr (9, [.int 0, .int 4096, .int 0, .long 1, .int 0, .int 1, .int 127])), (q3, .inr (3, [.int 65535])), (q2, .inr (2, [.int 0, .ref r2])), (r2, .inl (cA2, 256, .inl (fun _ => 0))), (q5, .inr (5, [.int 0])), (q6, .inr (6, [.int 0, .int 0, .int 0, .int 0, .int 0, .int 0, .int 0])), (q4, .inr (4, [.int 8, .int 1, .int 0, .int 0, .int 0])), (q1, .inr (1, [.int 0, .int 0])), (q8, .inr (8, [.int 0, .int 0, .int 0, .int 0])), (q7, .inr (7, [.int 0, .int 0, .int 0, .ref r7])), (r7, .inl (cA7, 32, .inl (fun _ => 0)))] := hD
  refine lv_aload_n hx hb dX10_init_103 rfl (lv_at hl 0 rfl) ?_
  refine va_new (ci := 0) (fs := [.int 0, .int 0, .int 0, .int 0, .int 0, .int 0]) (C := RX0) (T := TX0) (N := 6) hx hb hts (fun _ h => List.mem_cons_of_mem _ (List.mem_append_right _ (h))) tyX0 tyX0_ok hown (hts (.classLink RX10 72 RX0) (List.mem_cons_of_mem _ (List.mem_append_left _ (List.mem_append_left _ (List.mem_append_left _ (List.mem_append_left _ (List.mem_append_left _ (List.mem_append_left _ (List.mem_append_left _ (List.mem_append_left _ (List.mem_append_left _ (List.mem_append_left _ (List.mem_append_left _ (List.mem_append_right _ (List.mem_append_left _ (List.mem_of_getElem? (i := 15) rfl)))))))))))))))) (hts (.instantiable RX0 6) (List.mem_cons_of_mem _ (List.mem_append_left _ (List.mem_append_left _ (List.mem_append_left _ (List.mem_append_left _ (List.mem_append_left _ (List.mem_append_left _ (List.mem_append_left _ (List.mem_append_left _ (List.mem_append_left _ (List.mem_append_left _ (List.mem_append_left _ (List.mem_append_right _ (List.mem_append_left _ (List.mem_of_getElem? (i := 16) rfl)))))))))))))))) (hts (.initialized RX0) (List.mem_cons_of_mem _ (List.mem_append_left _ (List.mem_append_left _ (List.mem_append_left _ (List.mem_append_left _ (List.mem_append_left _ (List.mem_append_left _ (List.mem_append_left _ (List.mem_append_left _ (List.mem_append_left _ (List.mem_append_left _ (List.mem_append_left _ (List.mem_append_right _ (List.mem_append_left _ (List.mem_of_getElem? (i := 17) rfl)))))))))))))))) hK hP hD hS hA rfl (fun j hj => by rcases (show j = 0 ∨ j = 1 ∨ j = 2 ∨ j = 3 ∨ j = 4 ∨ j = 5 by omega) with rfl | rfl | rfl | rfl | rfl | rfl <;> rfl) (Nat.le_of_ble_eq_true rfl) (Nat.le_of_ble_eq_true rfl) dX10_init_104 (fun q0 H hP hD hS => ?_)
  replace hP : va_P D vwCl [(h0, .inr (10, [.ref q9, .ref q3, .ref q2, .ref q5, .ref q6, .ref q4, .ref q1, .ref q8, .ref q7, .null])), (q9, .inr (9, [.int 0, .int 4096, .int 0, .long 1, .int 0, .int 1, .int 127])), (q3, .inr (3, [.int 65535])), (q2, .inr (2, [.int 0, .ref r2])), (r2, .inl (cA2, 256, .inl (fun _ => 0))), (q5, .inr (5, [.int 0])), (q6, .inr (6, [.int 0, .int 0, .int 0, .int 0, .int 0, .int 0, .int 0])), (q4, .inr (4, [.int 8, .int 1, .int 0, .int 0, .int 0])), (q1, .inr (1, [.int 0, .int 0])), (q8, .inr (8, [.int 0, .int 0, .int 0, .int 0])), (q7, .inr (7, [.int 0, .int 0, .int 0, .ref r7])), (r7, .inl (cA7, 32, .inl (fun _ => 0))), (q0, .inr (0, [.int 0, .int 0, .int 0, .int 0, .int 0, .int 0]))] H := hP
  replace hD : va_D A [(h0, .inr (10, [.ref q9, .ref q3, .ref q2, .ref q5, .ref q6, .ref q4, .ref q1, .ref q8, .ref q7, .null])), (q9, .inr (9, [.int 0, .int 4096, .int 0, .long 1, .int 0, .int 1, .int 127])), (q3, .inr (3, [.int 65535])), (q2, .inr (2, [.int 0, .ref r2])), (r2, .inl (cA2, 256, .inl (fun _ => 0))), (q5, .inr (5, [.int 0])), (q6, .inr (6, [.int 0, .int 0, .int 0, .int 0, .int 0, .int 0, .int 0])), (q4, .inr (4, [.int 8, .int 1, .int 0, .int 0, .int 0])), (q1, .inr (1, [.int 0, .int 0])), (q8, .inr (8, [.int 0, .int 0, .int 0, .int 0])), (q7, .inr (7, [.int 0, .int 0, .int 0, .ref r7])), (r7, .inl (cA7, 32, .inl (fun _ => 0))), (q0, .inr (0, [.int 0, .int 0, .int 0, .int 0, .int 0, .int 0]))] := hD
  refine W.widen (k := 12) (n := 327) (by decide) (by decide) ?_
  refine lv_dup hx hb dX10_init_107 rfl ?_
  have hPc := hP.sub (ws' := [(q0, .inr (0, [.int 0, .int 0, .int 0, .int 0, .int 0, .int 0]))]) [12] rfl
  have hDc := hD.sub (ws' := [(q0, .inr (0, [.int 0, .int 0, .int 0, .int 0, .int 0, .int 0]))]) [12] (by decide) rfl
  have hKc := hK.sub (tys' := []) [] rfl
  have hFc := va_free (wc := [(q0, .inr (0, [.int 0, .int 0, .int 0, .int 0, .int 0, .int 0]))]) hD hS hA [12] rfl
  refine va_callv (va_runIN (As := []) (rest := [.ref q0, .ref h0]) ⟨hx, hb, hml, hown, hts⟩ (k_X0_init l D q0 H.size) ⟨va_cnB 0 hts gX10_init_X0_init_n74 rfl rfl rfl n74 (hts (.initialized RX0) (List.mem_cons_of_mem _ (List.mem_append_left _ (List.mem_append_left _ (List.mem_append_left _ (List.mem_append_left _ (List.mem_append_left _ (List.mem_append_left _ (List.mem_append_left _ (List.mem_append_left _ (List.mem_append_left _ (List.mem_append_left _ (List.mem_append_left _ (List.mem_append_right _ (List.mem_append_left _ (List.mem_of_getElem? (i := 17) rfl)))))))))))))))) (by decide +kernel) ⟨Nat.le_of_ble_eq_true rfl, Nat.le_of_ble_eq_true rfl⟩, rfl, (hts (.instanceMethod yX0_init) (List.mem_cons_of_mem _ (List.mem_append_left _ (List.mem_append_left _ (List.mem_append_left _ (List.mem_append_left _ (List.mem_append_left _ (List.mem_append_left _ (List.mem_append_left _ (List.mem_append_left _ (List.mem_append_left _ (List.mem_append_left _ (List.mem_append_left _ (List.mem_append_right _ (List.mem_append_right _ (List.mem_append_right _ (List.mem_append_right _ (List.mem_of_getElem? (i := 10) rfl))))))))))))))))))⟩ ⟨blW okN_T, preW hPc hKc hDc okN_T trivial⟩ rfl rfl hl.1 rfl (lv_room (Nat.le_of_ble_eq_true rfl)) dX10_init_108 ⟨Nat.le_of_ble_eq_true rfl, Nat.le_of_ble_eq_true rfl⟩) hS (fun q _ h => hFc q h) hFc (fun u t H1 locs ht hvm hw hB hz1 hk1 hS => ?_)
  obtain ⟨hP1, hK1, hD1⟩ := hB
  rw [ht] at hP1
  replace hK1 := va_K.moved hvm.symm hK1
  replace hP1 : va_P D vwCl [(q0, .inr (0, [.int 0, .int 0, .int 0, .int 0, .int 0, .int 0]))] H1 := hP1
  replace hD1 : va_D (va_A [(q0, .inr (0, [.int 0, .int 0, .int 0, .int 0, .int 0, .int 0]))] H.size) [(q0, .inr (0, [.int 0, .int 0, .int 0, .int 0, .int 0, .int 0]))] := hD1
  replace hK1 : va_K D vwCl [] s := hK1
  obtain ⟨hP9, hD9⟩ := va_join (wr := [(h0, .inr (10, [.ref q9, .ref q3, .ref q2, .ref q5, .ref q6, .ref q4, .ref q1, .ref q8, .ref q7, .null])), (q9, .inr (9, [.int 0, .int 4096, .int 0, .long 1, .int 0, .int 1, .int 127])), (q3, .inr (3, [.int 65535])), (q2, .inr (2, [.int 0, .ref r2])), (r2, .inl (cA2, 256, .inl (fun _ => 0))), (q5, .inr (5, [.int 0])), (q6, .inr (6, [.int 0, .int 0, .int 0, .int 0, .int 0, .int 0, .int 0])), (q4, .inr (4, [.int 8, .int 1, .int 0, .int 0, .int 0])), (q1, .inr (1, [.int 0, .int 0])), (q8, .inr (8, [.int 0, .int 0, .int 0, .int 0])), (q7, .inr (7, [.int 0, .int 0, .int 0, .ref r7])), (r7, .inl (cA7, 32, .inl (fun _ => 0)))]) (w1 := [(q0, .inr (0, [.int 0, .int 0, .int 0, .int 0, .int 0, .int 0]))]) hP hD [12] [0, 1, 2, 3, 4, 5, 6, 7, 8, 9, 10, 11] rfl rfl (by decide) (by decide) hk1 hFc hP1 hD1
  clear hPc hDc hKc hFc hP1 hD1 hz1 hk1 hw ht hvm t
  replace hK : va_K D vwCl [(cA2, .boolean), (cA7, .int)] s := va_K.app hK hK1
  replace hP : va_P D vwCl [(h0, .inr (10, [.ref q9, .ref q3, .ref q2, .ref q5, .ref q6, .ref q4, .ref q1, .ref q8, .ref q7, .null])), (q9, .inr (9, [.int 0, .int 4096, .int 0, .long 1, .int 0, .int 1, .int 127])), (q3, .inr (3, [.int 65535])), (q2, .inr (2, [.int 0, .ref r2])), (r2, .inl (cA2, 256, .inl (fun _ => 0))), (q5, .inr (5, [.int 0])), (q6, .inr (6, [.int 0, .int 0, .int 0, .int 0, .int 0, .int 0, .int 0])), (q4, .inr (4, [.int 8, .int 1, .int 0, .int 0, .int 0])), (q1, .inr (1, [.int 0, .int 0])), (q8, .inr (8, [.int 0, .int 0, .int 0, .int 0])), (q7, .inr (7, [.int 0, .int 0, .int 0, .ref r7])), (r7, .inl (cA7, 32, .inl (fun _ => 0))), (q0, .inr (0, [.int 0, .int 0, .int 0, .int 0, .int 0, .int 0]))] H1 := hP9
  replace hD : va_D A [(h0, .inr (10, [.ref q9, .ref q3, .ref q2, .ref q5, .ref q6, .ref q4, .ref q1, .ref q8, .ref q7, .null])), (q9, .inr (9, [.int 0, .int 4096, .int 0, .long 1, .int 0, .int 1, .int 127])), (q3, .inr (3, [.int 65535])), (q2, .inr (2, [.int 0, .ref r2])), (r2, .inl (cA2, 256, .inl (fun _ => 0))), (q5, .inr (5, [.int 0])), (q6, .inr (6, [.int 0, .int 0, .int 0, .int 0, .int 0, .int 0, .int 0])), (q4, .inr (4, [.int 8, .int 1, .int 0, .int 0, .int 0])), (q1, .inr (1, [.int 0, .int 0])), (q8, .inr (8, [.int 0, .int 0, .int 0, .int 0])), (q7, .inr (7, [.int 0, .int 0, .int 0, .ref r7])), (r7, .inl (cA7, 32, .inl (fun _ => 0))), (q0, .inr (0, [.int 0, .int 0, .int 0, .int 0, .int 0, .int 0]))] := hD9
  clear hP9 hD9 hK1
  skip
  refine W.widen (k := 12) (n := 327) (by decide) (by decide) ?_
  refine va_putF (D := D) (ci := 10) (v := .ref q0) (ty := .object "Phaselock$Aligner") (C := RX10) (T := TX10) (N := 10) hx hb hts (fun _ h => List.mem_cons_of_mem _ (List.mem_append_left _ (List.mem_append_left _ (List.mem_append_left _ (List.mem_append_left _ (List.mem_append_left _ (List.mem_append_left _ (List.mem_append_left _ (List.mem_append_left _ (List.mem_append_left _ (List.mem_append_right _ (h)))))))))))) tyX10 tyX10_ok nmX10 hown hK hP hD hS 0 rfl rfl 9 (by decide) (hts (.fieldLink RX10 75 "Phaselock" "aligner" "LPhaselock$Aligner;") (List.mem_cons_of_mem _ (List.mem_append_left _ (List.mem_append_left _ (List.mem_append_left _ (List.mem_append_left _ (List.mem_append_left _ (List.mem_append_left _ (List.mem_append_left _ (List.mem_append_left _ (List.mem_append_left _ (List.mem_append_left _ (List.mem_append_left _ (List.mem_append_right _ (List.mem_append_left _ (List.mem_of_getElem? (i := 18) rfl)))))))))))))))) (fun _ h9 => h9) rfl hin rfl (by decide +kernel) rfl rfl (Nat.le_of_ble_eq_true rfl) dX10_init_111 (fun H locs hP hD hS => ?_)
  replace hP : va_P D vwCl [(h0, .inr (10, [.ref q9, .ref q3, .ref q2, .ref q5, .ref q6, .ref q4, .ref q1, .ref q8, .ref q7, .ref q0])), (q9, .inr (9, [.int 0, .int 4096, .int 0, .long 1, .int 0, .int 1, .int 127])), (q3, .inr (3, [.int 65535])), (q2, .inr (2, [.int 0, .ref r2])), (r2, .inl (cA2, 256, .inl (fun _ => 0))), (q5, .inr (5, [.int 0])), (q6, .inr (6, [.int 0, .int 0, .int 0, .int 0, .int 0, .int 0, .int 0])), (q4, .inr (4, [.int 8, .int 1, .int 0, .int 0, .int 0])), (q1, .inr (1, [.int 0, .int 0])), (q8, .inr (8, [.int 0, .int 0, .int 0, .int 0])), (q7, .inr (7, [.int 0, .int 0, .int 0, .ref r7])), (r7, .inl (cA7, 32, .inl (fun _ => 0))), (q0, .inr (0, [.int 0, .int 0, .int 0, .int 0, .int 0, .int 0]))] H := hP
  replace hD : va_D A [(h0, .inr (10, [.ref q9, .ref q3, .ref q2, .ref q5, .ref q6, .ref q4, .ref q1, .ref q8, .ref q7, .ref q0])), (q9, .inr (9, [.int 0, .int 4096, .int 0, .long 1, .int 0, .int 1, .int 127])), (q3, .inr (3, [.int 65535])), (q2, .inr (2, [.int 0, .ref r2])), (r2, .inl (cA2, 256, .inl (fun _ => 0))), (q5, .inr (5, [.int 0])), (q6, .inr (6, [.int 0, .int 0, .int 0, .int 0, .int 0, .int 0, .int 0])), (q4, .inr (4, [.int 8, .int 1, .int 0, .int 0, .int 0])), (q1, .inr (1, [.int 0, .int 0])), (q8, .inr (8, [.int 0, .int 0, .int 0, .int 0])), (q7, .inr (7, [.int 0, .int 0, .int 0, .ref r7])), (r7, .inl (cA7, 32, .inl (fun _ => 0))), (q0, .inr (0, [.int 0, .int 0, .int 0, .int 0, .int 0, .int 0]))] := hD
  obtain ⟨a, ha⟩ : ∃ a : Nat → Nat, a = (fun k => match k with | 0 => h0 | 1 => q9 | 2 => q3 | 3 => q2 | 4 => q5 | 5 => q6 | 6 => q4 | 7 => q1 | 8 => q8 | 9 => q7 | 10 => q0 | 11 => r2 | _ => r7) := ⟨_, rfl⟩
  have hP9 : va_P D vwCl (wP a cA2 cA7 st0) H := by rw [ha]; exact hP.sub [0, 1, 2, 3, 5, 6, 7, 8, 9, 10, 12, 4, 11] rfl
  have hD9 : va_D A (wP a cA2 cA7 st0) := by rw [ha]; exact hD.sub [0, 1, 2, 3, 5, 6, 7, 8, 9, 10, 12, 4, 11] (by decide) rfl
  exact W.vret hx hb hr (fun t ht hW => ⟨⟨(a, cA2, cA7), rfl, (show a 0 = h0 from congrFun ha 0), by rw [ht]; exact hP9, va_K.moved hW.alike hK, hD9⟩, hS.F ht⟩) hS.2.2 dX10_init_114
