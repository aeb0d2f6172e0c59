def v_X1_remembers_1 (S : St) (p0 : Int32) : Int32 := if (S.1 24) < 32 then (S.1 24) else 32
def v_X1_remembers_2 (S : St) (p0 : Int32) : Int32 := r_X10_isWithin S p0 1 (v_X1_remembers_1 S p0)
def r_X1_remembers (S : St) (p0 : Int32) : Int32 := (v_X1_remembers_2 S p0)
def rm_X1_remembers : Room := { frames := 1, cells := 0, slots := 0, locals := 22 }
set_option maxRecDepth 100000 in
set_option maxHeartbeats 4000000 in
theorem k_X1_remembers (l : Launch) (D : va_G) (a : Nat → Nat) (cZ cI : ClassId) (S : St) (sz : Nat) (p0 : Int32) : Met l yX1_remembers wsX1_remembers rm_X1_remembers (va_Pc [.ref (a 7), .int p0] (pW D (tyZI cZ cI) (wP a cZ cI S) sz nP)) (va_Qi (fun (r : Int32) (u : St) => u = S ∧ r = r_X1_remembers S p0) (fun u t => oW D (tyZI cZ cI) (wP a cZ cI u) (aA (adP a) sz) t) (aA (adP a) sz)) 0 0 (aA (adP a) sz) := by
  refine Met.ofW (cc := cX1_remembers) (maxL := 2) (ret := (some .boolean)) (by decide +kernel) rfl ?_
  intro p e s m args below meth c s₁ B hml hv
  obtain ⟨rfl, hsz, hP0, hK, hD9, hN⟩ := hv
  have hx := B.exec
  have hb := B.bytes
  have hr := B.returns
  have hts := atoms_spec (ws := wsX1_remembers) B.pre
  have hown : s.vm.findClass RX1 = some m.cls := findClass_of_methodNamed B.named
  have hlocks := B.notSynchronized
  subst hsz
  have hD0 := aA_self (sz := s.heap.size) (as := adP a) hD9 rfl
  generalize hAe : aA (adP a) s.heap.size = A at hD0 ⊢
  have hA : ∀ q : Nat, s.heap.size ≤ q → A q := fun q h => by rw [← hAe]; exact Or.inr h
  have hAc : ∀ q : Nat, q ∈ adP a → A q := fun q h => by rw [← hAe]; exact Or.inl h
  have hS0 : va_S A s.heap s.heap [] := va_S.rf
  have hl0 := lv_entry ([.ref (a 7), .int p0]) (n := 2) (Nat.le_of_ble_eq_true rfl)
  rw [lg_entry_eq]
  generalize (lg_sl ([.ref (a 7), .int p0]) ++ List.replicate (2 - (lg_sl ([.ref (a 7), .int p0])).length) Slot.unset).toArray = ls0 at hl0 ⊢
  have hl0 : lv_has ls0 2 [(0, .ref (a 7)), (1, .int p0)] := hl0
  generalize hQ : MQ below _ _ s _ _ _ = Q
  clear hD9 B
  refine lv_iload_n hx hb dX1_remembers_0 rfl (lv_at hl0 1 rfl) ?_
  refine lv_iconst (v := 1) hx hb dX1_remembers_1 (by decide) ?_
  refine lv_bipush (v := 32) hx hb dX1_remembers_2 (by decide) ?_
  refine lv_aload_n hx hb dX1_remembers_4 rfl (lv_at hl0 0 rfl) ?_
  refine va_get (D := D) (ci := 1) (v := .int (S.1 24)) (C := RX1) (T := TX1) (N := 2) hx hb hts (fun _ h => List.mem_cons_of_mem _ (List.mem_append_right _ (h))) hown hK hP0 7 rfl rfl 0 (by decide) (hts (.fieldLink RX1 9 "Phaselock$BitLog" "count" "I") (List.mem_cons_of_mem _ (List.mem_append_left _ (List.mem_of_getElem? (i := 0) rfl)))) (fun _ h9 => h9) rfl dX1_remembers_5 ?_
  refine va_mmin hx hb (hml.trans hl0.1.symm) hown (hts (.methodLink RX1 18 Lib.Math.min.name) (List.mem_cons_of_mem _ (List.mem_append_left _ (List.mem_of_getElem? (i := 1) rfl)))) (hts (.static Lib.Math.min.name) (List.mem_cons_of_mem _ (List.mem_append_left _ (List.mem_of_getElem? (i := 2) rfl)))) (hts (.initialized "java/lang/Math") (List.mem_cons_of_mem _ (List.mem_append_left _ (List.mem_of_getElem? (i := 3) rfl)))) (hts (.code Lib.Math.min.name Lib.Math.min.code 2 (some .int)) (List.mem_cons_of_mem _ (List.mem_append_left _ (List.mem_of_getElem? (i := 4) rfl)))) (Nat.le_of_ble_eq_true rfl) (Nat.le_of_ble_eq_true rfl) (Nat.le_refl 0) (Nat.le_refl 0) dX1_remembers_8 ?_
  refine lv_asi (y := (v_X1_remembers_1 S p0)) rfl ?_
  refine va_calli (va_runSN (As := [.int p0, .int 1, .int (v_X1_remembers_1 S p0)]) (rest := []) ⟨hx, hb, hml, hown, hts⟩ (k_X10_isWithin l D a cZ cI S s.heap.size p0 1 (v_X1_remembers_1 S p0)) ⟨va_cnB 3 hts gX1_remembers_X10_isWithin_n24 rfl rfl rfl hN.2.2 (hts (.initialized RX10) (List.mem_cons_of_mem _ (List.mem_append_left _ (List.mem_of_getElem? (i := 6) rfl)))) (by decide +kernel) ⟨Nat.le_of_ble_eq_true rfl, Nat.le_of_ble_eq_true rfl⟩, (hts (.static yX10_isWithin) (List.mem_cons_of_mem _ (List.mem_append_left _ (List.mem_of_getElem? (i := 5) rfl)))), trivial⟩ ⟨blW okN_P, preW hP0 hK hD0 okN_P hN⟩ rfl rfl hl0.1 rfl (lv_room (Nat.le_of_ble_eq_true rfl)) dX1_remembers_11 ⟨Nat.zero_le _, Nat.zero_le _⟩) hS0 (aA_in hAc) (aA_free hAc hA hS0) (fun r1 u1 t1 H1 L1 ht1 hvm1 hw1 hB1 _ _ hS1 => ?_)
  obtain ⟨hP1, hD1⟩ := backW hB1 ht1 (aA_free hAc hA hS0)
  clear hB1 ht1 hvm1 t1
  obtain ⟨hu1, hr1⟩ := hw1
  subst u1; subst r1
  clear hP0 hD0 hS0
  refine lv_asi (y := (v_X1_remembers_2 S p0)) rfl ?_
  subst hQ; exact W.zret (v := (v_X1_remembers_2 S p0)) hx hb hr (z_X10_isWithin S p0 1 (v_X1_remembers_1 S p0)) (fun t ht hW => ⟨⟨(v_X1_remembers_2 S p0), S, rfl, ⟨rfl, (show (v_X1_remembers_2 S p0) = r_X1_remembers S p0 from rfl)⟩, endW hP1 hK hD1 ht hW⟩, hS1.F ht⟩) hS1.2.2 dX1_remembers_14
theorem z_X1_remembers (S : St) (p0 : Int32) : narrow .boolean (.int (r_X1_remembers S p0)) = .int (r_X1_remembers S p0) := by
  exact z_X10_isWithin S p0 1 (v_X1_remembers_1 S p0)

def v_X1_findBit_1 (S : St) (p0 : Int32) : Int32 := p0 - 1
def v_X1_findBit_2 (S : St) (p0 : Int32) : Int32 := ((S.1 25).toUInt32 >>> ((v_X1_findBit_1 S p0).toUInt32 &&& Int32.toUInt32 31)).toInt32
def v_X1_findBit_3 (S : St) (p0 : Int32) : Int32 := (v_X1_findBit_2 S p0) &&& 1
def r_X1_findBit (S : St) (p0 : Int32) : Int32 := (v_X1_findBit_3 S p0)
def rm_X1_findBit : Room := { frames := 0, cells := 0, slots := 0, locals := 0 }
set_option maxRecDepth 100000 in
set_option maxHeartbeats 4000000 in
theorem k_X1_findBit (l : Launch) (D : va_G) (a : Nat → Nat) (cZ cI : ClassId) (S : St) (sz : Nat) (p0 : Int32) : Met l yX1_findBit wsX1_findBit rm_X1_findBit (va_Pc [.ref (a 7), .int p0] (pW D (tyZI cZ cI) (wP a cZ cI S) sz nP)) (va_Qi (fun (r : Int32) (u : St) => u = S ∧ r = r_X1_findBit S p0) (fun u t => oW D (tyZI cZ cI) (wP a cZ cI u) (aA (adP a) sz) t) (aA (adP a) sz)) 0 0 (aA (adP a) sz) := by
  refine Met.ofW (cc := cX1_findBit) (maxL := 2) (ret := (some .int)) (by decide +kernel) rfl ?_
  intro p e s m args below meth c s₁ B hml hv
  obtain ⟨rfl, hsz, hP0, hK, hD9, hN⟩ := hv
  have hx := B.exec
  have hb := B.bytes
  have hr := B.returns
  have hts := atoms_spec (ws := wsX1_findBit) B.pre
  have hown : s.vm.findClass RX1 = some m.cls := findClass_of_methodNamed B.named
  have hlocks := B.notSynchronized
  subst hsz
  have hD0 := aA_self (sz := s.heap.size) (as := adP a) hD9 rfl
  generalize hAe : aA (adP a) s.heap.size = A at hD0 ⊢
  have hA : ∀ q : Nat, s.heap.size ≤ q → A q := fun q h => by rw [← hAe]; exact Or.inr h
  have hAc : ∀ q : Nat, q ∈ adP a → A q := fun q h => by rw [← hAe]; exact Or.inl h
  have hS0 : va_S A s.heap s.heap [] := va_S.rf
  have hl0 := lv_entry ([.ref (a 7), .int p0]) (n := 2) (Nat.le_of_ble_eq_true rfl)
  rw [lg_entry_eq]
  generalize (lg_sl ([.ref (a 7), .int p0]) ++ List.replicate (2 - (lg_sl ([.ref (a 7), .int p0])).length) Slot.unset).toArray = ls0 at hl0 ⊢
  have hl0 : lv_has ls0 2 [(0, .ref (a 7)), (1, .int p0)] := hl0
  generalize hQ : MQ below _ _ s _ _ _ = Q
  clear hD9 B
  refine lv_aload_n hx hb dX1_findBit_0 rfl (lv_at hl0 0 rfl) ?_
  refine va_get (D := D) (ci := 1) (v := .int (S.1 25)) (C := RX1) (T := TX1) (N := 2) hx hb hts (fun _ h => List.mem_cons_of_mem _ (List.mem_append_right _ (h))) hown hK hP0 7 rfl rfl 1 (by decide) (hts (.fieldLink RX1 15 "Phaselock$BitLog" "latest32" "I") (List.mem_cons_of_mem _ (List.mem_append_left _ (List.mem_of_getElem? (i := 0) rfl)))) (fun _ h9 => h9) rfl dX1_findBit_1 ?_
  refine lv_iload_n hx hb dX1_findBit_4 rfl (lv_at hl0 1 rfl) ?_
  refine lv_iconst (v := 1) hx hb dX1_findBit_5 (by decide) ?_
  refine lv_isub hx hb dX1_findBit_6 ?_
  refine lv_asi (y := (v_X1_findBit_1 S p0)) rfl ?_
  refine lv_iushr (v := (v_X1_findBit_2 S p0)) hx hb dX1_findBit_7 rfl ?_
  refine lv_iconst (v := 1) hx hb dX1_findBit_8 (by decide) ?_
  refine lv_iand hx hb dX1_findBit_9 ?_
  refine lv_asi (y := (v_X1_findBit_3 S p0)) rfl ?_
  subst hQ; exact W.iret (v := (v_X1_findBit_3 S p0)) hx hb hr (fun t ht hW => ⟨⟨(v_X1_findBit_3 S p0), S, rfl, ⟨rfl, (show (v_X1_findBit_3 S p0) = r_X1_findBit S p0 from rfl)⟩, endW hP0 hK hD0 ht hW⟩, hS0.F ht⟩) hS0.2.2 dX1_findBit_10

def v_X2_findDistance_1 (S : St) (p0 : Int32) (p1 : Int32) : Int32 := p0 - p1
def v_X2_findDistance_2 (S : St) (p0 : Int32) (p1 : Int32) : Int32 := (v_X2_findDistance_1 S p0 p1) &&& 15
def v_X2_findDistance_3 (S : St) (p0 : Int32) (p1 : Int32) : Int32 := p1 - p0
def v_X2_findDistance_4 (S : St) (p0 : Int32) (p1 : Int32) : Int32 := (v_X2_findDistance_3 S p0 p1) &&& 15
def v_X2_findDistance_5 (S : St) (p0 : Int32) (p1 : Int32) : Int32 := if (v_X2_findDistance_4 S p0 p1) < (v_X2_findDistance_2 S p0 p1) then (v_X2_findDistance_4 S p0 p1) else (v_X2_findDistance_2 S p0 p1)
def r_X2_findDistance (S : St) (p0 : Int32) (p1 : Int32) : Int32 := (v_X2_findDistance_5 S p0 p1)
def rm_X2_findDistance : Room := { frames := 1, cells := 0, slots := 0, locals := 21 }
set_option maxRecDepth 100000 in
set_option maxHeartbeats 4000000 in
theorem k_X2_findDistance (l : Launch) (D : va_G) (a : Nat → Nat) (cZ cI : ClassId) (S : St) (sz : Nat) (p0 : Int32) (p1 : Int32) : Met l yX2_findDistance wsX2_findDistance rm_X2_findDistance (va_Pc [.int p0, .int p1] (pW D (tyZI cZ cI) (wP a cZ cI S) sz nP)) (va_Qi (fun (r : Int32) (u : St) => u = S ∧ r = r_X2_findDistance S p0 p1) (fun u t => oW D (tyZI cZ cI) (wP a cZ cI u) (aA (adP a) sz) t) (aA (adP a) sz)) 0 0 (aA (adP a) sz) := by
  refine Met.ofW (cc := cX2_findDistance) (maxL := 4) (ret := (some .int)) (by decide +kernel) rfl ?_
  intro p e s m args below meth c s₁ B hml hv
  obtain ⟨rfl, hsz, hP0, hK, hD9, hN⟩ := hv
  have hx := B.exec
  have hb := B.bytes
  have hr := B.returns
  have hts := atoms_spec (ws := wsX2_findDistance) B.pre
  have hown : s.vm.findClass RX2 = some m.cls := findClass_of_methodNamed B.named
  have hlocks := B.notSynchronized
  subst hsz
  have hD0 := aA_self (sz := s.heap.size) (as := adP a) hD9 rfl
  generalize hAe : aA (adP a) s.heap.size = A at hD0 ⊢
  have hA : ∀ q : Nat, s.heap.size ≤ q → A q := fun q h => by rw [← hAe]; exact Or.inr h
  have hAc : ∀ q : Nat, q ∈ adP a → A q := fun q h => by rw [← hAe]; exact Or.inl h
  have hS0 : va_S A s.heap s.heap [] := va_S.rf
  have hl0 := lv_entry ([.int p0, .int p1]) (n := 4) (Nat.le_of_ble_eq_true rfl)
  rw [lg_entry_eq]
  generalize (lg_sl ([.int p0, .int p1]) ++ List.replicate (4 - (lg_sl ([.int p0, .int p1])).length) Slot.unset).toArray = ls0 at hl0 ⊢
  have hl0 : lv_has ls0 4 [(0, .int p0), (1, .int p1)] := hl0
  generalize hQ : MQ below _ _ s _ _ _ = Q
  clear hD9 B
  refine lv_iload_n hx hb dX2_findDistance_0 rfl (lv_at hl0 0 rfl) ?_
  refine lv_iload_n hx hb dX2_findDistance_1 rfl (lv_at hl0 1 rfl) ?_
  refine lv_isub hx hb dX2_findDistance_2 ?_
  refine lv_asi (y := (v_X2_findDistance_1 S p0 p1)) rfl ?_
  refine lv_bipush (v := 15) hx hb dX2_findDistance_3 (by decide) ?_
  refine lv_iand hx hb dX2_findDistance_5 ?_
  refine lv_asi (y := (v_X2_findDistance_2 S p0 p1)) rfl ?_
  refine lv_istore_n (lv' := [(2, .int (v_X2_findDistance_2 S p0 p1)), (0, .int p0), (1, .int p1)]) hx hb dX2_findDistance_6 rfl hl0 (by decide) rfl (fun ls1 hl1 => ?_)
  clear hl0
  refine lv_iload_n hx hb dX2_findDistance_7 rfl (lv_at hl1 2 rfl) ?_
  refine lv_iload_n hx hb dX2_findDistance_8 rfl (lv_at hl1 1 rfl) ?_
  refine lv_isub hx hb dX2_findDistance_9 ?_
  refine lv_asi (y := (v_X2_findDistance_3 S p0 p1)) rfl ?_
  refine lv_bipush (v := 15) hx hb dX2_findDistance_10 (by decide) ?_
  refine lv_iand hx hb dX2_findDistance_12 ?_
  refine lv_asi (y := (v_X2_findDistance_4 S p0 p1)) rfl ?_
  refine lv_istore_n (lv' := [(3, .int (v_X2_findDistance_4 S p0 p1)), (2, .int (v_X2_findDistance_2 S p0 p1)), (0, .int p0), (1, .int p1)]) hx hb dX2_findDistance_13 rfl hl1 (by decide) rfl (fun ls2 hl2 => ?_)
  clear hl1
  refine lv_iload_n hx hb dX2_findDistance_14 rfl (lv_at hl2 1 rfl) ?_
  refine lv_iload_n hx hb dX2_findDistance_15 rfl (lv_at hl2 0 rfl) ?_
  refine va_mmin hx hb (hml.trans hl2.1.symm) hown (hts (.methodLink RX2 21 Lib.Math.min.name) (List.mem_cons_of_mem _ (List.mem_of_getElem? (i := 0) rfl))) (hts (.static Lib.Math.min.name) (List.mem_cons_of_mem _ (List.mem_of_getElem? (i := 1) rfl))) (hts (.initialized "java/lang/Math") (List.mem_cons_of_mem _ (List.mem_of_getElem? (i := 2) rfl))) (hts (.code Lib.Math.min.name Lib.Math.min.code 2 (some .int)) (List.mem_cons_of_mem _ (List.mem_of_getElem? (i := 3) rfl))) (Nat.le_of_ble_eq_true rfl) (Nat.le_of_ble_eq_true rfl) (Nat.le_refl 0) (Nat.le_refl 0) dX2_findDistance_16 ?_
  refine lv_asi (y := (v_X2_findDistance_5 S p0 p1)) rfl ?_
  subst hQ; exact W.iret (v := (v_X2_findDistance_5 S p0 p1)) hx hb hr (fun t ht hW => ⟨⟨(v_X2_findDistance_5 S p0 p1), S, rfl, ⟨rfl, (show (v_X2_findDistance_5 S p0 p1) = r_X2_findDistance S p0 p1 from rfl)⟩, endW hP0 hK hD0 ht hW⟩, hS0.F ht⟩) hS0.2.2 dX2_findDistance_19

def scost (S : St) (p0 : Int32) : Nat → Int32
  | 0 => 0
  | i + 1 => if S.2.2.1 (nI i).toNatClampNeg = 0 then scost S p0 i else scost S p0 i + (8 - r_X2_findDistance S p0 (nI i))
def v_X2_sumCosts_2 (S : St) (p0 : Int32) (i : Nat) : Int32 := S.2.2.1 ((nI i)).toNatClampNeg
def v_X2_sumCosts_3 (S : St) (p0 : Int32) (i : Nat) : Int32 := r_X2_findDistance S p0 (nI i)
def v_X2_sumCosts_4 (S : St) (p0 : Int32) (i : Nat) : Int32 := 8 - (v_X2_sumCosts_3 S p0 i)
def v_X2_sumCosts_5 (S : St) (p0 : Int32) (i : Nat) : Int32 := (scost S p0 i) + (v_X2_sumCosts_4 S p0 i)
def v_X2_sumCosts_6 (S : St) (p0 : Int32) (i : Nat) : Int32 := if (v_X2_sumCosts_2 S p0 i) = 0 then (scost S p0 i) else (v_X2_sumCosts_5 S p0 i)
def v_X2_sumCosts_7 (S : St) (p0 : Int32) (i : Nat) : Int32 := (nI i) + 1
def r_X2_sumCosts (S : St) (p0 : Int32) : Int32 := (scost S p0 256)
def rm_X2_sumCosts : Room := { frames := 2, cells := 0, slots := 0, locals := 44 }
set_option maxRecDepth 100000 in
set_option maxHeartbeats 4000000 in
theorem k_X2_sumCosts (l : Launch) (D : va_G) (a : Nat → Nat) (cZ cI : ClassId) (S : St) (sz : Nat) (p0 : Int32) : Met l yX2_sumCosts wsX2_sumCosts rm_X2_sumCosts (va_Pc [.ref (a 3), .int p0] (pW D (tyZI cZ cI) (wP a cZ cI S) sz nP)) (va_Qi (fun (r : Int32) (u : St) => u = S ∧ r = r_X2_sumCosts S p0) (fun u t => oW D (tyZI cZ cI) (wP a cZ cI u) (aA (adP a) sz) t) (aA (adP a) sz)) 0 0 (aA (adP a) sz) := by
  refine Met.ofW (cc := cX2_sumCosts) (maxL := 4) (ret := (some .int)) (by decide +kernel) rfl ?_
  intro p e s m args below meth c s₁ B hml hv
  obtain ⟨rfl, hsz, hP0, hK, hD9, hN⟩ := hv
  have hx := B.exec
  have hb := B.bytes
  have hr := B.returns
  have hts := atoms_spec (ws := wsX2_sumCosts) B.pre
  have hown : s.vm.findClass RX2 = some m.cls := findClass_of_methodNamed B.named
  have hlocks := B.notSynchronized
  subst hsz
  have hD0 := aA_self (sz := s.heap.size) (as := adP a) hD9 rfl
  generalize hAe : aA (adP a) s.heap.size = A at hD0 ⊢
  have hA : ∀ q : Nat, s.heap.size ≤ q → A q := fun q h => by rw [← hAe]; exact Or.inr h
  have hAc : ∀ q : Nat, q ∈ adP a → A q := fun q h => by rw [← hAe]; exact Or.inl h
  have hS0 : va_S A s.heap s.heap [] := va_S.rf
  have hl0 := lv_entry ([.ref (a 3), .int p0]) (n := 4) (Nat.le_of_ble_eq_true rfl)
  rw [lg_entry_eq]
  generalize (lg_sl ([.ref (a 3), .int p0]) ++ List.replicate (4 - (lg_sl ([.ref (a 3), .int p0])).length) Slot.unset).toArray = ls0 at hl0 ⊢
  have hl0 : lv_has ls0 4 [(0, .ref (a 3)), (1, .int p0)] := hl0
  generalize hQ : MQ below _ _ s _ _ _ = Q
  clear hD9 B
  refine lv_iconst (v := 0) hx hb dX2_sumCosts_0 (by decide) ?_
  refine lv_istore_n (lv' := [(2, .int 0), (0, .ref (a 3)), (1, .int p0)]) hx hb dX2_sumCosts_1 rfl hl0 (by decide) rfl (fun ls1 hl1 => ?_)
  clear hl0
  refine lv_iconst (v := 0) hx hb dX2_sumCosts_2 (by decide) ?_
  refine lv_istore_n (lv' := [(3, .int 0), (2, .int 0), (0, .ref (a 3)), (1, .int p0)]) hx hb dX2_sumCosts_3 rfl hl1 (by decide) rfl (fun ls2 hl2 => ?_)
  clear hl1
  have LOOP : ∀ (n i : Nat), i ≤ 256 → 256 < i + n → ∀ (H1 : Heap) (L1 : List Loc), va_P D vwCl (wP a cZ cI S) H1 → va_D A (wP a cZ cI S) → va_S A s.heap H1 L1 → ∀ ls3 : Array Slot, lv_has ls3 4 [(3, .int (nI i)), (2, .int (scost S p0 i)), (0, .ref (a 3)), (1, .int p0)] → W p l e (headSpec wsX2_sumCosts rm_X2_sumCosts).room s m ([.ref (a 3), .int p0] : List Value).toArray below meth c H1 L1 0 0 Q (F0 m 4 ls3 []) := by
    clear hP0 hD0 hS0 hl2
    intro n
    induction n with
    | zero => exact fun i h1 h2 => absurd h2 (by omega)
    | succ n ih =>
      intro i hi hin H1 L1 hP1 hD1 hS1 ls3 hl3
      refine lv_iload_n hx hb dX2_sumCosts_4 rfl (lv_at hl3 0 rfl) ?_
      refine lv_sipush (v := 256) hx hb dX2_sumCosts_5 (by decide) ?_
      refine lv_icmp_ge (tgt := 37) hx hb dX2_sumCosts_8 (by decide) (fun c1_8 => ?_) (fun c1_8 => ?_)
      · have hie : i = 256 := lp_ge (N := 256) (by decide) hi c1_8
        subst hie
        refine lv_iload_n hx hb dX2_sumCosts_37 rfl (lv_at hl3 1 rfl) ?_
        subst hQ; exact W.iret (v := (scost S p0 256)) hx hb hr (fun t ht hW => ⟨⟨(scost S p0 256), S, rfl, ⟨rfl, (show (scost S p0 256) = r_X2_sumCosts S p0 from rfl)⟩, endW hP1 hK hD1 ht hW⟩, hS1.F ht⟩) hS1.2.2 dX2_sumCosts_38
      · have hlt : i < 256 := lp_lt (N := 256) (by decide) hi c1_8
        refine lv_aload_n hx hb dX2_sumCosts_11 rfl (lv_at hl3 2 rfl) ?_
        refine va_get (D := D) (ci := 2) (v := .ref (a 11)) (C := RX2) (T := TX2) (N := 2) hx hb hts (fun _ h => List.mem_cons_of_mem _ (List.mem_append_right _ (h))) hown hK hP1 3 rfl rfl 1 (by decide) (hts (.fieldLink RX2 13 "Phaselock$EdgeLog" "changed" "[Z") (List.mem_cons_of_mem _ (List.mem_append_left _ (List.mem_of_getElem? (i := 0) rfl)))) (fun _ h9 => h9) rfl dX2_sumCosts_12 ?_
        refine lv_iload_n hx hb dX2_sumCosts_15 rfl (lv_at hl3 0 rfl) ?_
        refine va_zald (D := D) hx hb hK hP1 11 0 rfl rfl (vp_in_nI hlt (by decide)) dX2_sumCosts_16 ?_
        refine lv_asi (y := (v_X2_sumCosts_2 S p0 i)) rfl ?_
        have J1_17 : ∀ (H3 : Heap) (L3 : List Loc), va_P D vwCl (wP a cZ cI S) H3 → va_D A (wP a cZ cI S) → va_S A s.heap H3 L3 → ∀ ls5 : Array Slot, lv_has ls5 4 [(3, .int (nI i)), (2, .int (v_X2_sumCosts_6 S p0 i)), (0, .ref (a 3)), (1, .int p0)] → W p l e (headSpec wsX2_sumCosts rm_X2_sumCosts).room s m ([.ref (a 3), .int p0] : List Value).toArray below meth c H3 L3 0 0 Q (F0 m 31 ls5 []) := by
          intro H3 L3 hP3 hD3 hS3 ls5 hl5
          clear hP1 hD1 hS1
          clear hl3
          refine lv_iinc (v := (v_X2_sumCosts_7 S p0 i)) (lv' := [(3, .int (v_X2_sumCosts_7 S p0 i)), (2, .int (v_X2_sumCosts_6 S p0 i)), (0, .ref (a 3)), (1, .int p0)]) hx hb dX2_sumCosts_31 hl5 (k := 0) rfl rfl (by decide) rfl (fun ls6 hl6 => ?_)
          clear hl5
          refine lv_goto (tgt := 4) hx hb dX2_sumCosts_34 (by decide) ?_
          exact ih (i + 1) (by omega) (by omega) _ _ hP3 hD3 hS3 _ (by rw [show (nI (i + 1)) = (v_X2_sumCosts_7 S p0 i) from (nI_1 i).symm, show (scost S p0 (i + 1)) = (v_X2_sumCosts_6 S p0 i) from rfl]; exact lv_sub (l' := [(3, .int (v_X2_sumCosts_7 S p0 i)), (2, .int (v_X2_sumCosts_6 S p0 i)), (0, .ref (a 3)), (1, .int p0)]) hl6 [0, 1, 2, 3] rfl)
        refine lv_if_eq (tgt := 31) hx hb dX2_sumCosts_17 (by decide) (fun c2_17 => ?_) (fun c2_17 => ?_)
        · exact J1_17 _ _ hP1 hD1 hS1 _ (by rw [show (v_X2_sumCosts_6 S p0 i) = (scost S p0 i) from (if_pos c2_17)]; exact lv_sub (l' := [(3, .int (nI i)), (2, .int (scost S p0 i)), (0, .ref (a 3)), (1, .int p0)]) hl3 [0, 1, 2, 3] rfl)
        · refine lv_iload_n hx hb dX2_sumCosts_20 rfl (lv_at hl3 1 rfl) ?_
          refine lv_bipush (v := 8) hx hb dX2_sumCosts_21 (by decide) ?_
          refine lv_iload_n hx hb dX2_sumCosts_23 rfl (lv_at hl3 3 rfl) ?_
          refine lv_iload_n hx hb dX2_sumCosts_24 rfl (lv_at hl3 0 rfl) ?_
          refine va_calli (va_runS (As := [.int p0, .int (nI i)]) (rest := [.int 8, .int (scost S p0 i)]) ⟨hx, hb, hml, hown, hts⟩ (k_X2_findDistance l D a cZ cI S H1.size p0 (nI i)) (va_cwS 2 hts gX2_sumCosts_X2_findDistance rfl rfl rfl (by decide +kernel) ⟨Nat.le_of_ble_eq_true rfl, Nat.le_of_ble_eq_true rfl⟩) ⟨blW okN_P, preW hP1 hK hD1 okN_P hN⟩ rfl rfl hl3.1 rfl (lv_room (Nat.le_of_ble_eq_true rfl)) dX2_sumCosts_25 ⟨Nat.zero_le _, Nat.zero_le _⟩) hS1 (aA_in hAc) (aA_free hAc hA hS1) (fun r2 u2 t2 H2 L2 ht2 hvm2 hw2 hB2 _ _ hS2 => ?_)
          obtain ⟨hP2, hD2⟩ := backW hB2 ht2 (aA_free hAc hA hS1)
          clear hB2 ht2 hvm2 t2
          obtain ⟨hu2, hr2⟩ := hw2
          subst u2; subst r2
          clear hP1 hD1 hS1
          refine lv_asi (y := (v_X2_sumCosts_3 S p0 i)) rfl ?_
          refine lv_isub hx hb dX2_sumCosts_28 ?_
          refine lv_asi (y := (v_X2_sumCosts_4 S p0 i)) rfl ?_
          refine lv_iadd hx hb dX2_sumCosts_29 ?_
          refine lv_asi (y := (v_X2_sumCosts_5 S p0 i)) rfl ?_
          refine lv_istore_n (lv' := [(2, .int (v_X2_sumCosts_5 S p0 i)), (3, .int (nI i)), (0, .ref (a 3)), (1, .int p0)]) hx hb dX2_sumCosts_30 rfl hl3 (by decide) rfl (fun ls4 hl4 => ?_)
          clear hl3
          exact J1_17 _ _ hP2 hD2 hS2 _ (by rw [show (v_X2_sumCosts_6 S p0 i) = (v_X2_sumCosts_5 S p0 i) from (if_neg c2_17)]; exact lv_sub (l' := [(3, .int (nI i)), (2, .int (v_X2_sumCosts_5 S p0 i)), (0, .ref (a 3)), (1, .int p0)]) hl4 [1, 0, 2, 3] rfl)
  exact LOOP (256 + 1) 0 (Nat.zero_le _) (by omega) _ _ hP0 hD0 hS0 _ (lv_sub (l' := [(3, .int (nI 0)), (2, .int (scost S p0 0)), (0, .ref (a 3)), (1, .int p0)]) hl2 [0, 1, 2, 3] rfl)

def v_J6_bitCount_0f7a4_1 (S : St) (p0 : Int32) : Int32 := (p0.toUInt32 >>> ((1 : Int32).toUInt32 &&& Int32.toUInt32 31)).toInt32
def v_J6_bitCount_0f7a4_2 (S : St) (p0 : Int32) : Int32 := (v_J6_bitCount_0f7a4_1 S p0) &&& 1431655765
def v_J6_bitCount_0f7a4_3 (S : St) (p0 : Int32) : Int32 := p0 - (v_J6_bitCount_0f7a4_2 S p0)
def v_J6_bitCount_0f7a4_4 (S : St) (p0 : Int32) : Int32 := (v_J6_bitCount_0f7a4_3 S p0) &&& 858993459
def v_J6_bitCount_0f7a4_5 (S : St) (p0 : Int32) : Int32 := ((v_J6_bitCount_0f7a4_3 S p0).toUInt32 >>> ((2 : Int32).toUInt32 &&& Int32.toUInt32 31)).toInt32
def v_J6_bitCount_0f7a4_6 (S : St) (p0 : Int32) : Int32 := (v_J6_bitCount_0f7a4_5 S p0) &&& 858993459
def v_J6_bitCount_0f7a4_7 (S : St) (p0 : Int32) : Int32 := (v_J6_bitCount_0f7a4_4 S p0) + (v_J6_bitCount_0f7a4_6 S p0)
def v_J6_bitCount_0f7a4_8 (S : St) (p0 : Int32) : Int32 := ((v_J6_bitCount_0f7a4_7 S p0).toUInt32 >>> ((4 : Int32).toUInt32 &&& Int32.toUInt32 31)).toInt32
def v_J6_bitCount_0f7a4_9 (S : St) (p0 : Int32) : Int32 := (v_J6_bitCount_0f7a4_7 S p0) + (v_J6_bitCount_0f7a4_8 S p0)
def v_J6_bitCount_0f7a4_10 (S : St) (p0 : Int32) : Int32 := (v_J6_bitCount_0f7a4_9 S p0) &&& 252645135
def v_J6_bitCount_0f7a4_11 (S : St) (p0 : Int32) : Int32 := ((v_J6_bitCount_0f7a4_10 S p0).toUInt32 >>> ((8 : Int32).toUInt32 &&& Int32.toUInt32 31)).toInt32
def v_J6_bitCount_0f7a4_12 (S : St) (p0 : Int32) : Int32 := (v_J6_bitCount_0f7a4_10 S p0) + (v_J6_bitCount_0f7a4_11 S p0)
def v_J6_bitCount_0f7a4_13 (S : St) (p0 : Int32) : Int32 := ((v_J6_bitCount_0f7a4_12 S p0).toUInt32 >>> ((16 : Int32).toUInt32 &&& Int32.toUInt32 31)).toInt32
def v_J6_bitCount_0f7a4_14 (S : St) (p0 : Int32) : Int32 := (v_J6_bitCount_0f7a4_12 S p0) + (v_J6_bitCount_0f7a4_13 S p0)
def v_J6_bitCount_0f7a4_15 (S : St) (p0 : Int32) : Int32 := (v_J6_bitCount_0f7a4_14 S p0) &&& 63
def r_J6_bitCount_0f7a4 (S : St) (p0 : Int32) : Int32 := (v_J6_bitCount_0f7a4_15 S p0)
def rm_J6_bitCount_0f7a4 : Room := { frames := 0, cells := 0, slots := 0, locals := 0 }
set_option maxRecDepth 100000 in
set_option maxHeartbeats 4000000 in
theorem k_J6_bitCount_0f7a4 (l : Launch) (D : va_G) (a : Nat → Nat) (cZ cI : ClassId) (S : St) (sz : Nat) (p0 : Int32) : Met l yJ6_bitCount_0f7a4 wsJ6_bitCount_0f7a4 rm_J6_bitCount_0f7a4 (va_Pc [.int p0] (pW D (tyZI cZ cI) (wP a cZ cI S) sz nP)) (va_Qi (fun (r : Int32) (u : St) => u = S ∧ r = r_J6_bitCount_0f7a4 S p0) (fun u t => oW D (tyZI cZ cI) (wP a cZ cI u) (aA (adP a) sz) t) (aA (adP a) sz)) 0 0 (aA (adP a) sz) := by
  refine Met.ofW (cc := cJ6_bitCount_0f7a4) (maxL := 1) (ret := (some .int)) (by decide +kernel) rfl ?_
  intro p e s m args below meth c s₁ B hml hv
  obtain ⟨rfl, hsz, hP0, hK, hD9, hN⟩ := hv
  have hx := B.exec
  have hb := B.bytes
  have hr := B.returns
  have hts := atoms_spec (ws := wsJ6_bitCount_0f7a4) B.pre
  have hown : s.vm.findClass RJ6 = some m.cls := findClass_of_methodNamed B.named
  have hlocks := B.notSynchronized
  subst hsz
  have hD0 := aA_self (sz := s.heap.size) (as := adP a) hD9 rfl
  generalize hAe : aA (adP a) s.heap.size = A at hD0 ⊢
  have hA : ∀ q : Nat, s.heap.size ≤ q → A q := fun q h => by rw [← hAe]; exact Or.inr h
  have hAc : ∀ q : Nat, q ∈ adP a → A q := fun q h => by rw [← hAe]; exact Or.inl h
  have hS0 : va_S A s.heap s.heap [] := va_S.rf
  have hl0 := lv_entry ([.int p0]) (n := 1) (Nat.le_of_ble_eq_true rfl)
  rw [lg_entry_eq]
  generalize (lg_sl ([.int p0]) ++ List.replicate (1 - (lg_sl ([.int p0])).length) Slot.unset).toArray = ls0 at hl0 ⊢
  have hl0 : lv_has ls0 1 [(0, .int p0)] := hl0
  generalize hQ : MQ below _ _ s _ _ _ = Q
  clear hD9 B
  refine lv_iload_n hx hb dJ6_bitCount_0f7a4_0 rfl (lv_at hl0 0 rfl) ?_
  refine lv_iload_n hx hb dJ6_bitCount_0f7a4_1 rfl (lv_at hl0 0 rfl) ?_
  refine lv_iconst (v := 1) hx hb dJ6_bitCount_0f7a4_2 (by decide) ?_
  refine lv_iushr (v := (v_J6_bitCount_0f7a4_1 S p0)) hx hb dJ6_bitCount_0f7a4_3 rfl ?_
  refine lv_ldcw (v := 1431655765) hx hb hown (hts (.constant RJ6 265 (1431655765)) (List.mem_cons_of_mem _ (List.mem_of_getElem? (i := 0) rfl))) dJ6_bitCount_0f7a4_4 ?_
  refine lv_iand hx hb dJ6_bitCount_0f7a4_7 ?_
  refine lv_asi (y := (v_J6_bitCount_0f7a4_2 S p0)) rfl ?_
  refine lv_isub hx hb dJ6_bitCount_0f7a4_8 ?_
  refine lv_asi (y := (v_J6_bitCount_0f7a4_3 S p0)) rfl ?_
  refine lv_istore_n (lv' := [(0, .int (v_J6_bitCount_0f7a4_3 S p0))]) hx hb dJ6_bitCount_0f7a4_9 rfl hl0 (by decide) rfl (fun ls1 hl1 => ?_)
  clear hl0
  refine lv_iload_n hx hb dJ6_bitCount_0f7a4_10 rfl (lv_at hl1 0 rfl) ?_
  refine lv_ldcw (v := 858993459) hx hb hown (hts (.constant RJ6 266 (858993459)) (List.mem_cons_of_mem _ (List.mem_of_getElem? (i := 1) rfl))) dJ6_bitCount_0f7a4_11 ?_
  refine lv_iand hx hb dJ6_bitCount_0f7a4_14 ?_
  refine lv_asi (y := (v_J6_bitCount_0f7a4_4 S p0)) rfl ?_
  refine lv_iload_n hx hb dJ6_bitCount_0f7a4_15 rfl (lv_at hl1 0 rfl) ?_
  refine lv_iconst (v := 2) hx hb dJ6_bitCount_0f7a4_16 (by decide) ?_
  refine lv_iushr (v := (v_J6_bitCount_0f7a4_5 S p0)) hx hb dJ6_bitCount_0f7a4_17 rfl ?_
  refine lv_ldcw (v := 858993459) hx hb hown (hts (.constant RJ6 266 (858993459)) (List.mem_cons_of_mem _ (List.mem_of_getElem? (i := 1) rfl))) dJ6_bitCount_0f7a4_18 ?_
  refine lv_iand hx hb dJ6_bitCount_0f7a4_21 ?_
  refine lv_asi (y := (v_J6_bitCount_0f7a4_6 S p0)) rfl ?_
  refine lv_iadd hx hb dJ6_bitCount_0f7a4_22 ?_
  refine lv_asi (y := (v_J6_bitCount_0f7a4_7 S p0)) rfl ?_
  refine lv_istore_n (lv' := [(0, .int (v_J6_bitCount_0f7a4_7 S p0))]) hx hb dJ6_bitCount_0f7a4_23 rfl hl1 (by decide) rfl (fun ls2 hl2 => ?_)
  clear hl1
  refine lv_iload_n hx hb dJ6_bitCount_0f7a4_24 rfl (lv_at hl2 0 rfl) ?_
  refine lv_iload_n hx hb dJ6_bitCount_0f7a4_25 rfl (lv_at hl2 0 rfl) ?_
  refine lv_iconst (v := 4) hx hb dJ6_bitCount_0f7a4_26 (by decide) ?_
  refine lv_iushr (v := (v_J6_bitCount_0f7a4_8 S p0)) hx hb dJ6_bitCount_0f7a4_27 rfl ?_
  refine lv_iadd hx hb dJ6_bitCount_0f7a4_28 ?_
  refine lv_asi (y := (v_J6_bitCount_0f7a4_9 S p0)) rfl ?_
  refine lv_ldcw (v := 252645135) hx hb hown (hts (.constant RJ6 267 (252645135)) (List.mem_cons_of_mem _ (List.mem_of_getElem? (i := 2) rfl))) dJ6_bitCount_0f7a4_29 ?_
  refine lv_iand hx hb dJ6_bitCount_0f7a4_32 ?_
  refine lv_asi (y := (v_J6_bitCount_0f7a4_10 S p0)) rfl ?_
  refine lv_istore_n (lv' := [(0, .int (v_J6_bitCount_0f7a4_10 S p0))]) hx hb dJ6_bitCount_0f7a4_33 rfl hl2 (by decide) rfl (fun ls3 hl3 => ?_)
  clear hl2
  refine lv_iload_n hx hb dJ6_bitCount_0f7a4_34 rfl (lv_at hl3 0 rfl) ?_
  refine lv_iload_n hx hb dJ6_bitCount_0f7a4_35 rfl (lv_at hl3 0 rfl) ?_
  refine lv_bipush (v := 8) hx hb dJ6_bitCount_0f7a4_36 (by decide) ?_
  refine lv_iushr (v := (v_J6_bitCount_0f7a4_11 S p0)) hx hb dJ6_bitCount_0f7a4_38 rfl ?_
  refine lv_iadd hx hb dJ6_bitCount_0f7a4_39 ?_
  refine lv_asi (y := (v_J6_bitCount_0f7a4_12 S p0)) rfl ?_
  refine lv_istore_n (lv' := [(0, .int (v_J6_bitCount_0f7a4_12 S p0))]) hx hb dJ6_bitCount_0f7a4_40 rfl hl3 (by decide) rfl (fun ls4 hl4 => ?_)
  clear hl3
  refine lv_iload_n hx hb dJ6_bitCount_0f7a4_41 rfl (lv_at hl4 0 rfl) ?_
  refine lv_iload_n hx hb dJ6_bitCount_0f7a4_42 rfl (lv_at hl4 0 rfl) ?_
  refine lv_bipush (v := 16) hx hb dJ6_bitCount_0f7a4_43 (by decide) ?_
  refine lv_iushr (v := (v_J6_bitCount_0f7a4_13 S p0)) hx hb dJ6_bitCount_0f7a4_45 rfl ?_
  refine lv_iadd hx hb dJ6_bitCount_0f7a4_46 ?_
  refine lv_asi (y := (v_J6_bitCount_0f7a4_14 S p0)) rfl ?_
  refine lv_istore_n (lv' := [(0, .int (v_J6_bitCount_0f7a4_14 S p0))]) hx hb dJ6_bitCount_0f7a4_47 rfl hl4 (by decide) rfl (fun ls5 hl5 => ?_)
  clear hl4
  refine lv_iload_n hx hb dJ6_bitCount_0f7a4_48 rfl (lv_at hl5 0 rfl) ?_
  refine lv_bipush (v := 63) hx hb dJ6_bitCount_0f7a4_49 (by decide) ?_
  refine lv_iand hx hb dJ6_bitCount_0f7a4_51 ?_
  refine lv_asi (y := (v_J6_bitCount_0f7a4_15 S p0)) rfl ?_
  subst hQ; exact W.iret (v := (v_J6_bitCount_0f7a4_15 S p0)) hx hb hr (fun t ht hW => ⟨⟨(v_J6_bitCount_0f7a4_15 S p0), S, rfl, ⟨rfl, (show (v_J6_bitCount_0f7a4_15 S p0) = r_J6_bitCount_0f7a4 S p0 from rfl)⟩, endW hP0 hK hD0 ht hW⟩, hS0.F ht⟩) hS0.2.2 dJ6_bitCount_0f7a4_52

def v_X3_findLevel_1 (S : St) : Int32 := (S.1 8) &&& 255
def v_X3_findLevel_2 (S : St) : Int32 := r_J6_bitCount_0f7a4 S (v_X3_findLevel_1 S)
def v_X3_findLevel_3 (S : St) : Int32 := 2 * (v_X3_findLevel_2 S)
def v_X3_findLevel_4 (S : St) : Int32 := (v_X3_findLevel_3 S) - 8
def r_X3_findLevel (S : St) : Int32 := (v_X3_findLevel_4 S)
def rm_X3_findLevel : Room := { frames := 1, cells := 0, slots := 0, locals := 20 }
set_option maxRecDepth 100000 in
set_option maxHeartbeats 4000000 in
theorem k_X3_findLevel (l : Launch) (D : va_G) (a : Nat → Nat) (cZ cI : ClassId) (S : St) (sz : Nat) : Met l yX3_findLevel wsX3_findLevel rm_X3_findLevel (va_Pc [.ref (a 2)] (pW D (tyZI cZ cI) (wP a cZ cI S) sz nP)) (va_Qi (fun (r : Int32) (u : St) => u = S ∧ r = r_X3_findLevel S) (fun u t => oW D (tyZI cZ cI) (wP a cZ cI u) (aA (adP a) sz) t) (aA (adP a) sz)) 0 0 (aA (adP a) sz) := by
  refine Met.ofW (cc := cX3_findLevel) (maxL := 1) (ret := (some .int)) (by decide +kernel) rfl ?_
  intro p e s m args below meth c s₁ B hml hv
  obtain ⟨rfl, hsz, hP0, hK, hD9, hN⟩ := hv
  have hx := B.exec
  have hb := B.bytes
  have hr := B.returns
  have hts := atoms_spec (ws := wsX3_findLevel) B.pre
  have hown : s.vm.findClass RX3 = some m.cls := findClass_of_methodNamed B.named
  have hlocks := B.notSynchronized
  subst hsz
  have hD0 := aA_self (sz := s.heap.size) (as := adP a) hD9 rfl
  generalize hAe : aA (adP a) s.heap.size = A at hD0 ⊢
  have hA : ∀ q : Nat, s.heap.size ≤ q → A q := fun q h => by rw [← hAe]; exact Or.inr h
  have hAc : ∀ q : Nat, q ∈ adP a → A q := fun q h => by rw [← hAe]; exact Or.inl h
  have hS0 : va_S A s.heap s.heap [] := va_S.rf
  have hl0 := lv_entry ([.ref (a 2)]) (n := 1) (Nat.le_of_ble_eq_true rfl)
  rw [lg_entry_eq]
  generalize (lg_sl ([.ref (a 2)]) ++ List.replicate (1 - (lg_sl ([.ref (a 2)])).length) Slot.unset).toArray = ls0 at hl0 ⊢
  have hl0 : lv_has ls0 1 [(0, .ref (a 2))] := hl0
  generalize hQ : MQ below _ _ s _ _ _ = Q
  clear hD9 B
  refine lv_iconst (v := 2) hx hb dX3_findLevel_0 (by decide) ?_
  refine lv_aload_n hx hb dX3_findLevel_1 rfl (lv_at hl0 0 rfl) ?_
  refine va_get (D := D) (ci := 3) (v := .int (S.1 8)) (C := RX3) (T := TX3) (N := 1) hx hb hts (fun _ h => List.mem_cons_of_mem _ (List.mem_append_right _ (h))) hown hK hP0 2 rfl rfl 0 (by decide) (hts (.fieldLink RX3 8 "Phaselock$LineMemory" "values" "I") (List.mem_cons_of_mem _ (List.mem_append_left _ (List.mem_of_getElem? (i := 0) rfl)))) (fun _ h9 => h9) rfl dX3_findLevel_2 ?_
  refine lv_sipush (v := 255) hx hb dX3_findLevel_5 (by decide) ?_
  refine lv_iand hx hb dX3_findLevel_8 ?_
  refine lv_asi (y := (v_X3_findLevel_1 S)) rfl ?_
  refine va_calli (va_runS (As := [.int (v_X3_findLevel_1 S)]) (rest := [.int 2]) ⟨hx, hb, hml, hown, hts⟩ (k_J6_bitCount_0f7a4 l D a cZ cI S s.heap.size (v_X3_findLevel_1 S)) (va_cwS 1 hts gX3_findLevel_J6_bitCount_0f7a4 rfl rfl rfl (by decide +kernel) ⟨Nat.le_of_ble_eq_true rfl, Nat.le_of_ble_eq_true rfl⟩) ⟨blW okN_P, preW hP0 hK hD0 okN_P hN⟩ rfl rfl hl0.1 rfl (lv_room (Nat.le_of_ble_eq_true rfl)) dX3_findLevel_9 ⟨Nat.zero_le _, Nat.zero_le _⟩) hS0 (aA_in hAc) (aA_free hAc hA hS0) (fun r1 u1 t1 H1 L1 ht1 hvm1 hw1 hB1 _ _ hS1 => ?_)
  obtain ⟨hP1, hD1⟩ := backW hB1 ht1 (aA_free hAc hA hS0)
  clear hB1 ht1 hvm1 t1
  obtain ⟨hu1, hr1⟩ := hw1
  subst u1; subst r1
  clear hP0 hD0 hS0
  refine lv_asi (y := (v_X3_findLevel_2 S)) rfl ?_
  refine lv_imul hx hb dX3_findLevel_12 ?_
  refine lv_asi (y := (v_X3_findLevel_3 S)) rfl ?_
  refine lv_bipush (v := 8) hx hb dX3_findLevel_13 (by decide) ?_
  refine lv_isub hx hb dX3_findLevel_15 ?_
  refine lv_asi (y := (v_X3_findLevel_4 S)) rfl ?_
  subst hQ; exact W.iret (v := (v_X3_findLevel_4 S)) hx hb hr (fun t ht hW => ⟨⟨(v_X3_findLevel_4 S), S, rfl, ⟨rfl, (show (v_X3_findLevel_4 S) = r_X3_findLevel S from rfl)⟩, endW hP1 hK hD1 ht hW⟩, hS1.F ht⟩) hS1.2.2 dX3_findLevel_16

