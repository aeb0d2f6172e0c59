def v_X1_add_1 (S : St) (p0 : Int32) : Int32 := (S.1 24) + 1
def s_X1_add_2 (S : St) (p0 : Int32) : St := si S 24 (v_X1_add_1 S p0)
def v_X1_add_3 (S : St) (p0 : Int32) : Int32 := ((s_X1_add_2 S p0).1 25) <<< (1 &&& 31)
def v_X1_add_4 (S : St) (p0 : Int32) : Int32 := (v_X1_add_3 S p0) ||| p0
def s_X1_add_5 (S : St) (p0 : Int32) : St := si (s_X1_add_2 S p0) 25 (v_X1_add_4 S p0)
def s_X1_add (S : St) (p0 : Int32) : St := (s_X1_add_5 S p0)
def rm_X1_add : Room := { frames := 0, cells := 0, slots := 0, locals := 0 }
set_option maxRecDepth 100000 in
set_option maxHeartbeats 4000000 in
theorem k_X1_add (l : Launch) (D : va_G) (a : Nat → Nat) (cZ cI : ClassId) (S : St) (sz : Nat) (p0 : Int32) : Met l yX1_add wsX1_add rm_X1_add (va_Pc [.ref (a 7), .int p0] (pW D (tyZI cZ cI) (wP a cZ cI S) sz nP)) (va_Qv (fun u : St => u = s_X1_add S p0) (fun u t => oW D (tyZI cZ cI) (wP a cZ cI u) (aA (adP a) sz) t) (aA (adP a) sz)) 0 0 (aA (adP a) sz) := by
  refine Met.ofW (cc := cX1_add) (maxL := 2) (ret := none) (by decide +kernel) rfl ?_
  intro p e s m args below meth c s₁ B hml hv
  obtain ⟨rfl, hsz, hP0, hK, hD9, hN⟩ := hv
  have hx := B.exec
  have hb := B.bytes
  have hr := B.returns
  have hts := atoms_spec (ws := wsX1_add) B.pre
  have hown : s.vm.findClass RX1 = some m.cls := findClass_of_methodNamed B.named
  have hlocks := B.notSynchronized
  subst hsz
  have hD0 := aA_self (sz := s.heap.size) (as := adP a) hD9 rfl
  generalize hAe : aA (adP a) s.heap.size = A at hD0 ⊢
  have hA : ∀ q : Nat, s.heap.size ≤ q → A q := fun q h => by rw [← hAe]; exact Or.inr h
  have hAc : ∀ q : Nat, q ∈ adP a → A q := fun q h => by rw [← hAe]; exact Or.inl h
  have hS0 : va_S A s.heap s.heap [] := va_S.rf
  have hl0 := lv_entry ([.ref (a 7), .int p0]) (n := 2) (Nat.le_of_ble_eq_true rfl)
  rw [lg_entry_eq]
  generalize (lg_sl ([.ref (a 7), .int p0]) ++ List.replicate (2 - (lg_sl ([.ref (a 7), .int p0])).length) Slot.unset).toArray = ls0 at hl0 ⊢
  have hl0 : lv_has ls0 2 [(0, .ref (a 7)), (1, .int p0)] := hl0
  generalize hQ : MQ below _ _ s _ _ _ = Q
  clear hD9 B
  refine lv_aload_n hx hb dX1_add_0 rfl (lv_at hl0 0 rfl) ?_
  refine lv_dup hx hb dX1_add_1 rfl ?_
  refine va_get (D := D) (ci := 1) (v := .int (S.1 24)) (C := RX1) (T := TX1) (N := 2) hx hb hts (fun _ h => List.mem_cons_of_mem _ (List.mem_append_right _ (h))) hown hK hP0 7 rfl rfl 0 (by decide) (hts (.fieldLink RX1 9 "Phaselock$BitLog" "count" "I") (List.mem_cons_of_mem _ (List.mem_append_left _ (List.mem_of_getElem? (i := 0) rfl)))) (fun _ h9 => h9) rfl dX1_add_2 ?_
  refine lv_iconst (v := 1) hx hb dX1_add_5 (by decide) ?_
  refine lv_iadd hx hb dX1_add_6 ?_
  refine lv_asi (y := (v_X1_add_1 S p0)) rfl ?_
  refine va_put (D := D) (ci := 1) (v := .int (v_X1_add_1 S p0)) (ty := .int) (C := RX1) (T := TX1) (N := 2) hx hb hts (fun _ h => List.mem_cons_of_mem _ (List.mem_append_right _ (h))) tyX1 tyX1_ok nmX1 hown hK hP0 hD0 hS0 7 rfl rfl 0 (by decide) (hts (.fieldLink RX1 9 "Phaselock$BitLog" "count" "I") (List.mem_cons_of_mem _ (List.mem_append_left _ (List.mem_of_getElem? (i := 0) rfl)))) (fun _ h9 => h9) rfl (by decide +kernel) rfl rfl (Nat.le_of_ble_eq_true rfl) dX1_add_7 (fun H1 L1 hP1 hD1 hS1 => ?_)
  replace hP1 : va_P D vwCl (wP a cZ cI (s_X1_add_2 S p0)) H1 := cvP (wP_s24 a cZ cI S (v_X1_add_1 S p0)) hP1
  replace hD1 : va_D A (wP a cZ cI (s_X1_add_2 S p0)) := cvD (wP_s24 a cZ cI S (v_X1_add_1 S p0)) hD1
  clear hP0 hD0 hS0
  refine lv_aload_n hx hb dX1_add_10 rfl (lv_at hl0 0 rfl) ?_
  refine lv_aload_n hx hb dX1_add_11 rfl (lv_at hl0 0 rfl) ?_
  refine va_get (D := D) (ci := 1) (v := .int ((s_X1_add_2 S p0).1 25)) (C := RX1) (T := TX1) (N := 2) hx hb hts (fun _ h => List.mem_cons_of_mem _ (List.mem_append_right _ (h))) hown hK hP1 7 rfl rfl 1 (by decide) (hts (.fieldLink RX1 15 "Phaselock$BitLog" "latest32" "I") (List.mem_cons_of_mem _ (List.mem_append_left _ (List.mem_of_getElem? (i := 1) rfl)))) (fun _ h9 => h9) rfl dX1_add_12 ?_
  refine lv_iconst (v := 1) hx hb dX1_add_15 (by decide) ?_
  refine lv_ishl hx hb dX1_add_16 ?_
  refine lv_asi (y := (v_X1_add_3 S p0)) rfl ?_
  refine lv_iload_n hx hb dX1_add_17 rfl (lv_at hl0 1 rfl) ?_
  refine lv_ior hx hb dX1_add_18 ?_
  refine lv_asi (y := (v_X1_add_4 S p0)) rfl ?_
  refine va_put (D := D) (ci := 1) (v := .int (v_X1_add_4 S p0)) (ty := .int) (C := RX1) (T := TX1) (N := 2) hx hb hts (fun _ h => List.mem_cons_of_mem _ (List.mem_append_right _ (h))) tyX1 tyX1_ok nmX1 hown hK hP1 hD1 hS1 7 rfl rfl 1 (by decide) (hts (.fieldLink RX1 15 "Phaselock$BitLog" "latest32" "I") (List.mem_cons_of_mem _ (List.mem_append_left _ (List.mem_of_getElem? (i := 1) rfl)))) (fun _ h9 => h9) rfl (by decide +kernel) rfl rfl (Nat.le_of_ble_eq_true rfl) dX1_add_19 (fun H2 L2 hP2 hD2 hS2 => ?_)
  replace hP2 : va_P D vwCl (wP a cZ cI (s_X1_add_5 S p0)) H2 := cvP (wP_s25 a cZ cI (s_X1_add_2 S p0) (v_X1_add_4 S p0)) hP2
  replace hD2 : va_D A (wP a cZ cI (s_X1_add_5 S p0)) := cvD (wP_s25 a cZ cI (s_X1_add_2 S p0) (v_X1_add_4 S p0)) hD2
  clear hP1 hD1 hS1
  subst hQ; exact W.vret hx hb hr (fun t ht hW => ⟨⟨(s_X1_add_5 S p0), rfl, (show (s_X1_add_5 S p0) = s_X1_add S p0 from rfl), endW hP2 hK hD2 ht hW⟩, hS2.F ht⟩) hS2.2.2 dX1_add_22

def v_X1_remembers_1 (S : St) (p0 : Int32) : Int32 := if (S.1 24) < 32 then (S.1 24) else 32
def v_X1_remembers_2 (S : St) (p0 : Int32) : Int32 := r_X10_isWithin S p0 1 (v_X1_remembers_1 S p0)
def r_X1_remembers (S : St) (p0 : Int32) : Int32 := (v_X1_remembers_2 S p0)
def rm_X1_remembers : Room := { frames := 1, cells := 0, slots := 0, locals := 22 }
set_option maxRecDepth 100000 in
set_option maxHeartbeats 4000000 in
theorem k_X1_remembers (l : Launch) (D : va_G) (a : Nat → Nat) (cZ cI : ClassId) (S : St) (sz : Nat) (p0 : Int32) : Met l yX1_remembers wsX1_remembers rm_X1_remembers (va_Pc [.ref (a 7), .int p0] (pW D (tyZI cZ cI) (wP a cZ cI S) sz nP)) (va_Qi (fun (r : Int32) (u : St) => u = S ∧ r = r_X1_remembers S p0) (fun u t => oW D (tyZI cZ cI) (wP a cZ cI u) (aA (adP a) sz) t) (aA (adP a) sz)) 0 0 (aA (adP a) sz) := by
  refine Met.ofW (cc := cX1_remembers) (maxL := 2) (ret := (some .boolean)) (by decide +kernel) rfl ?_
  intro p e s m args below meth c s₁ B hml hv
  obtain ⟨rfl, hsz, hP0, hK, hD9, hN⟩ := hv
  have hx := B.exec
  have hb := B.bytes
  have hr := B.returns
  have hts := atoms_spec (ws := wsX1_remembers) B.pre
  have hown : s.vm.findClass RX1 = some m.cls := findClass_of_methodNamed B.named
  have hlocks := B.notSynchronized
  subst hsz
  have hD0 := aA_self (sz := s.heap.size) (as := adP a) hD9 rfl
  generalize hAe : aA (adP a) s.heap.size = A at hD0 ⊢
  have hA : ∀ q : Nat, s.heap.size ≤ q → A q := fun q h => by rw [← hAe]; exact Or.inr h
  have hAc : ∀ q : Nat, q ∈ adP a → A q := fun q h => by rw [← hAe]; exact Or.inl h
  have hS0 : va_S A s.heap s.heap [] := va_S.rf
  have hl0 := lv_entry ([.ref (a 7), .int p0]) (n := 2) (Nat.le_of_ble_eq_true rfl)
  rw [lg_entry_eq]
  generalize (lg_sl ([.ref (a 7), .int p0]) ++ List.replicate (2 - (lg_sl ([.ref (a 7), .int p0])).length) Slot.unset).toArray = ls0 at hl0 ⊢
  have hl0 : lv_has ls0 2 [(0, .ref (a 7)), (1, .int p0)] := hl0
  generalize hQ : MQ below _ _ s _ _ _ = Q
  clear hD9 B
  refine lv_iload_n hx hb dX1_remembers_0 rfl (lv_at hl0 1 rfl) ?_
  refine lv_iconst (v := 1) hx hb dX1_remembers_1 (by decide) ?_
  refine lv_bipush (v := 32) hx hb dX1_remembers_2 (by decide) ?_
  refine lv_aload_n hx hb dX1_remembers_4 rfl (lv_at hl0 0 rfl) ?_
  refine va_get (D := D) (ci := 1) (v := .int (S.1 24)) (C := RX1) (T := TX1) (N := 2) hx hb hts (fun _ h => List.mem_cons_of_mem _ (List.mem_append_right _ (h))) hown hK hP0 7 rfl rfl 0 (by decide) (hts (.fieldLink RX1 9 "Phaselock$BitLog" "count" "I") (List.mem_cons_of_mem _ (List.mem_append_left _ (List.mem_of_getElem? (i := 0) rfl)))) (fun _ h9 => h9) rfl dX1_remembers_5 ?_
  refine va_mmin hx hb (hml.trans hl0.1.symm) hown (hts (.methodLink RX1 18 Lib.Math.min.name) (List.mem_cons_of_mem _ (List.mem_append_left _ (List.mem_of_getElem? (i := 1) rfl)))) (hts (.static Lib.Math.min.name) (List.mem_cons_of_mem _ (List.mem_append_left _ (List.mem_of_getElem? (i := 2) rfl)))) (hts (.initialized "java/lang/Math") (List.mem_cons_of_mem _ (List.mem_append_left _ (List.mem_of_getElem? (i := 3) rfl)))) (hts (.code Lib.Math.min.name Lib.Math.min.code 2 (some .int)) (List.mem_cons_of_mem _ (List.mem_append_left _ (List.mem_of_getElem? (i := 4) rfl)))) (Nat.le_of_ble_eq_true rfl) (Nat.le_of_ble_eq_true rfl) (Nat.le_refl 0) (Nat.le_refl 0) dX1_remembers_8 ?_
  refine lv_asi (y := (v_X1_remembers_1 S p0)) rfl ?_
  refine va_calli (va_runSN (As := [.int p0, .int 1, .int (v_X1_remembers_1 S p0)]) (rest := []) ⟨hx, hb, hml, hown, hts⟩ (k_X10_isWithin l D a cZ cI S s.heap.size p0 1 (v_X1_remembers_1 S p0)) ⟨va_cnB 3 hts gX1_remembers_X10_isWithin_n24 rfl rfl rfl hN.2.2 (hts (.initialized RX10) (List.mem_cons_of_mem _ (List.mem_append_left _ (List.mem_of_getElem? (i := 6) rfl)))) (by decide +kernel) ⟨Nat.le_of_ble_eq_true rfl, Nat.le_of_ble_eq_true rfl⟩, (hts (.static yX10_isWithin) (List.mem_cons_of_mem _ (List.mem_append_left _ (List.mem_of_getElem? (i := 5) rfl)))), trivial⟩ ⟨blW okN_P, preW hP0 hK hD0 okN_P hN⟩ rfl rfl hl0.1 rfl (lv_room (Nat.le_of_ble_eq_true rfl)) dX1_remembers_11 ⟨Nat.zero_le _, Nat.zero_le _⟩) hS0 (aA_in hAc) (aA_free hAc hA hS0) (fun r1 u1 t1 H1 L1 ht1 hvm1 hw1 hB1 _ _ hS1 => ?_)
  obtain ⟨hP1, hD1⟩ := backW hB1 ht1 (aA_free hAc hA hS0)
  clear hB1 ht1 hvm1 t1
  obtain ⟨hu1, hr1⟩ := hw1
  subst u1; subst r1
  clear hP0 hD0 hS0
  refine lv_asi (y := (v_X1_remembers_2 S p0)) rfl ?_
  subst hQ; exact W.zret (v := (v_X1_remembers_2 S p0)) hx hb hr (z_X10_isWithin S p0 1 (v_X1_remembers_1 S p0)) (fun t ht hW => ⟨⟨(v_X1_remembers_2 S p0), S, rfl, ⟨rfl, (show (v_X1_remembers_2 S p0) = r_X1_remembers S p0 from rfl)⟩, endW hP1 hK hD1 ht hW⟩, hS1.F ht⟩) hS1.2.2 dX1_remembers_14
theorem z_X1_remembers (S : St) (p0 : Int32) : narrow .boolean (.int (r_X1_remembers S p0)) = .int (r_X1_remembers S p0) := by
  exact z_X10_isWithin S p0 1 (v_X1_remembers_1 S p0)

def v_X1_findBit_1 (S : St) (p0 : Int32) : Int32 := p0 - 1
def v_X1_findBit_2 (S : St) (p0 : Int32) : Int32 := ((S.1 25).toUInt32 >>> ((v_X1_findBit_1 S p0).toUInt32 &&& Int32.toUInt32 31)).toInt32
def v_X1_findBit_3 (S : St) (p0 : Int32) : Int32 := (v_X1_findBit_2 S p0) &&& 1
def r_X1_findBit (S : St) (p0 : Int32) : Int32 := (v_X1_findBit_3 S p0)
def rm_X1_findBit : Room := { frames := 0, cells := 0, slots := 0, locals := 0 }
set_option maxRecDepth 100000 in
set_option maxHeartbeats 4000000 in
theorem k_X1_findBit (l : Launch) (D : va_G) (a : Nat → Nat) (cZ cI : ClassId) (S : St) (sz : Nat) (p0 : Int32) : Met l yX1_findBit wsX1_findBit rm_X1_findBit (va_Pc [.ref (a 7), .int p0] (pW D (tyZI cZ cI) (wP a cZ cI S) sz nP)) (va_Qi (fun (r : Int32) (u : St) => u = S ∧ r = r_X1_findBit S p0) (fun u t => oW D (tyZI cZ cI) (wP a cZ cI u) (aA (adP a) sz) t) (aA (adP a) sz)) 0 0 (aA (adP a) sz) := by
  refine Met.ofW (cc := cX1_findBit) (maxL := 2) (ret := (some .int)) (by decide +kernel) rfl ?_
  intro p e s m args below meth c s₁ B hml hv
  obtain ⟨rfl, hsz, hP0, hK, hD9, hN⟩ := hv
  have hx := B.exec
  have hb := B.bytes
  have hr := B.returns
  have hts := atoms_spec (ws := wsX1_findBit) B.pre
  have hown : s.vm.findClass RX1 = some m.cls := findClass_of_methodNamed B.named
  have hlocks := B.notSynchronized
  subst hsz
  have hD0 := aA_self (sz := s.heap.size) (as := adP a) hD9 rfl
  generalize hAe : aA (adP a) s.heap.size = A at hD0 ⊢
  have hA : ∀ q : Nat, s.heap.size ≤ q → A q := fun q h => by rw [← hAe]; exact Or.inr h
  have hAc : ∀ q : Nat, q ∈ adP a → A q := fun q h => by rw [← hAe]; exact Or.inl h
  have hS0 : va_S A s.heap s.heap [] := va_S.rf
  have hl0 := lv_entry ([.ref (a 7), .int p0]) (n := 2) (Nat.le_of_ble_eq_true rfl)
  rw [lg_entry_eq]
  generalize (lg_sl ([.ref (a 7), .int p0]) ++ List.replicate (2 - (lg_sl ([.ref (a 7), .int p0])).length) Slot.unset).toArray = ls0 at hl0 ⊢
  have hl0 : lv_has ls0 2 [(0, .ref (a 7)), (1, .int p0)] := hl0
  generalize hQ : MQ below _ _ s _ _ _ = Q
  clear hD9 B
  refine lv_aload_n hx hb dX1_findBit_0 rfl (lv_at hl0 0 rfl) ?_
  refine va_get (D := D) (ci := 1) (v := .int (S.1 25)) (C := RX1) (T := TX1) (N := 2) hx hb hts (fun _ h => List.mem_cons_of_mem _ (List.mem_append_right _ (h))) hown hK hP0 7 rfl rfl 1 (by decide) (hts (.fieldLink RX1 15 "Phaselock$BitLog" "latest32" "I") (List.mem_cons_of_mem _ (List.mem_append_left _ (List.mem_of_getElem? (i := 0) rfl)))) (fun _ h9 => h9) rfl dX1_findBit_1 ?_
  refine lv_iload_n hx hb dX1_findBit_4 rfl (lv_at hl0 1 rfl) ?_
  refine lv_iconst (v := 1) hx hb dX1_findBit_5 (by decide) ?_
  refine lv_isub hx hb dX1_findBit_6 ?_
  refine lv_asi (y := (v_X1_findBit_1 S p0)) rfl ?_
  refine lv_iushr (v := (v_X1_findBit_2 S p0)) hx hb dX1_findBit_7 rfl ?_
  refine lv_iconst (v := 1) hx hb dX1_findBit_8 (by decide) ?_
  refine lv_iand hx hb dX1_findBit_9 ?_
  refine lv_asi (y := (v_X1_findBit_3 S p0)) rfl ?_
  subst hQ; exact W.iret (v := (v_X1_findBit_3 S p0)) hx hb hr (fun t ht hW => ⟨⟨(v_X1_findBit_3 S p0), S, rfl, ⟨rfl, (show (v_X1_findBit_3 S p0) = r_X1_findBit S p0 from rfl)⟩, endW hP0 hK hD0 ht hW⟩, hS0.F ht⟩) hS0.2.2 dX1_findBit_10

def v_X1_endsWithSyncWord_1 (S : St) : Int32 := (S.1 25) &&& 63
def v_X1_endsWithSyncWord_2 (S : St) : Int32 := if (S.1 24) < 6 then 0 else if (v_X1_endsWithSyncWord_1 S) = 52 then 1 else 0
def r_X1_endsWithSyncWord (S : St) : Int32 := (v_X1_endsWithSyncWord_2 S)
def rm_X1_endsWithSyncWord : Room := { frames := 0, cells := 0, slots := 0, locals := 0 }
set_option maxRecDepth 100000 in
set_option maxHeartbeats 4000000 in
theorem k_X1_endsWithSyncWord (l : Launch) (D : va_G) (a : Nat → Nat) (cZ cI : ClassId) (S : St) (sz : Nat) : Met l yX1_endsWithSyncWord wsX1_endsWithSyncWord rm_X1_endsWithSyncWord (va_Pc [.ref (a 7)] (pW D (tyZI cZ cI) (wP a cZ cI S) sz nP)) (va_Qi (fun (r : Int32) (u : St) => u = S ∧ r = r_X1_endsWithSyncWord S) (fun u t => oW D (tyZI cZ cI) (wP a cZ cI u) (aA (adP a) sz) t) (aA (adP a) sz)) 0 0 (aA (adP a) sz) := by
  refine Met.ofW (cc := cX1_endsWithSyncWord) (maxL := 1) (ret := (some .boolean)) (by decide +kernel) rfl ?_
  intro p e s m args below meth c s₁ B hml hv
  obtain ⟨rfl, hsz, hP0, hK, hD9, hN⟩ := hv
  have hx := B.exec
  have hb := B.bytes
  have hr := B.returns
  have hts := atoms_spec (ws := wsX1_endsWithSyncWord) B.pre
  have hown : s.vm.findClass RX1 = some m.cls := findClass_of_methodNamed B.named
  have hlocks := B.notSynchronized
  subst hsz
  have hD0 := aA_self (sz := s.heap.size) (as := adP a) hD9 rfl
  generalize hAe : aA (adP a) s.heap.size = A at hD0 ⊢
  have hA : ∀ q : Nat, s.heap.size ≤ q → A q := fun q h => by rw [← hAe]; exact Or.inr h
  have hAc : ∀ q : Nat, q ∈ adP a → A q := fun q h => by rw [← hAe]; exact Or.inl h
  have hS0 : va_S A s.heap s.heap [] := va_S.rf
  have hl0 := lv_entry ([.ref (a 7)]) (n := 1) (Nat.le_of_ble_eq_true rfl)
  rw [lg_entry_eq]
  generalize (lg_sl ([.ref (a 7)]) ++ List.replicate (1 - (lg_sl ([.ref (a 7)])).length) Slot.unset).toArray = ls0 at hl0 ⊢
  have hl0 : lv_has ls0 1 [(0, .ref (a 7))] := hl0
  generalize hQ : MQ below _ _ s _ _ _ = Q
  clear hD9 B
  refine lv_aload_n hx hb dX1_endsWithSyncWord_0 rfl (lv_at hl0 0 rfl) ?_
  refine va_get (D := D) (ci := 1) (v := .int (S.1 24)) (C := RX1) (T := TX1) (N := 2) hx hb hts (fun _ h => List.mem_cons_of_mem _ (List.mem_append_right _ (h))) hown hK hP0 7 rfl rfl 0 (by decide) (hts (.fieldLink RX1 9 "Phaselock$BitLog" "count" "I") (List.mem_cons_of_mem _ (List.mem_append_left _ (List.mem_of_getElem? (i := 0) rfl)))) (fun _ h9 => h9) rfl dX1_endsWithSyncWord_1 ?_
  refine lv_bipush (v := 6) hx hb dX1_endsWithSyncWord_4 (by decide) ?_
  have J1_6 : W p l e (headSpec wsX1_endsWithSyncWord rm_X1_endsWithSyncWord).room s m ([.ref (a 7)] : List Value).toArray below meth c s.heap [] 0 0 Q (F0 m 26 ls0 [.int (v_X1_endsWithSyncWord_2 S)]) := by
    subst hQ; exact W.zret (v := (v_X1_endsWithSyncWord_2 S)) hx hb hr (by unfold v_X1_endsWithSyncWord_2; (repeat' split) <;> decide) (fun t ht hW => ⟨⟨(v_X1_endsWithSyncWord_2 S), S, rfl, ⟨rfl, (show (v_X1_endsWithSyncWord_2 S) = r_X1_endsWithSyncWord S from rfl)⟩, endW hP0 hK hD0 ht hW⟩, hS0.F ht⟩) hS0.2.2 dX1_endsWithSyncWord_26
  refine lv_icmp_lt (tgt := 25) hx hb dX1_endsWithSyncWord_6 (by decide) (fun c1_6 => ?_) (fun c1_6 => ?_)
  · refine lv_iconst (v := 0) hx hb dX1_endsWithSyncWord_25 (by decide) ?_
    refine lv_asi (y := (v_X1_endsWithSyncWord_2 S)) (show (v_X1_endsWithSyncWord_2 S) = 0 from (if_pos c1_6)).symm ?_
    exact J1_6
  · refine lv_aload_n hx hb dX1_endsWithSyncWord_9 rfl (lv_at hl0 0 rfl) ?_
    refine va_get (D := D) (ci := 1) (v := .int (S.1 25)) (C := RX1) (T := TX1) (N := 2) hx hb hts (fun _ h => List.mem_cons_of_mem _ (List.mem_append_right _ (h))) hown hK hP0 7 rfl rfl 1 (by decide) (hts (.fieldLink RX1 15 "Phaselock$BitLog" "latest32" "I") (List.mem_cons_of_mem _ (List.mem_append_left _ (List.mem_of_getElem? (i := 1) rfl)))) (fun _ h9 => h9) rfl dX1_endsWithSyncWord_10 ?_
    refine lv_bipush (v := 63) hx hb dX1_endsWithSyncWord_13 (by decide) ?_
    refine lv_iand hx hb dX1_endsWithSyncWord_15 ?_
    refine lv_asi (y := (v_X1_endsWithSyncWord_1 S)) rfl ?_
    refine lv_bipush (v := 52) hx hb dX1_endsWithSyncWord_16 (by decide) ?_
    refine lv_icmp_ne (tgt := 25) hx hb dX1_endsWithSyncWord_18 (by decide) (fun c2_18 => ?_) (fun c2_18 => ?_)
    · refine lv_iconst (v := 0) hx hb dX1_endsWithSyncWord_25 (by decide) ?_
      refine lv_asi (y := (v_X1_endsWithSyncWord_2 S)) (show (v_X1_endsWithSyncWord_2 S) = 0 from ((if_neg c1_6).trans (if_neg c2_18))).symm ?_
      exact J1_6
    · refine lv_iconst (v := 1) hx hb dX1_endsWithSyncWord_21 (by decide) ?_
      refine lv_goto (tgt := 26) hx hb dX1_endsWithSyncWord_22 (by decide) ?_
      refine lv_asi (y := (v_X1_endsWithSyncWord_2 S)) (show (v_X1_endsWithSyncWord_2 S) = 1 from ((if_neg c1_6).trans (if_pos c2_18))).symm ?_
      exact J1_6
theorem z_X1_endsWithSyncWord (S : St) : narrow .boolean (.int (r_X1_endsWithSyncWord S)) = .int (r_X1_endsWithSyncWord S) := by
  unfold r_X1_endsWithSyncWord
  first
    | ((repeat' split) <;> decide)
    | (simp only [v_X1_endsWithSyncWord_2]; (repeat' split) <;> decide)

def v_X2_add_1 (S : St) (p0 : Int32) : Int32 := (S.1 9) + 1
def s_X2_add_2 (S : St) (p0 : Int32) : St := si S 9 (v_X2_add_1 S p0)
def v_X2_add_3 (S : St) (p0 : Int32) : Int32 := ((s_X2_add_2 S p0).1 9) &&& 255
def s_X2_add_4 (S : St) (p0 : Int32) : St := sg (s_X2_add_2 S p0) ((v_X2_add_3 S p0)).toNatClampNeg (vp_nar .boolean p0)
def s_X2_add (S : St) (p0 : Int32) : St := (s_X2_add_4 S p0)
def rm_X2_add : Room := { frames := 0, cells := 0, slots := 0, locals := 0 }
set_option maxRecDepth 100000 in
set_option maxHeartbeats 4000000 in
theorem k_X2_add (l : Launch) (D : va_G) (a : Nat → Nat) (cZ cI : ClassId) (S : St) (sz : Nat) (p0 : Int32) : Met l yX2_add wsX2_add rm_X2_add (va_Pc [.ref (a 3), .int p0] (pW D (tyZI cZ cI) (wP a cZ cI S) sz nP)) (va_Qv (fun u : St => u = s_X2_add S p0) (fun u t => oW D (tyZI cZ cI) (wP a cZ cI u) (aA (adP a) sz) t) (aA (adP a) sz)) 0 0 (aA (adP a) sz) := by
  refine Met.ofW (cc := cX2_add) (maxL := 2) (ret := none) (by decide +kernel) rfl ?_
  intro p e s m args below meth c s₁ B hml hv
  obtain ⟨rfl, hsz, hP0, hK, hD9, hN⟩ := hv
  have hx := B.exec
  have hb := B.bytes
  have hr := B.returns
  have hts := atoms_spec (ws := wsX2_add) B.pre
  have hown : s.vm.findClass RX2 = some m.cls := findClass_of_methodNamed B.named
  have hlocks := B.notSynchronized
  subst hsz
  have hD0 := aA_self (sz := s.heap.size) (as := adP a) hD9 rfl
  generalize hAe : aA (adP a) s.heap.size = A at hD0 ⊢
  have hA : ∀ q : Nat, s.heap.size ≤ q → A q := fun q h => by rw [← hAe]; exact Or.inr h
  have hAc : ∀ q : Nat, q ∈ adP a → A q := fun q h => by rw [← hAe]; exact Or.inl h
  have hS0 : va_S A s.heap s.heap [] := va_S.rf
  have hl0 := lv_entry ([.ref (a 3), .int p0]) (n := 2) (Nat.le_of_ble_eq_true rfl)
  rw [lg_entry_eq]
  generalize (lg_sl ([.ref (a 3), .int p0]) ++ List.replicate (2 - (lg_sl ([.ref (a 3), .int p0])).length) Slot.unset).toArray = ls0 at hl0 ⊢
  have hl0 : lv_has ls0 2 [(0, .ref (a 3)), (1, .int p0)] := hl0
  generalize hQ : MQ below _ _ s _ _ _ = Q
  clear hD9 B
  refine lv_aload_n hx hb dX2_add_0 rfl (lv_at hl0 0 rfl) ?_
  refine lv_dup hx hb dX2_add_1 rfl ?_
  refine va_get (D := D) (ci := 2) (v := .int (S.1 9)) (C := RX2) (T := TX2) (N := 2) hx hb hts (fun _ h => List.mem_cons_of_mem _ (List.mem_append_right _ (h))) hown hK hP0 3 rfl rfl 0 (by decide) (hts (.fieldLink RX2 7 "Phaselock$EdgeLog" "ticks" "I") (List.mem_cons_of_mem _ (List.mem_append_left _ (List.mem_of_getElem? (i := 0) rfl)))) (fun _ h9 => h9) rfl dX2_add_2 ?_
  refine lv_iconst (v := 1) hx hb dX2_add_5 (by decide) ?_
  refine lv_iadd hx hb dX2_add_6 ?_
  refine lv_asi (y := (v_X2_add_1 S p0)) rfl ?_
  refine va_put (D := D) (ci := 2) (v := .int (v_X2_add_1 S p0)) (ty := .int) (C := RX2) (T := TX2) (N := 2) hx hb hts (fun _ h => List.mem_cons_of_mem _ (List.mem_append_right _ (h))) tyX2 tyX2_ok nmX2 hown hK hP0 hD0 hS0 3 rfl rfl 0 (by decide) (hts (.fieldLink RX2 7 "Phaselock$EdgeLog" "ticks" "I") (List.mem_cons_of_mem _ (List.mem_append_left _ (List.mem_of_getElem? (i := 0) rfl)))) (fun _ h9 => h9) rfl (by decide +kernel) rfl rfl (Nat.le_of_ble_eq_true rfl) dX2_add_7 (fun H1 L1 hP1 hD1 hS1 => ?_)
  replace hP1 : va_P D vwCl (wP a cZ cI (s_X2_add_2 S p0)) H1 := cvP (wP_s9 a cZ cI S (v_X2_add_1 S p0)) hP1
  replace hD1 : va_D A (wP a cZ cI (s_X2_add_2 S p0)) := cvD (wP_s9 a cZ cI S (v_X2_add_1 S p0)) hD1
  clear hP0 hD0 hS0
  refine lv_aload_n hx hb dX2_add_10 rfl (lv_at hl0 0 rfl) ?_
  refine va_get (D := D) (ci := 2) (v := .ref (a 11)) (C := RX2) (T := TX2) (N := 2) hx hb hts (fun _ h => List.mem_cons_of_mem _ (List.mem_append_right _ (h))) hown hK hP1 3 rfl rfl 1 (by decide) (hts (.fieldLink RX2 13 "Phaselock$EdgeLog" "changed" "[Z") (List.mem_cons_of_mem _ (List.mem_append_left _ (List.mem_of_getElem? (i := 1) rfl)))) (fun _ h9 => h9) rfl dX2_add_11 ?_
  refine lv_aload_n hx hb dX2_add_14 rfl (lv_at hl0 0 rfl) ?_
  refine va_get (D := D) (ci := 2) (v := .int ((s_X2_add_2 S p0).1 9)) (C := RX2) (T := TX2) (N := 2) hx hb hts (fun _ h => List.mem_cons_of_mem _ (List.mem_append_right _ (h))) hown hK hP1 3 rfl rfl 0 (by decide) (hts (.fieldLink RX2 7 "Phaselock$EdgeLog" "ticks" "I") (List.mem_cons_of_mem _ (List.mem_append_left _ (List.mem_of_getElem? (i := 0) rfl)))) (fun _ h9 => h9) rfl dX2_add_15 ?_
  refine lv_sipush (v := 255) hx hb dX2_add_18 (by decide) ?_
  refine lv_iand hx hb dX2_add_21 ?_
  refine lv_asi (y := (v_X2_add_3 S p0)) rfl ?_
  refine lv_iload_n hx hb dX2_add_22 rfl (lv_at hl0 1 rfl) ?_
  refine va_zast (D := D) hx hb hK hP1 hD1 hS1 11 0 rfl rfl (by exact pk_andIn _ 8 rfl (by decide)) dX2_add_23 (fun H2 L2 hP2 hD2 hS2 => ?_)
  replace hP2 : va_P D vwCl (wP a cZ cI (s_X2_add_4 S p0)) H2 := cvP (wP_g a cZ cI (s_X2_add_2 S p0) ((v_X2_add_3 S p0)).toNatClampNeg (vp_nar .boolean p0)) hP2
  replace hD2 : va_D A (wP a cZ cI (s_X2_add_4 S p0)) := cvD (wP_g a cZ cI (s_X2_add_2 S p0) ((v_X2_add_3 S p0)).toNatClampNeg (vp_nar .boolean p0)) hD2
  clear hP1 hD1 hS1
  subst hQ; exact W.vret hx hb hr (fun t ht hW => ⟨⟨(s_X2_add_4 S p0), rfl, (show (s_X2_add_4 S p0) = s_X2_add S p0 from rfl), endW hP2 hK hD2 ht hW⟩, hS2.F ht⟩) hS2.2.2 dX2_add_24

def v_X2_findDistance_1 (S : St) (p0 : Int32) (p1 : Int32) : Int32 := p0 - p1
def v_X2_findDistance_2 (S : St) (p0 : Int32) (p1 : Int32) : Int32 := (v_X2_findDistance_1 S p0 p1) &&& 15
def v_X2_findDistance_3 (S : St) (p0 : Int32) (p1 : Int32) : Int32 := p1 - p0
def v_X2_findDistance_4 (S : St) (p0 : Int32) (p1 : Int32) : Int32 := (v_X2_findDistance_3 S p0 p1) &&& 15
def v_X2_findDistance_5 (S : St) (p0 : Int32) (p1 : Int32) : Int32 := if (v_X2_findDistance_4 S p0 p1) < (v_X2_findDistance_2 S p0 p1) then (v_X2_findDistance_4 S p0 p1) else (v_X2_findDistance_2 S p0 p1)
def r_X2_findDistance (S : St) (p0 : Int32) (p1 : Int32) : Int32 := (v_X2_findDistance_5 S p0 p1)
def rm_X2_findDistance : Room := { frames := 1, cells := 0, slots := 0, locals := 21 }
set_option maxRecDepth 100000 in
set_option maxHeartbeats 4000000 in
theorem k_X2_findDistance (l : Launch) (D : va_G) (a : Nat → Nat) (cZ cI : ClassId) (S : St) (sz : Nat) (p0 : Int32) (p1 : Int32) : Met l yX2_findDistance wsX2_findDistance rm_X2_findDistance (va_Pc [.int p0, .int p1] (pW D (tyZI cZ cI) (wP a cZ cI S) sz nP)) (va_Qi (fun (r : Int32) (u : St) => u = S ∧ r = r_X2_findDistance S p0 p1) (fun u t => oW D (tyZI cZ cI) (wP a cZ cI u) (aA (adP a) sz) t) (aA (adP a) sz)) 0 0 (aA (adP a) sz) := by
  refine Met.ofW (cc := cX2_findDistance) (maxL := 4) (ret := (some .int)) (by decide +kernel) rfl ?_
  intro p e s m args below meth c s₁ B hml hv
  obtain ⟨rfl, hsz, hP0, hK, hD9, hN⟩ := hv
  have hx := B.exec
  have hb := B.bytes
  have hr := B.returns
  have hts := atoms_spec (ws := wsX2_findDistance) B.pre
  have hown : s.vm.findClass RX2 = some m.cls := findClass_of_methodNamed B.named
  have hlocks := B.notSynchronized
  subst hsz
  have hD0 := aA_self (sz := s.heap.size) (as := adP a) hD9 rfl
  generalize hAe : aA (adP a) s.heap.size = A at hD0 ⊢
  have hA : ∀ q : Nat, s.heap.size ≤ q → A q := fun q h => by rw [← hAe]; exact Or.inr h
  have hAc : ∀ q : Nat, q ∈ adP a → A q := fun q h => by rw [← hAe]; exact Or.inl h
  have hS0 : va_S A s.heap s.heap [] := va_S.rf
  have hl0 := lv_entry ([.int p0, .int p1]) (n := 4) (Nat.le_of_ble_eq_true rfl)
  rw [lg_entry_eq]
  generalize (lg_sl ([.int p0, .int p1]) ++ List.replicate (4 - (lg_sl ([.int p0, .int p1])).length) Slot.unset).toArray = ls0 at hl0 ⊢
  have hl0 : lv_has ls0 4 [(0, .int p0), (1, .int p1)] := hl0
  generalize hQ : MQ below _ _ s _ _ _ = Q
  clear hD9 B
  refine lv_iload_n hx hb dX2_findDistance_0 rfl (lv_at hl0 0 rfl) ?_
  refine lv_iload_n hx hb dX2_findDistance_1 rfl (lv_at hl0 1 rfl) ?_
  refine lv_isub hx hb dX2_findDistance_2 ?_
  refine lv_asi (y := (v_X2_findDistance_1 S p0 p1)) rfl ?_
  refine lv_bipush (v := 15) hx hb dX2_findDistance_3 (by decide) ?_
  refine lv_iand hx hb dX2_findDistance_5 ?_
  refine lv_asi (y := (v_X2_findDistance_2 S p0 p1)) rfl ?_
  refine lv_istore_n (lv' := [(2, .int (v_X2_findDistance_2 S p0 p1)), (0, .int p0), (1, .int p1)]) hx hb dX2_findDistance_6 rfl hl0 (by decide) rfl (fun ls1 hl1 => ?_)
  clear hl0
  refine lv_iload_n hx hb dX2_findDistance_7 rfl (lv_at hl1 2 rfl) ?_
  refine lv_iload_n hx hb dX2_findDistance_8 rfl (lv_at hl1 1 rfl) ?_
  refine lv_isub hx hb dX2_findDistance_9 ?_
  refine lv_asi (y := (v_X2_findDistance_3 S p0 p1)) rfl ?_
  refine lv_bipush (v := 15) hx hb dX2_findDistance_10 (by decide) ?_
  refine lv_iand hx hb dX2_findDistance_12 ?_
  refine lv_asi (y := (v_X2_findDistance_4 S p0 p1)) rfl ?_
  refine lv_istore_n (lv' := [(3, .int (v_X2_findDistance_4 S p0 p1)), (2, .int (v_X2_findDistance_2 S p0 p1)), (0, .int p0), (1, .int p1)]) hx hb dX2_findDistance_13 rfl hl1 (by decide) rfl (fun ls2 hl2 => ?_)
  clear hl1
  refine lv_iload_n hx hb dX2_findDistance_14 rfl (lv_at hl2 1 rfl) ?_
  refine lv_iload_n hx hb dX2_findDistance_15 rfl (lv_at hl2 0 rfl) ?_
  refine va_mmin hx hb (hml.trans hl2.1.symm) hown (hts (.methodLink RX2 21 Lib.Math.min.name) (List.mem_cons_of_mem _ (List.mem_of_getElem? (i := 0) rfl))) (hts (.static Lib.Math.min.name) (List.mem_cons_of_mem _ (List.mem_of_getElem? (i := 1) rfl))) (hts (.initialized "java/lang/Math") (List.mem_cons_of_mem _ (List.mem_of_getElem? (i := 2) rfl))) (hts (.code Lib.Math.min.name Lib.Math.min.code 2 (some .int)) (List.mem_cons_of_mem _ (List.mem_of_getElem? (i := 3) rfl))) (Nat.le_of_ble_eq_true rfl) (Nat.le_of_ble_eq_true rfl) (Nat.le_refl 0) (Nat.le_refl 0) dX2_findDistance_16 ?_
  refine lv_asi (y := (v_X2_findDistance_5 S p0 p1)) rfl ?_
  subst hQ; exact W.iret (v := (v_X2_findDistance_5 S p0 p1)) hx hb hr (fun t ht hW => ⟨⟨(v_X2_findDistance_5 S p0 p1), S, rfl, ⟨rfl, (show (v_X2_findDistance_5 S p0 p1) = r_X2_findDistance S p0 p1 from rfl)⟩, endW hP0 hK hD0 ht hW⟩, hS0.F ht⟩) hS0.2.2 dX2_findDistance_19

def scost (S : St) (p0 : Int32) : Nat → Int32
  | 0 => 0
  | i + 1 => if S.2.2.1 (nI i).toNatClampNeg = 0 then scost S p0 i else scost S p0 i + (8 - r_X2_findDistance S p0 (nI i))
def v_X2_sumCosts_2 (S : St) (p0 : Int32) (i : Nat) : Int32 := S.2.2.1 ((nI i)).toNatClampNeg
def v_X2_sumCosts_3 (S : St) (p0 : Int32) (i : Nat) : Int32 := r_X2_findDistance S p0 (nI i)
def v_X2_sumCosts_4 (S : St) (p0 : Int32) (i : Nat) : Int32 := 8 - (v_X2_sumCosts_3 S p0 i)
def v_X2_sumCosts_5 (S : St) (p0 : Int32) (i : Nat) : Int32 := (scost S p0 i) + (v_X2_sumCosts_4 S p0 i)
def v_X2_sumCosts_6 (S : St) (p0 : Int32) (i : Nat) : Int32 := if (v_X2_sumCosts_2 S p0 i) = 0 then (scost S p0 i) else (v_X2_sumCosts_5 S p0 i)
def v_X2_sumCosts_7 (S : St) (p0 : Int32) (i : Nat) : Int32 := (nI i) + 1
def r_X2_sumCosts (S : St) (p0 : Int32) : Int32 := (scost S p0 256)
def rm_X2_sumCosts : Room := { frames := 2, cells := 0, slots := 0, locals := 44 }
set_option maxRecDepth 100000 in
set_option maxHeartbeats 4000000 in
theorem k_X2_sumCosts (l : Launch) (D : va_G) (a : Nat → Nat) (cZ cI : ClassId) (S : St) (sz : Nat) (p0 : Int32) : Met l yX2_sumCosts wsX2_sumCosts rm_X2_sumCosts (va_Pc [.ref (a 3), .int p0] (pW D (tyZI cZ cI) (wP a cZ cI S) sz nP)) (va_Qi (fun (r : Int32) (u : St) => u = S ∧ r = r_X2_sumCosts S p0) (fun u t => oW D (tyZI cZ cI) (wP a cZ cI u) (aA (adP a) sz) t) (aA (adP a) sz)) 0 0 (aA (adP a) sz) := by
  refine Met.ofW (cc := cX2_sumCosts) (maxL := 4) (ret := (some .int)) (by decide +kernel) rfl ?_
  intro p e s m args below meth c s₁ B hml hv
  obtain ⟨rfl, hsz, hP0, hK, hD9, hN⟩ := hv
  have hx := B.exec
  have hb := B.bytes
  have hr := B.returns
  have hts := atoms_spec (ws := wsX2_sumCosts) B.pre
  have hown : s.vm.findClass RX2 = some m.cls := findClass_of_methodNamed B.named
  have hlocks := B.notSynchronized
  subst hsz
  have hD0 := aA_self (sz := s.heap.size) (as := adP a) hD9 rfl
  generalize hAe : aA (adP a) s.heap.size = A at hD0 ⊢
  have hA : ∀ q : Nat, s.heap.size ≤ q → A q := fun q h => by rw [← hAe]; exact Or.inr h
  have hAc : ∀ q : Nat, q ∈ adP a → A q := fun q h => by rw [← hAe]; exact Or.inl h
  have hS0 : va_S A s.heap s.heap [] := va_S.rf
  have hl0 := lv_entry ([.ref (a 3), .int p0]) (n := 4) (Nat.le_of_ble_eq_true rfl)
  rw [lg_entry_eq]
  generalize (lg_sl ([.ref (a 3), .int p0]) ++ List.replicate (4 - (lg_sl ([.ref (a 3), .int p0])).length) Slot.unset).toArray = ls0 at hl0 ⊢
  have hl0 : lv_has ls0 4 [(0, .ref (a 3)), (1, .int p0)] := hl0
  generalize hQ : MQ below _ _ s _ _ _ = Q
  clear hD9 B
  refine lv_iconst (v := 0) hx hb dX2_sumCosts_0 (by decide) ?_
  refine lv_istore_n (lv' := [(2, .int 0), (0, .ref (a 3)), (1, .int p0)]) hx hb dX2_sumCosts_1 rfl hl0 (by decide) rfl (fun ls1 hl1 => ?_)
  clear hl0
  refine lv_iconst (v := 0) hx hb dX2_sumCosts_2 (by decide) ?_
  refine lv_istore_n (lv' := [(3, .int 0), (2, .int 0), (0, .ref (a 3)), (1, .int p0)]) hx hb dX2_sumCosts_3 rfl hl1 (by decide) rfl (fun ls2 hl2 => ?_)
  clear hl1
  have LOOP : ∀ (n i : Nat), i ≤ 256 → 256 < i + n → ∀ (H1 : Heap) (L1 : List Loc), va_P D vwCl (wP a cZ cI S) H1 → va_D A (wP a cZ cI S) → va_S A s.heap H1 L1 → ∀ ls3 : Array Slot, lv_has ls3 4 [(3, .int (nI i)), (2, .int (scost S p0 i)), (0, .ref (a 3)), (1, .int p0)] → W p l e (headSpec wsX2_sumCosts rm_X2_sumCosts).room s m ([.ref (a 3), .int p0] : List Value).toArray below meth c H1 L1 0 0 Q (F0 m 4 ls3 []) := by
    clear hP0 hD0 hS0 hl2
    intro n
    induction n with
    | zero => exact fun i h1 h2 => absurd h2 (by omega)
    | succ n ih =>
      intro i hi hin H1 L1 hP1 hD1 hS1 ls3 hl3
      refine lv_iload_n hx hb dX2_sumCosts_4 rfl (lv_at hl3 0 rfl) ?_
      refine lv_sipush (v := 256) hx hb dX2_sumCosts_5 (by decide) ?_
      refine lv_icmp_ge (tgt := 37) hx hb dX2_sumCosts_8 (by decide) (fun c1_8 => ?_) (fun c1_8 => ?_)
      · have hie : i = 256 := lp_ge (N := 256) (by decide) hi c1_8
        subst hie
        refine lv_iload_n hx hb dX2_sumCosts_37 rfl (lv_at hl3 1 rfl) ?_
        subst hQ; exact W.iret (v := (scost S p0 256)) hx hb hr (fun t ht hW => ⟨⟨(scost S p0 256), S, rfl, ⟨rfl, (show (scost S p0 256) = r_X2_sumCosts S p0 from rfl)⟩, endW hP1 hK hD1 ht hW⟩, hS1.F ht⟩) hS1.2.2 dX2_sumCosts_38
      · have hlt : i < 256 := lp_lt (N := 256) (by decide) hi c1_8
        refine lv_aload_n hx hb dX2_sumCosts_11 rfl (lv_at hl3 2 rfl) ?_
        refine va_get (D := D) (ci := 2) (v := .ref (a 11)) (C := RX2) (T := TX2) (N := 2) hx hb hts (fun _ h => List.mem_cons_of_mem _ (List.mem_append_right _ (h))) hown hK hP1 3 rfl rfl 1 (by decide) (hts (.fieldLink RX2 13 "Phaselock$EdgeLog" "changed" "[Z") (List.mem_cons_of_mem _ (List.mem_append_left _ (List.mem_of_getElem? (i := 0) rfl)))) (fun _ h9 => h9) rfl dX2_sumCosts_12 ?_
        refine lv_iload_n hx hb dX2_sumCosts_15 rfl (lv_at hl3 0 rfl) ?_
        refine va_zald (D := D) hx hb hK hP1 11 0 rfl rfl (vp_in_nI hlt (by decide)) dX2_sumCosts_16 ?_
        refine lv_asi (y := (v_X2_sumCosts_2 S p0 i)) rfl ?_
        have J1_17 : ∀ (H3 : Heap) (L3 : List Loc), va_P D vwCl (wP a cZ cI S) H3 → va_D A (wP a cZ cI S) → va_S A s.heap H3 L3 → ∀ ls5 : Array Slot, lv_has ls5 4 [(3, .int (nI i)), (2, .int (v_X2_sumCosts_6 S p0 i)), (0, .ref (a 3)), (1, .int p0)] → W p l e (headSpec wsX2_sumCosts rm_X2_sumCosts).room s m ([.ref (a 3), .int p0] : List Value).toArray below meth c H3 L3 0 0 Q (F0 m 31 ls5 []) := by
          intro H3 L3 hP3 hD3 hS3 ls5 hl5
          clear hP1 hD1 hS1
          clear hl3
          refine lv_iinc (v := (v_X2_sumCosts_7 S p0 i)) (lv' := [(3, .int (v_X2_sumCosts_7 S p0 i)), (2, .int (v_X2_sumCosts_6 S p0 i)), (0, .ref (a 3)), (1, .int p0)]) hx hb dX2_sumCosts_31 hl5 (k := 0) rfl rfl (by decide) rfl (fun ls6 hl6 => ?_)
          clear hl5
          refine lv_goto (tgt := 4) hx hb dX2_sumCosts_34 (by decide) ?_
          exact ih (i + 1) (by omega) (by omega) _ _ hP3 hD3 hS3 _ (by rw [show (nI (i + 1)) = (v_X2_sumCosts_7 S p0 i) from (nI_1 i).symm, show (scost S p0 (i + 1)) = (v_X2_sumCosts_6 S p0 i) from rfl]; exact lv_sub (l' := [(3, .int (v_X2_sumCosts_7 S p0 i)), (2, .int (v_X2_sumCosts_6 S p0 i)), (0, .ref (a 3)), (1, .int p0)]) hl6 [0, 1, 2, 3] rfl)
        refine lv_if_eq (tgt := 31) hx hb dX2_sumCosts_17 (by decide) (fun c2_17 => ?_) (fun c2_17 => ?_)
        · exact J1_17 _ _ hP1 hD1 hS1 _ (by rw [show (v_X2_sumCosts_6 S p0 i) = (scost S p0 i) from (if_pos c2_17)]; exact lv_sub (l' := [(3, .int (nI i)), (2, .int (scost S p0 i)), (0, .ref (a 3)), (1, .int p0)]) hl3 [0, 1, 2, 3] rfl)
        · refine lv_iload_n hx hb dX2_sumCosts_20 rfl (lv_at hl3 1 rfl) ?_
          refine lv_bipush (v := 8) hx hb dX2_sumCosts_21 (by decide) ?_
          refine lv_iload_n hx hb dX2_sumCosts_23 rfl (lv_at hl3 3 rfl) ?_
          refine lv_iload_n hx hb dX2_sumCosts_24 rfl (lv_at hl3 0 rfl) ?_
          refine va_calli (va_runS (As := [.int p0, .int (nI i)]) (rest := [.int 8, .int (scost S p0 i)]) ⟨hx, hb, hml, hown, hts⟩ (k_X2_findDistance l D a cZ cI S H1.size p0 (nI i)) (va_cwS 2 hts gX2_sumCosts_X2_findDistance rfl rfl rfl (by decide +kernel) ⟨Nat.le_of_ble_eq_true rfl, Nat.le_of_ble_eq_true rfl⟩) ⟨blW okN_P, preW hP1 hK hD1 okN_P hN⟩ rfl rfl hl3.1 rfl (lv_room (Nat.le_of_ble_eq_true rfl)) dX2_sumCosts_25 ⟨Nat.zero_le _, Nat.zero_le _⟩) hS1 (aA_in hAc) (aA_free hAc hA hS1) (fun r2 u2 t2 H2 L2 ht2 hvm2 hw2 hB2 _ _ hS2 => ?_)
          obtain ⟨hP2, hD2⟩ := backW hB2 ht2 (aA_free hAc hA hS1)
          clear hB2 ht2 hvm2 t2
          obtain ⟨hu2, hr2⟩ := hw2
          subst u2; subst r2
          clear hP1 hD1 hS1
          refine lv_asi (y := (v_X2_sumCosts_3 S p0 i)) rfl ?_
          refine lv_isub hx hb dX2_sumCosts_28 ?_
          refine lv_asi (y := (v_X2_sumCosts_4 S p0 i)) rfl ?_
          refine lv_iadd hx hb dX2_sumCosts_29 ?_
          refine lv_asi (y := (v_X2_sumCosts_5 S p0 i)) rfl ?_
          refine lv_istore_n (lv' := [(2, .int (v_X2_sumCosts_5 S p0 i)), (3, .int (nI i)), (0, .ref (a 3)), (1, .int p0)]) hx hb dX2_sumCosts_30 rfl hl3 (by decide) rfl (fun ls4 hl4 => ?_)
          clear hl3
          exact J1_17 _ _ hP2 hD2 hS2 _ (by rw [show (v_X2_sumCosts_6 S p0 i) = (v_X2_sumCosts_5 S p0 i) from (if_neg c2_17)]; exact lv_sub (l' := [(3, .int (nI i)), (2, .int (v_X2_sumCosts_5 S p0 i)), (0, .ref (a 3)), (1, .int p0)]) hl4 [1, 0, 2, 3] rfl)
  exact LOOP (256 + 1) 0 (Nat.zero_le _) (by omega) _ _ hP0 hD0 hS0 _ (lv_sub (l' := [(3, .int (nI 0)), (2, .int (scost S p0 0)), (0, .ref (a 3)), (1, .int p0)]) hl2 [0, 1, 2, 3] rfl)

def v_X3_remember_1 (S : St) (p0 : Int32) : Int32 := (S.1 8) <<< (1 &&& 31)
def v_X3_remember_2 (S : St) (p0 : Int32) : Int32 := (v_X3_remember_1 S p0) ||| p0
def v_X3_remember_3 (S : St) (p0 : Int32) : Int32 := (v_X3_remember_2 S p0) &&& 65535
def s_X3_remember_4 (S : St) (p0 : Int32) : St := si S 8 (v_X3_remember_3 S p0)
def s_X3_remember (S : St) (p0 : Int32) : St := (s_X3_remember_4 S p0)
def rm_X3_remember : Room := { frames := 0, cells := 0, slots := 0, locals := 0 }
set_option maxRecDepth 100000 in
set_option maxHeartbeats 4000000 in
theorem k_X3_remember (l : Launch) (D : va_G) (a : Nat → Nat) (cZ cI : ClassId) (S : St) (sz : Nat) (p0 : Int32) : Met l yX3_remember wsX3_remember rm_X3_remember (va_Pc [.ref (a 2), .int p0] (pW D (tyZI cZ cI) (wP a cZ cI S) sz nP)) (va_Qv (fun u : St => u = s_X3_remember S p0) (fun u t => oW D (tyZI cZ cI) (wP a cZ cI u) (aA (adP a) sz) t) (aA (adP a) sz)) 0 0 (aA (adP a) sz) := by
  refine Met.ofW (cc := cX3_remember) (maxL := 2) (ret := none) (by decide +kernel) rfl ?_
  intro p e s m args below meth c s₁ B hml hv
  obtain ⟨rfl, hsz, hP0, hK, hD9, hN⟩ := hv
  have hx := B.exec
  have hb := B.bytes
  have hr := B.returns
  have hts := atoms_spec (ws := wsX3_remember) B.pre
  have hown : s.vm.findClass RX3 = some m.cls := findClass_of_methodNamed B.named
  have hlocks := B.notSynchronized
  subst hsz
  have hD0 := aA_self (sz := s.heap.size) (as := adP a) hD9 rfl
  generalize hAe : aA (adP a) s.heap.size = A at hD0 ⊢
  have hA : ∀ q : Nat, s.heap.size ≤ q → A q := fun q h => by rw [← hAe]; exact Or.inr h
  have hAc : ∀ q : Nat, q ∈ adP a → A q := fun q h => by rw [← hAe]; exact Or.inl h
  have hS0 : va_S A s.heap s.heap [] := va_S.rf
  have hl0 := lv_entry ([.ref (a 2), .int p0]) (n := 2) (Nat.le_of_ble_eq_true rfl)
  rw [lg_entry_eq]
  generalize (lg_sl ([.ref (a 2), .int p0]) ++ List.replicate (2 - (lg_sl ([.ref (a 2), .int p0])).length) Slot.unset).toArray = ls0 at hl0 ⊢
  have hl0 : lv_has ls0 2 [(0, .ref (a 2)), (1, .int p0)] := hl0
  generalize hQ : MQ below _ _ s _ _ _ = Q
  clear hD9 B
  refine lv_aload_n hx hb dX3_remember_0 rfl (lv_at hl0 0 rfl) ?_
  refine lv_aload_n hx hb dX3_remember_1 rfl (lv_at hl0 0 rfl) ?_
  refine va_get (D := D) (ci := 3) (v := .int (S.1 8)) (C := RX3) (T := TX3) (N := 1) hx hb hts (fun _ h => List.mem_cons_of_mem _ (List.mem_append_right _ (h))) hown hK hP0 2 rfl rfl 0 (by decide) (hts (.fieldLink RX3 8 "Phaselock$LineMemory" "values" "I") (List.mem_cons_of_mem _ (List.mem_append_left _ (List.mem_of_getElem? (i := 0) rfl)))) (fun _ h9 => h9) rfl dX3_remember_2 ?_
  refine lv_iconst (v := 1) hx hb dX3_remember_5 (by decide) ?_
  refine lv_ishl hx hb dX3_remember_6 ?_
  refine lv_asi (y := (v_X3_remember_1 S p0)) rfl ?_
  refine lv_iload_n hx hb dX3_remember_7 rfl (lv_at hl0 1 rfl) ?_
  refine lv_ior hx hb dX3_remember_8 ?_
  refine lv_asi (y := (v_X3_remember_2 S p0)) rfl ?_
  refine lv_ldc (v := 65535) hx hb hown (hts (.constant RX3 7 (65535)) (List.mem_cons_of_mem _ (List.mem_append_left _ (List.mem_of_getElem? (i := 1) rfl)))) dX3_remember_9 ?_
  refine lv_iand hx hb dX3_remember_11 ?_
  refine lv_asi (y := (v_X3_remember_3 S p0)) rfl ?_
  refine va_put (D := D) (ci := 3) (v := .int (v_X3_remember_3 S p0)) (ty := .int) (C := RX3) (T := TX3) (N := 1) hx hb hts (fun _ h => List.mem_cons_of_mem _ (List.mem_append_right _ (h))) tyX3 tyX3_ok nmX3 hown hK hP0 hD0 hS0 2 rfl rfl 0 (by decide) (hts (.fieldLink RX3 8 "Phaselock$LineMemory" "values" "I") (List.mem_cons_of_mem _ (List.mem_append_left _ (List.mem_of_getElem? (i := 0) rfl)))) (fun _ h9 => h9) rfl (by decide +kernel) rfl rfl (Nat.le_of_ble_eq_true rfl) dX3_remember_12 (fun H1 L1 hP1 hD1 hS1 => ?_)
  replace hP1 : va_P D vwCl (wP a cZ cI (s_X3_remember_4 S p0)) H1 := cvP (wP_s8 a cZ cI S (v_X3_remember_3 S p0)) hP1
  replace hD1 : va_D A (wP a cZ cI (s_X3_remember_4 S p0)) := cvD (wP_s8 a cZ cI S (v_X3_remember_3 S p0)) hD1
  clear hP0 hD0 hS0
  subst hQ; exact W.vret hx hb hr (fun t ht hW => ⟨⟨(s_X3_remember_4 S p0), rfl, (show (s_X3_remember_4 S p0) = s_X3_remember S p0 from rfl), endW hP1 hK hD1 ht hW⟩, hS1.F ht⟩) hS1.2.2 dX3_remember_15

def v_X3_hasChangedSince_1 (S : St) (p0 : Int32) : Int32 := (S.1 8) >>> (p0 &&& 31)
def v_X3_hasChangedSince_2 (S : St) (p0 : Int32) : Int32 := (S.1 8) ^^^ (v_X3_hasChangedSince_1 S p0)
def v_X3_hasChangedSince_3 (S : St) (p0 : Int32) : Int32 := (v_X3_hasChangedSince_2 S p0) &&& 1
def v_X3_hasChangedSince_4 (S : St) (p0 : Int32) : Int32 := if (v_X3_hasChangedSince_3 S p0) = 1 then 1 else 0
def r_X3_hasChangedSince (S : St) (p0 : Int32) : Int32 := (v_X3_hasChangedSince_4 S p0)
def rm_X3_hasChangedSince : Room := { frames := 0, cells := 0, slots := 0, locals := 0 }
set_option maxRecDepth 100000 in
set_option maxHeartbeats 4000000 in
theorem k_X3_hasChangedSince (l : Launch) (D : va_G) (a : Nat → Nat) (cZ cI : ClassId) (S : St) (sz : Nat) (p0 : Int32) : Met l yX3_hasChangedSince wsX3_hasChangedSince rm_X3_hasChangedSince (va_Pc [.ref (a 2), .int p0] (pW D (tyZI cZ cI) (wP a cZ cI S) sz nP)) (va_Qi (fun (r : Int32) (u : St) => u = S ∧ r = r_X3_hasChangedSince S p0) (fun u t => oW D (tyZI cZ cI) (wP a cZ cI u) (aA (adP a) sz) t) (aA (adP a) sz)) 0 0 (aA (adP a) sz) := by
  refine Met.ofW (cc := cX3_hasChangedSince) (maxL := 2) (ret := (some .boolean)) (by decide +kernel) rfl ?_
  intro p e s m args below meth c s₁ B hml hv
  obtain ⟨rfl, hsz, hP0, hK, hD9, hN⟩ := hv
  have hx := B.exec
  have hb := B.bytes
  have hr := B.returns
  have hts := atoms_spec (ws := wsX3_hasChangedSince) B.pre
  have hown : s.vm.findClass RX3 = some m.cls := findClass_of_methodNamed B.named
  have hlocks := B.notSynchronized
  subst hsz
  have hD0 := aA_self (sz := s.heap.size) (as := adP a) hD9 rfl
  generalize hAe : aA (adP a) s.heap.size = A at hD0 ⊢
  have hA : ∀ q : Nat, s.heap.size ≤ q → A q := fun q h => by rw [← hAe]; exact Or.inr h
  have hAc : ∀ q : Nat, q ∈ adP a → A q := fun q h => by rw [← hAe]; exact Or.inl h
  have hS0 : va_S A s.heap s.heap [] := va_S.rf
  have hl0 := lv_entry ([.ref (a 2), .int p0]) (n := 2) (Nat.le_of_ble_eq_true rfl)
  rw [lg_entry_eq]
  generalize (lg_sl ([.ref (a 2), .int p0]) ++ List.replicate (2 - (lg_sl ([.ref (a 2), .int p0])).length) Slot.unset).toArray = ls0 at hl0 ⊢
  have hl0 : lv_has ls0 2 [(0, .ref (a 2)), (1, .int p0)] := hl0
  generalize hQ : MQ below _ _ s _ _ _ = Q
  clear hD9 B
  refine lv_aload_n hx hb dX3_hasChangedSince_0 rfl (lv_at hl0 0 rfl) ?_
  refine va_get (D := D) (ci := 3) (v := .int (S.1 8)) (C := RX3) (T := TX3) (N := 1) hx hb hts (fun _ h => List.mem_cons_of_mem _ (List.mem_append_right _ (h))) hown hK hP0 2 rfl rfl 0 (by decide) (hts (.fieldLink RX3 8 "Phaselock$LineMemory" "values" "I") (List.mem_cons_of_mem _ (List.mem_append_left _ (List.mem_of_getElem? (i := 0) rfl)))) (fun _ h9 => h9) rfl dX3_hasChangedSince_1 ?_
  refine lv_aload_n hx hb dX3_hasChangedSince_4 rfl (lv_at hl0 0 rfl) ?_
  refine va_get (D := D) (ci := 3) (v := .int (S.1 8)) (C := RX3) (T := TX3) (N := 1) hx hb hts (fun _ h => List.mem_cons_of_mem _ (List.mem_append_right _ (h))) hown hK hP0 2 rfl rfl 0 (by decide) (hts (.fieldLink RX3 8 "Phaselock$LineMemory" "values" "I") (List.mem_cons_of_mem _ (List.mem_append_left _ (List.mem_of_getElem? (i := 0) rfl)))) (fun _ h9 => h9) rfl dX3_hasChangedSince_5 ?_
  refine lv_iload_n hx hb dX3_hasChangedSince_8 rfl (lv_at hl0 1 rfl) ?_
  refine lv_ishr hx hb dX3_hasChangedSince_9 ?_
  refine lv_asi (y := (v_X3_hasChangedSince_1 S p0)) rfl ?_
  refine lv_ixor hx hb dX3_hasChangedSince_10 ?_
  refine lv_asi (y := (v_X3_hasChangedSince_2 S p0)) rfl ?_
  refine lv_iconst (v := 1) hx hb dX3_hasChangedSince_11 (by decide) ?_
  refine lv_iand hx hb dX3_hasChangedSince_12 ?_
  refine lv_asi (y := (v_X3_hasChangedSince_3 S p0)) rfl ?_
  refine lv_iconst (v := 1) hx hb dX3_hasChangedSince_13 (by decide) ?_
  have J1_14 : W p l e (headSpec wsX3_hasChangedSince rm_X3_hasChangedSince).room s m ([.ref (a 2), .int p0] : List Value).toArray below meth c s.heap [] 0 0 Q (F0 m 22 ls0 [.int (v_X3_hasChangedSince_4 S p0)]) := by
    subst hQ; exact W.zret (v := (v_X3_hasChangedSince_4 S p0)) hx hb hr (by unfold v_X3_hasChangedSince_4; (repeat' split) <;> decide) (fun t ht hW => ⟨⟨(v_X3_hasChangedSince_4 S p0), S, rfl, ⟨rfl, (show (v_X3_hasChangedSince_4 S p0) = r_X3_hasChangedSince S p0 from rfl)⟩, endW hP0 hK hD0 ht hW⟩, hS0.F ht⟩) hS0.2.2 dX3_hasChangedSince_22
  refine lv_icmp_ne (tgt := 21) hx hb dX3_hasChangedSince_14 (by decide) (fun c1_14 => ?_) (fun c1_14 => ?_)
  · refine lv_iconst (v := 0) hx hb dX3_hasChangedSince_21 (by decide) ?_
    refine lv_asi (y := (v_X3_hasChangedSince_4 S p0)) (show (v_X3_hasChangedSince_4 S p0) = 0 from (if_neg c1_14)).symm ?_
    exact J1_14
  · refine lv_iconst (v := 1) hx hb dX3_hasChangedSince_17 (by decide) ?_
    refine lv_goto (tgt := 22) hx hb dX3_hasChangedSince_18 (by decide) ?_
    refine lv_asi (y := (v_X3_hasChangedSince_4 S p0)) (show (v_X3_hasChangedSince_4 S p0) = 1 from (if_pos c1_14)).symm ?_
    exact J1_14
theorem z_X3_hasChangedSince (S : St) (p0 : Int32) : narrow .boolean (.int (r_X3_hasChangedSince S p0)) = .int (r_X3_hasChangedSince S p0) := by
  unfold r_X3_hasChangedSince
  first
    | ((repeat' split) <;> decide)
    | (simp only [v_X3_hasChangedSince_4]; (repeat' split) <;> decide)

def v_J6_bitCount_0f7a4_1 (S : St) (p0 : Int32) : Int32 := (p0.toUInt32 >>> ((1 : Int32).toUInt32 &&& Int32.toUInt32 31)).toInt32
def v_J6_bitCount_0f7a4_2 (S : St) (p0 : Int32) : Int32 := (v_J6_bitCount_0f7a4_1 S p0) &&& 1431655765
def v_J6_bitCount_0f7a4_3 (S : St) (p0 : Int32) : Int32 := p0 - (v_J6_bitCount_0f7a4_2 S p0)
def v_J6_bitCount_0f7a4_4 (S : St) (p0 : Int32) : Int32 := (v_J6_bitCount_0f7a4_3 S p0) &&& 858993459
def v_J6_bitCount_0f7a4_5 (S : St) (p0 : Int32) : Int32 := ((v_J6_bitCount_0f7a4_3 S p0).toUInt32 >>> ((2 : Int32).toUInt32 &&& Int32.toUInt32 31)).toInt32
def v_J6_bitCount_0f7a4_6 (S : St) (p0 : Int32) : Int32 := (v_J6_bitCount_0f7a4_5 S p0) &&& 858993459
def v_J6_bitCount_0f7a4_7 (S : St) (p0 : Int32) : Int32 := (v_J6_bitCount_0f7a4_4 S p0) + (v_J6_bitCount_0f7a4_6 S p0)
def v_J6_bitCount_0f7a4_8 (S : St) (p0 : Int32) : Int32 := ((v_J6_bitCount_0f7a4_7 S p0).toUInt32 >>> ((4 : Int32).toUInt32 &&& Int32.toUInt32 31)).toInt32
def v_J6_bitCount_0f7a4_9 (S : St) (p0 : Int32) : Int32 := (v_J6_bitCount_0f7a4_7 S p0) + (v_J6_bitCount_0f7a4_8 S p0)
def v_J6_bitCount_0f7a4_10 (S : St) (p0 : Int32) : Int32 := (v_J6_bitCount_0f7a4_9 S p0) &&& 252645135
def v_J6_bitCount_0f7a4_11 (S : St) (p0 : Int32) : Int32 := ((v_J6_bitCount_0f7a4_10 S p0).toUInt32 >>> ((8 : Int32).toUInt32 &&& Int32.toUInt32 31)).toInt32
def v_J6_bitCount_0f7a4_12 (S : St) (p0 : Int32) : Int32 := (v_J6_bitCount_0f7a4_10 S p0) + (v_J6_bitCount_0f7a4_11 S p0)
def v_J6_bitCount_0f7a4_13 (S : St) (p0 : Int32) : Int32 := ((v_J6_bitCount_0f7a4_12 S p0).toUInt32 >>> ((16 : Int32).toUInt32 &&& Int32.toUInt32 31)).toInt32
def v_J6_bitCount_0f7a4_14 (S : St) (p0 : Int32) : Int32 := (v_J6_bitCount_0f7a4_12 S p0) + (v_J6_bitCount_0f7a4_13 S p0)
def v_J6_bitCount_0f7a4_15 (S : St) (p0 : Int32) : Int32 := (v_J6_bitCount_0f7a4_14 S p0) &&& 63
def r_J6_bitCount_0f7a4 (S : St) (p0 : Int32) : Int32 := (v_J6_bitCount_0f7a4_15 S p0)
def rm_J6_bitCount_0f7a4 : Room := { frames := 0, cells := 0, slots := 0, locals := 0 }
set_option maxRecDepth 100000 in
set_option maxHeartbeats 4000000 in
theorem k_J6_bitCount_0f7a4 (l : Launch) (D : va_G) (a : Nat → Nat) (cZ cI : ClassId) (S : St) (sz : Nat) (p0 : Int32) : Met l yJ6_bitCount_0f7a4 wsJ6_bitCount_0f7a4 rm_J6_bitCount_0f7a4 (va_Pc [.int p0] (pW D (tyZI cZ cI) (wP a cZ cI S) sz nP)) (va_Qi (fun (r : Int32) (u : St) => u = S ∧ r = r_J6_bitCount_0f7a4 S p0) (fun u t => oW D (tyZI cZ cI) (wP a cZ cI u) (aA (adP a) sz) t) (aA (adP a) sz)) 0 0 (aA (adP a) sz) := by
  refine Met.ofW (cc := cJ6_bitCount_0f7a4) (maxL := 1) (ret := (some .int)) (by decide +kernel) rfl ?_
  intro p e s m args below meth c s₁ B hml hv
  obtain ⟨rfl, hsz, hP0, hK, hD9, hN⟩ := hv
  have hx := B.exec
  have hb := B.bytes
  have hr := B.returns
  have hts := atoms_spec (ws := wsJ6_bitCount_0f7a4) B.pre
  have hown : s.vm.findClass RJ6 = some m.cls := findClass_of_methodNamed B.named
  have hlocks := B.notSynchronized
  subst hsz
  have hD0 := aA_self (sz := s.heap.size) (as := adP a) hD9 rfl
  generalize hAe : aA (adP a) s.heap.size = A at hD0 ⊢
  have hA : ∀ q : Nat, s.heap.size ≤ q → A q := fun q h => by rw [← hAe]; exact Or.inr h
  have hAc : ∀ q : Nat, q ∈ adP a → A q := fun q h => by rw [← hAe]; exact Or.inl h
  have hS0 : va_S A s.heap s.heap [] := va_S.rf
  have hl0 := lv_entry ([.int p0]) (n := 1) (Nat.le_of_ble_eq_true rfl)
  rw [lg_entry_eq]
  generalize (lg_sl ([.int p0]) ++ List.replicate (1 - (lg_sl ([.int p0])).length) Slot.unset).toArray = ls0 at hl0 ⊢
  have hl0 : lv_has ls0 1 [(0, .int p0)] := hl0
  generalize hQ : MQ below _ _ s _ _ _ = Q
  clear hD9 B
  refine lv_iload_n hx hb dJ6_bitCount_0f7a4_0 rfl (lv_at hl0 0 rfl) ?_
  refine lv_iload_n hx hb dJ6_bitCount_0f7a4_1 rfl (lv_at hl0 0 rfl) ?_
  refine lv_iconst (v := 1) hx hb dJ6_bitCount_0f7a4_2 (by decide) ?_
  refine lv_iushr (v := (v_J6_bitCount_0f7a4_1 S p0)) hx hb dJ6_bitCount_0f7a4_3 rfl ?_
  refine lv_ldcw (v := 1431655765) hx hb hown (hts (.constant RJ6 265 (1431655765)) (List.mem_cons_of_mem _ (List.mem_of_getElem? (i := 0) rfl))) dJ6_bitCount_0f7a4_4 ?_
  refine lv_iand hx hb dJ6_bitCount_0f7a4_7 ?_
  refine lv_asi (y := (v_J6_bitCount_0f7a4_2 S p0)) rfl ?_
  refine lv_isub hx hb dJ6_bitCount_0f7a4_8 ?_
  refine lv_asi (y := (v_J6_bitCount_0f7a4_3 S p0)) rfl ?_
  refine lv_istore_n (lv' := [(0, .int (v_J6_bitCount_0f7a4_3 S p0))]) hx hb dJ6_bitCount_0f7a4_9 rfl hl0 (by decide) rfl (fun ls1 hl1 => ?_)
  clear hl0
  refine lv_iload_n hx hb dJ6_bitCount_0f7a4_10 rfl (lv_at hl1 0 rfl) ?_
  refine lv_ldcw (v := 858993459) hx hb hown (hts (.constant RJ6 266 (858993459)) (List.mem_cons_of_mem _ (List.mem_of_getElem? (i := 1) rfl))) dJ6_bitCount_0f7a4_11 ?_
  refine lv_iand hx hb dJ6_bitCount_0f7a4_14 ?_
  refine lv_asi (y := (v_J6_bitCount_0f7a4_4 S p0)) rfl ?_
  refine lv_iload_n hx hb dJ6_bitCount_0f7a4_15 rfl (lv_at hl1 0 rfl) ?_
  refine lv_iconst (v := 2) hx hb dJ6_bitCount_0f7a4_16 (by decide) ?_
  refine lv_iushr (v := (v_J6_bitCount_0f7a4_5 S p0)) hx hb dJ6_bitCount_0f7a4_17 rfl ?_
  refine lv_ldcw (v := 858993459) hx hb hown (hts (.constant RJ6 266 (858993459)) (List.mem_cons_of_mem _ (List.mem_of_getElem? (i := 1) rfl))) dJ6_bitCount_0f7a4_18 ?_
  refine lv_iand hx hb dJ6_bitCount_0f7a4_21 ?_
  refine lv_asi (y := (v_J6_bitCount_0f7a4_6 S p0)) rfl ?_
  refine lv_iadd hx hb dJ6_bitCount_0f7a4_22 ?_
  refine lv_asi (y := (v_J6_bitCount_0f7a4_7 S p0)) rfl ?_
  refine lv_istore_n (lv' := [(0, .int (v_J6_bitCount_0f7a4_7 S p0))]) hx hb dJ6_bitCount_0f7a4_23 rfl hl1 (by decide) rfl (fun ls2 hl2 => ?_)
  clear hl1
  refine lv_iload_n hx hb dJ6_bitCount_0f7a4_24 rfl (lv_at hl2 0 rfl) ?_
  refine lv_iload_n hx hb dJ6_bitCount_0f7a4_25 rfl (lv_at hl2 0 rfl) ?_
  refine lv_iconst (v := 4) hx hb dJ6_bitCount_0f7a4_26 (by decide) ?_
  refine lv_iushr (v := (v_J6_bitCount_0f7a4_8 S p0)) hx hb dJ6_bitCount_0f7a4_27 rfl ?_
  refine lv_iadd hx hb dJ6_bitCount_0f7a4_28 ?_
  refine lv_asi (y := (v_J6_bitCount_0f7a4_9 S p0)) rfl ?_
  refine lv_ldcw (v := 252645135) hx hb hown (hts (.constant RJ6 267 (252645135)) (List.mem_cons_of_mem _ (List.mem_of_getElem? (i := 2) rfl))) dJ6_bitCount_0f7a4_29 ?_
  refine lv_iand hx hb dJ6_bitCount_0f7a4_32 ?_
  refine lv_asi (y := (v_J6_bitCount_0f7a4_10 S p0)) rfl ?_
  refine lv_istore_n (lv' := [(0, .int (v_J6_bitCount_0f7a4_10 S p0))]) hx hb dJ6_bitCount_0f7a4_33 rfl hl2 (by decide) rfl (fun ls3 hl3 => ?_)
  clear hl2
  refine lv_iload_n hx hb dJ6_bitCount_0f7a4_34 rfl (lv_at hl3 0 rfl) ?_
  refine lv_iload_n hx hb dJ6_bitCount_0f7a4_35 rfl (lv_at hl3 0 rfl) ?_
  refine lv_bipush (v := 8) hx hb dJ6_bitCount_0f7a4_36 (by decide) ?_
  refine lv_iushr (v := (v_J6_bitCount_0f7a4_11 S p0)) hx hb dJ6_bitCount_0f7a4_38 rfl ?_
  refine lv_iadd hx hb dJ6_bitCount_0f7a4_39 ?_
  refine lv_asi (y := (v_J6_bitCount_0f7a4_12 S p0)) rfl ?_
  refine lv_istore_n (lv' := [(0, .int (v_J6_bitCount_0f7a4_12 S p0))]) hx hb dJ6_bitCount_0f7a4_40 rfl hl3 (by decide) rfl (fun ls4 hl4 => ?_)
  clear hl3
  refine lv_iload_n hx hb dJ6_bitCount_0f7a4_41 rfl (lv_at hl4 0 rfl) ?_
  refine lv_iload_n hx hb dJ6_bitCount_0f7a4_42 rfl (lv_at hl4 0 rfl) ?_
  refine lv_bipush (v := 16) hx hb dJ6_bitCount_0f7a4_43 (by decide) ?_
  refine lv_iushr (v := (v_J6_bitCount_0f7a4_13 S p0)) hx hb dJ6_bitCount_0f7a4_45 rfl ?_
  refine lv_iadd hx hb dJ6_bitCount_0f7a4_46 ?_
  refine lv_asi (y := (v_J6_bitCount_0f7a4_14 S p0)) rfl ?_
  refine lv_istore_n (lv' := [(0, .int (v_J6_bitCount_0f7a4_14 S p0))]) hx hb dJ6_bitCount_0f7a4_47 rfl hl4 (by decide) rfl (fun ls5 hl5 => ?_)
  clear hl4
  refine lv_iload_n hx hb dJ6_bitCount_0f7a4_48 rfl (lv_at hl5 0 rfl) ?_
  refine lv_bipush (v := 63) hx hb dJ6_bitCount_0f7a4_49 (by decide) ?_
  refine lv_iand hx hb dJ6_bitCount_0f7a4_51 ?_
  refine lv_asi (y := (v_J6_bitCount_0f7a4_15 S p0)) rfl ?_
  subst hQ; exact W.iret (v := (v_J6_bitCount_0f7a4_15 S p0)) hx hb hr (fun t ht hW => ⟨⟨(v_J6_bitCount_0f7a4_15 S p0), S, rfl, ⟨rfl, (show (v_J6_bitCount_0f7a4_15 S p0) = r_J6_bitCount_0f7a4 S p0 from rfl)⟩, endW hP0 hK hD0 ht hW⟩, hS0.F ht⟩) hS0.2.2 dJ6_bitCount_0f7a4_52

def v_X3_findLevel_1 (S : St) : Int32 := (S.1 8) &&& 255
def v_X3_findLevel_2 (S : St) : Int32 := r_J6_bitCount_0f7a4 S (v_X3_findLevel_1 S)
def v_X3_findLevel_3 (S : St) : Int32 := 2 * (v_X3_findLevel_2 S)
def v_X3_findLevel_4 (S : St) : Int32 := (v_X3_findLevel_3 S) - 8
def r_X3_findLevel (S : St) : Int32 := (v_X3_findLevel_4 S)
def rm_X3_findLevel : Room := { frames := 1, cells := 0, slots := 0, locals := 20 }
set_option maxRecDepth 100000 in
set_option maxHeartbeats 4000000 in
theorem k_X3_findLevel (l : Launch) (D : va_G) (a : Nat → Nat) (cZ cI : ClassId) (S : St) (sz : Nat) : Met l yX3_findLevel wsX3_findLevel rm_X3_findLevel (va_Pc [.ref (a 2)] (pW D (tyZI cZ cI) (wP a cZ cI S) sz nP)) (va_Qi (fun (r : Int32) (u : St) => u = S ∧ r = r_X3_findLevel S) (fun u t => oW D (tyZI cZ cI) (wP a cZ cI u) (aA (adP a) sz) t) (aA (adP a) sz)) 0 0 (aA (adP a) sz) := by
  refine Met.ofW (cc := cX3_findLevel) (maxL := 1) (ret := (some .int)) (by decide +kernel) rfl ?_
  intro p e s m args below meth c s₁ B hml hv
  obtain ⟨rfl, hsz, hP0, hK, hD9, hN⟩ := hv
  have hx := B.exec
  have hb := B.bytes
  have hr := B.returns
  have hts := atoms_spec (ws := wsX3_findLevel) B.pre
  have hown : s.vm.findClass RX3 = some m.cls := findClass_of_methodNamed B.named
  have hlocks := B.notSynchronized
  subst hsz
  have hD0 := aA_self (sz := s.heap.size) (as := adP a) hD9 rfl
  generalize hAe : aA (adP a) s.heap.size = A at hD0 ⊢
  have hA : ∀ q : Nat, s.heap.size ≤ q → A q := fun q h => by rw [← hAe]; exact Or.inr h
  have hAc : ∀ q : Nat, q ∈ adP a → A q := fun q h => by rw [← hAe]; exact Or.inl h
  have hS0 : va_S A s.heap s.heap [] := va_S.rf
  have hl0 := lv_entry ([.ref (a 2)]) (n := 1) (Nat.le_of_ble_eq_true rfl)
  rw [lg_entry_eq]
  generalize (lg_sl ([.ref (a 2)]) ++ List.replicate (1 - (lg_sl ([.ref (a 2)])).length) Slot.unset).toArray = ls0 at hl0 ⊢
  have hl0 : lv_has ls0 1 [(0, .ref (a 2))] := hl0
  generalize hQ : MQ below _ _ s _ _ _ = Q
  clear hD9 B
  refine lv_iconst (v := 2) hx hb dX3_findLevel_0 (by decide) ?_
  refine lv_aload_n hx hb dX3_findLevel_1 rfl (lv_at hl0 0 rfl) ?_
  refine va_get (D := D) (ci := 3) (v := .int (S.1 8)) (C := RX3) (T := TX3) (N := 1) hx hb hts (fun _ h => List.mem_cons_of_mem _ (List.mem_append_right _ (h))) hown hK hP0 2 rfl rfl 0 (by decide) (hts (.fieldLink RX3 8 "Phaselock$LineMemory" "values" "I") (List.mem_cons_of_mem _ (List.mem_append_left _ (List.mem_of_getElem? (i := 0) rfl)))) (fun _ h9 => h9) rfl dX3_findLevel_2 ?_
  refine lv_sipush (v := 255) hx hb dX3_findLevel_5 (by decide) ?_
  refine lv_iand hx hb dX3_findLevel_8 ?_
  refine lv_asi (y := (v_X3_findLevel_1 S)) rfl ?_
  refine va_calli (va_runS (As := [.int (v_X3_findLevel_1 S)]) (rest := [.int 2]) ⟨hx, hb, hml, hown, hts⟩ (k_J6_bitCount_0f7a4 l D a cZ cI S s.heap.size (v_X3_findLevel_1 S)) (va_cwS 1 hts gX3_findLevel_J6_bitCount_0f7a4 rfl rfl rfl (by decide +kernel) ⟨Nat.le_of_ble_eq_true rfl, Nat.le_of_ble_eq_true rfl⟩) ⟨blW okN_P, preW hP0 hK hD0 okN_P hN⟩ rfl rfl hl0.1 rfl (lv_room (Nat.le_of_ble_eq_true rfl)) dX3_findLevel_9 ⟨Nat.zero_le _, Nat.zero_le _⟩) hS0 (aA_in hAc) (aA_free hAc hA hS0) (fun r1 u1 t1 H1 L1 ht1 hvm1 hw1 hB1 _ _ hS1 => ?_)
  obtain ⟨hP1, hD1⟩ := backW hB1 ht1 (aA_free hAc hA hS0)
  clear hB1 ht1 hvm1 t1
  obtain ⟨hu1, hr1⟩ := hw1
  subst u1; subst r1
  clear hP0 hD0 hS0
  refine lv_asi (y := (v_X3_findLevel_2 S)) rfl ?_
  refine lv_imul hx hb dX3_findLevel_12 ?_
  refine lv_asi (y := (v_X3_findLevel_3 S)) rfl ?_
  refine lv_bipush (v := 8) hx hb dX3_findLevel_13 (by decide) ?_
  refine lv_isub hx hb dX3_findLevel_15 ?_
  refine lv_asi (y := (v_X3_findLevel_4 S)) rfl ?_
  subst hQ; exact W.iret (v := (v_X3_findLevel_4 S)) hx hb hr (fun t ht hW => ⟨⟨(v_X3_findLevel_4 S), S, rfl, ⟨rfl, (show (v_X3_findLevel_4 S) = r_X3_findLevel S from rfl)⟩, endW hP1 hK hD1 ht hW⟩, hS1.F ht⟩) hS1.2.2 dX3_findLevel_16

def v_J9_floorDiv_7cf53_1 (S : St) (p0 : Int32) (p1 : Int32) : Int32 := p0 / p1
def v_J9_floorDiv_7cf53_2 (S : St) (p0 : Int32) (p1 : Int32) : Int32 := p0 ^^^ p1
def v_J9_floorDiv_7cf53_4 (S : St) (p0 : Int32) (p1 : Int32) : Int32 := (v_J9_floorDiv_7cf53_1 S p0 p1) * p1
def v_J9_floorDiv_7cf53_6 (S : St) (p0 : Int32) (p1 : Int32) : Int32 := (v_J9_floorDiv_7cf53_1 S p0 p1) - 1
def r_J9_floorDiv_7cf53 (S : St) (p0 : Int32) (p1 : Int32) : Int32 := if 0 ≤ (v_J9_floorDiv_7cf53_2 S p0 p1) then (v_J9_floorDiv_7cf53_1 S p0 p1) else if (v_J9_floorDiv_7cf53_4 S p0 p1) = p0 then (v_J9_floorDiv_7cf53_1 S p0 p1) else (v_J9_floorDiv_7cf53_6 S p0 p1)
def rm_J9_floorDiv_7cf53 : Room := { frames := 0, cells := 0, slots := 0, locals := 0 }
set_option maxRecDepth 100000 in
set_option maxHeartbeats 4000000 in
theorem k_J9_floorDiv_7cf53 (l : Launch) (D : va_G) (a : Nat → Nat) (cZ cI : ClassId) (S : St) (sz : Nat) (p0 : Int32) (p1 : Int32) (hne : ¬ p1 = 0) : Met l yJ9_floorDiv_7cf53 wsJ9_floorDiv_7cf53 rm_J9_floorDiv_7cf53 (va_Pc [.int p0, .int p1] (pW D (tyZI cZ cI) (wP a cZ cI S) sz nP)) (va_Qi (fun (r : Int32) (u : St) => u = S ∧ r = r_J9_floorDiv_7cf53 S p0 p1) (fun u t => oW D (tyZI cZ cI) (wP a cZ cI u) (aA (adP a) sz) t) (aA (adP a) sz)) 0 0 (aA (adP a) sz) := by
  refine va_MetF (cc := cJ9_floorDiv_7cf53) (maxL := 3) (ret := (some .int)) (by decide +kernel) rfl ?_
  intro p e s m args below meth c s₁ B hml hv
  obtain ⟨rfl, hsz, hP0, hK, hD9, hN⟩ := hv
  have hx := B.exec
  have hb := B.bytes
  have hr := B.returns
  have hts := atoms_spec (ws := wsJ9_floorDiv_7cf53) B.pre
  have hown : s.vm.findClass RJ9 = some m.cls := findClass_of_methodNamed B.named
  have hlocks := B.notSynchronized
  subst hsz
  have hD0 := aA_self (sz := s.heap.size) (as := adP a) hD9 rfl
  generalize hAe : aA (adP a) s.heap.size = A at hD0 ⊢
  have hA : ∀ q : Nat, s.heap.size ≤ q → A q := fun q h => by rw [← hAe]; exact Or.inr h
  have hAc : ∀ q : Nat, q ∈ adP a → A q := fun q h => by rw [← hAe]; exact Or.inl h
  have hS0 : va_S A s.heap s.heap [] := va_S.rf
  have hl0 := lv_entry ([.int p0, .int p1]) (n := 3) (Nat.le_of_ble_eq_true rfl)
  rw [lg_entry_eq]
  generalize (lg_sl ([.int p0, .int p1]) ++ List.replicate (3 - (lg_sl ([.int p0, .int p1])).length) Slot.unset).toArray = ls0 at hl0 ⊢
  have hl0 : lv_has ls0 3 [(0, .int p0), (1, .int p1)] := hl0
  generalize hQ : MQ below _ _ s _ _ _ = Q
  clear hD9 B
  refine lv_iload_n hx hb dJ9_floorDiv_7cf53_0 rfl (lv_at hl0 0 rfl) ?_
  refine lv_iload_n hx hb dJ9_floorDiv_7cf53_1 rfl (lv_at hl0 1 rfl) ?_
  refine lv_idiv hx hb dJ9_floorDiv_7cf53_2 hne ?_
  refine lv_asi (y := (v_J9_floorDiv_7cf53_1 S p0 p1)) rfl ?_
  refine lv_istore_n (lv' := [(2, .int (v_J9_floorDiv_7cf53_1 S p0 p1)), (0, .int p0), (1, .int p1)]) hx hb dJ9_floorDiv_7cf53_3 rfl hl0 (by decide) rfl (fun ls1 hl1 => ?_)
  clear hl0
  refine lv_iload_n hx hb dJ9_floorDiv_7cf53_4 rfl (lv_at hl1 1 rfl) ?_
  refine lv_iload_n hx hb dJ9_floorDiv_7cf53_5 rfl (lv_at hl1 2 rfl) ?_
  refine lv_ixor hx hb dJ9_floorDiv_7cf53_6 ?_
  refine lv_asi (y := (v_J9_floorDiv_7cf53_2 S p0 p1)) rfl ?_
  refine lv_if_ge (tgt := 21) hx hb dJ9_floorDiv_7cf53_7 (by decide) (fun c1_7 => ?_) (fun c1_7 => ?_)
  · refine lv_iload_n hx hb dJ9_floorDiv_7cf53_21 rfl (lv_at hl1 0 rfl) ?_
    subst hQ; exact W.iret (v := (v_J9_floorDiv_7cf53_1 S p0 p1)) hx hb hr (fun t ht hW => ⟨⟨(v_J9_floorDiv_7cf53_1 S p0 p1), S, rfl, ⟨rfl, (show (v_J9_floorDiv_7cf53_1 S p0 p1) = r_J9_floorDiv_7cf53 S p0 p1 from (if_pos c1_7).symm)⟩, endW hP0 hK hD0 ht hW⟩, hS0.F ht⟩) hS0.2.2 dJ9_floorDiv_7cf53_22
  · refine lv_iload_n hx hb dJ9_floorDiv_7cf53_10 rfl (lv_at hl1 0 rfl) ?_
    refine lv_iload_n hx hb dJ9_floorDiv_7cf53_11 rfl (lv_at hl1 2 rfl) ?_
    refine lv_imul hx hb dJ9_floorDiv_7cf53_12 ?_
    refine lv_asi (y := (v_J9_floorDiv_7cf53_4 S p0 p1)) rfl ?_
    refine lv_iload_n hx hb dJ9_floorDiv_7cf53_13 rfl (lv_at hl1 1 rfl) ?_
    refine lv_icmp_eq (tgt := 21) hx hb dJ9_floorDiv_7cf53_14 (by decide) (fun c2_14 => ?_) (fun c2_14 => ?_)
    · refine lv_iload_n hx hb dJ9_floorDiv_7cf53_21 rfl (lv_at hl1 0 rfl) ?_
      subst hQ; exact W.iret (v := (v_J9_floorDiv_7cf53_1 S p0 p1)) hx hb hr (fun t ht hW => ⟨⟨(v_J9_floorDiv_7cf53_1 S p0 p1), S, rfl, ⟨rfl, (show (v_J9_floorDiv_7cf53_1 S p0 p1) = r_J9_floorDiv_7cf53 S p0 p1 from ((if_neg c1_7).trans (if_pos c2_14)).symm)⟩, endW hP0 hK hD0 ht hW⟩, hS0.F ht⟩) hS0.2.2 dJ9_floorDiv_7cf53_22
    · refine lv_iload_n hx hb dJ9_floorDiv_7cf53_17 rfl (lv_at hl1 0 rfl) ?_
      refine lv_iconst (v := 1) hx hb dJ9_floorDiv_7cf53_18 (by decide) ?_
      refine lv_isub hx hb dJ9_floorDiv_7cf53_19 ?_
      refine lv_asi (y := (v_J9_floorDiv_7cf53_6 S p0 p1)) rfl ?_
      subst hQ; exact W.iret (v := (v_J9_floorDiv_7cf53_6 S p0 p1)) hx hb hr (fun t ht hW => ⟨⟨(v_J9_floorDiv_7cf53_6 S p0 p1), S, rfl, ⟨rfl, (show (v_J9_floorDiv_7cf53_6 S p0 p1) = r_J9_floorDiv_7cf53 S p0 p1 from ((if_neg c1_7).trans (if_neg c2_14)).symm)⟩, endW hP0 hK hD0 ht hW⟩, hS0.F ht⟩) hS0.2.2 dJ9_floorDiv_7cf53_20

def v_X4_keepWithin_1 (S : St) (p0 : Int32) (p1 : Int32) : Int32 := -p1
def v_X4_keepWithin_2 (S : St) (p0 : Int32) (p1 : Int32) : Int32 := if p0 < p1 then p0 else p1
def v_X4_keepWithin_3 (S : St) (p0 : Int32) (p1 : Int32) : Int32 := if (v_X4_keepWithin_1 S p0 p1) < (v_X4_keepWithin_2 S p0 p1) then (v_X4_keepWithin_2 S p0 p1) else (v_X4_keepWithin_1 S p0 p1)
def r_X4_keepWithin (S : St) (p0 : Int32) (p1 : Int32) : Int32 := (v_X4_keepWithin_3 S p0 p1)
def rm_X4_keepWithin : Room := { frames := 1, cells := 0, slots := 0, locals := 21 }
set_option maxRecDepth 100000 in
set_option maxHeartbeats 4000000 in
theorem k_X4_keepWithin (l : Launch) (D : va_G) (a : Nat → Nat) (cZ cI : ClassId) (S : St) (sz : Nat) (p0 : Int32) (p1 : Int32) : Met l yX4_keepWithin wsX4_keepWithin rm_X4_keepWithin (va_Pc [.int p0, .int p1] (pW D (tyZI cZ cI) (wP a cZ cI S) sz nP)) (va_Qi (fun (r : Int32) (u : St) => u = S ∧ r = r_X4_keepWithin S p0 p1) (fun u t => oW D (tyZI cZ cI) (wP a cZ cI u) (aA (adP a) sz) t) (aA (adP a) sz)) 0 0 (aA (adP a) sz) := by
  refine Met.ofW (cc := cX4_keepWithin) (maxL := 2) (ret := (some .int)) (by decide +kernel) rfl ?_
  intro p e s m args below meth c s₁ B hml hv
  obtain ⟨rfl, hsz, hP0, hK, hD9, hN⟩ := hv
  have hx := B.exec
  have hb := B.bytes
  have hr := B.returns
  have hts := atoms_spec (ws := wsX4_keepWithin) B.pre
  have hown : s.vm.findClass RX4 = some m.cls := findClass_of_methodNamed B.named
  have hlocks := B.notSynchronized
  subst hsz
  have hD0 := aA_self (sz := s.heap.size) (as := adP a) hD9 rfl
  generalize hAe : aA (adP a) s.heap.size = A at hD0 ⊢
  have hA : ∀ q : Nat, s.heap.size ≤ q → A q := fun q h => by rw [← hAe]; exact Or.inr h
  have hAc : ∀ q : Nat, q ∈ adP a → A q := fun q h => by rw [← hAe]; exact Or.inl h
  have hS0 : va_S A s.heap s.heap [] := va_S.rf
  have hl0 := lv_entry ([.int p0, .int p1]) (n := 2) (Nat.le_of_ble_eq_true rfl)
  rw [lg_entry_eq]
  generalize (lg_sl ([.int p0, .int p1]) ++ List.replicate (2 - (lg_sl ([.int p0, .int p1])).length) Slot.unset).toArray = ls0 at hl0 ⊢
  have hl0 : lv_has ls0 2 [(0, .int p0), (1, .int p1)] := hl0
  generalize hQ : MQ below _ _ s _ _ _ = Q
  clear hD9 B
  refine lv_iload_n hx hb dX4_keepWithin_0 rfl (lv_at hl0 1 rfl) ?_
  refine lv_ineg hx hb dX4_keepWithin_1 ?_
  refine lv_asi (y := (v_X4_keepWithin_1 S p0 p1)) rfl ?_
  refine lv_iload_n hx hb dX4_keepWithin_2 rfl (lv_at hl0 1 rfl) ?_
  refine lv_iload_n hx hb dX4_keepWithin_3 rfl (lv_at hl0 0 rfl) ?_
  refine va_mmin hx hb (hml.trans hl0.1.symm) hown (hts (.methodLink RX4 35 Lib.Math.min.name) (List.mem_cons_of_mem _ (List.mem_of_getElem? (i := 0) rfl))) (hts (.static Lib.Math.min.name) (List.mem_cons_of_mem _ (List.mem_of_getElem? (i := 1) rfl))) (hts (.initialized "java/lang/Math") (List.mem_cons_of_mem _ (List.mem_of_getElem? (i := 2) rfl))) (hts (.code Lib.Math.min.name Lib.Math.min.code 2 (some .int)) (List.mem_cons_of_mem _ (List.mem_of_getElem? (i := 3) rfl))) (Nat.le_of_ble_eq_true rfl) (Nat.le_of_ble_eq_true rfl) (Nat.le_refl 0) (Nat.le_refl 0) dX4_keepWithin_4 ?_
  refine lv_asi (y := (v_X4_keepWithin_2 S p0 p1)) rfl ?_
  refine va_mmax hx hb (hml.trans hl0.1.symm) hown (hts (.methodLink RX4 38 Lib.Math.max.name) (List.mem_cons_of_mem _ (List.mem_of_getElem? (i := 4) rfl))) (hts (.static Lib.Math.max.name) (List.mem_cons_of_mem _ (List.mem_of_getElem? (i := 5) rfl))) (hts (.initialized "java/lang/Math") (List.mem_cons_of_mem _ (List.mem_of_getElem? (i := 2) rfl))) (hts (.code Lib.Math.max.name Lib.Math.max.code 2 (some .int)) (List.mem_cons_of_mem _ (List.mem_of_getElem? (i := 6) rfl))) (Nat.le_of_ble_eq_true rfl) (Nat.le_of_ble_eq_true rfl) (Nat.le_refl 0) (Nat.le_refl 0) dX4_keepWithin_7 ?_
  refine lv_asi (y := (v_X4_keepWithin_3 S p0 p1)) rfl ?_
  subst hQ; exact W.iret (v := (v_X4_keepWithin_3 S p0 p1)) hx hb hr (fun t ht hW => ⟨⟨(v_X4_keepWithin_3 S p0 p1), S, rfl, ⟨rfl, (show (v_X4_keepWithin_3 S p0 p1) = r_X4_keepWithin S p0 p1 from rfl)⟩, endW hP0 hK hD0 ht hW⟩, hS0.F ht⟩) hS0.2.2 dX4_keepWithin_10

def s_X4_takeError_1 (S : St) (p0 : Int32) : St := si S 14 p0
def v_X4_takeError_2 (S : St) (p0 : Int32) : Int32 := ((s_X4_takeError_1 S p0).1 17) * p0
def v_X4_takeError_3 (S : St) (p0 : Int32) : Int32 := ((s_X4_takeError_1 S p0).1 13) + (v_X4_takeError_2 S p0)
def v_X4_takeError_4 (S : St) (p0 : Int32) : Int32 := r_X4_keepWithin (s_X4_takeError_1 S p0) (v_X4_takeError_3 S p0) 262144
def s_X4_takeError_5 (S : St) (p0 : Int32) : St := si (s_X4_takeError_1 S p0) 13 (v_X4_takeError_4 S p0)
def v_X4_takeError_6 (S : St) (p0 : Int32) : Int32 := ((s_X4_takeError_5 S p0).1 16) * p0
def v_X4_takeError_7 (S : St) (p0 : Int32) : Int32 := r_J9_floorDiv_7cf53 (s_X4_takeError_5 S p0) ((s_X4_takeError_5 S p0).1 13) 256
def v_X4_takeError_8 (S : St) (p0 : Int32) : Int32 := (v_X4_takeError_6 S p0) + (v_X4_takeError_7 S p0)
def v_X4_takeError_9 (S : St) (p0 : Int32) : Int32 := r_X4_keepWithin (s_X4_takeError_5 S p0) (v_X4_takeError_8 S p0) 1024
def s_X4_takeError_10 (S : St) (p0 : Int32) : St := si (s_X4_takeError_5 S p0) 12 (v_X4_takeError_9 S p0)
def s_X4_takeError (S : St) (p0 : Int32) : St := (s_X4_takeError_10 S p0)
def rm_X4_takeError : Room := { frames := 2, cells := 0, slots := 0, locals := 42 }
set_option maxRecDepth 100000 in
set_option maxHeartbeats 4000000 in
theorem k_X4_takeError (l : Launch) (D : va_G) (a : Nat → Nat) (cZ cI : ClassId) (S : St) (sz : Nat) (p0 : Int32) : Met l yX4_takeError wsX4_takeError rm_X4_takeError (va_Pc [.ref (a 6), .int p0] (pW D (tyZI cZ cI) (wP a cZ cI S) sz nP)) (va_Qv (fun u : St => u = s_X4_takeError S p0) (fun u t => oW D (tyZI cZ cI) (wP a cZ cI u) (aA (adP a) sz) t) (aA (adP a) sz)) 0 0 (aA (adP a) sz) := by
  refine Met.ofW (cc := cX4_takeError) (maxL := 2) (ret := none) (by decide +kernel) rfl ?_
  intro p e s m args below meth c s₁ B hml hv
  obtain ⟨rfl, hsz, hP0, hK, hD9, hN⟩ := hv
  have hx := B.exec
  have hb := B.bytes
  have hr := B.returns
  have hts := atoms_spec (ws := wsX4_takeError) B.pre
  have hown : s.vm.findClass RX4 = some m.cls := findClass_of_methodNamed B.named
  have hlocks := B.notSynchronized
  subst hsz
  have hD0 := aA_self (sz := s.heap.size) (as := adP a) hD9 rfl
  generalize hAe : aA (adP a) s.heap.size = A at hD0 ⊢
  have hA : ∀ q : Nat, s.heap.size ≤ q → A q := fun q h => by rw [← hAe]; exact Or.inr h
  have hAc : ∀ q : Nat, q ∈ adP a → A q := fun q h => by rw [← hAe]; exact Or.inl h
  have hS0 : va_S A s.heap s.heap [] := va_S.rf
  have hl0 := lv_entry ([.ref (a 6), .int p0]) (n := 2) (Nat.le_of_ble_eq_true rfl)
  rw [lg_entry_eq]
  generalize (lg_sl ([.ref (a 6), .int p0]) ++ List.replicate (2 - (lg_sl ([.ref (a 6), .int p0])).length) Slot.unset).toArray = ls0 at hl0 ⊢
  have hl0 : lv_has ls0 2 [(0, .ref (a 6)), (1, .int p0)] := hl0
  generalize hQ : MQ below _ _ s _ _ _ = Q
  clear hD9 B
  refine lv_aload_n hx hb dX4_takeError_0 rfl (lv_at hl0 0 rfl) ?_
  refine lv_iload_n hx hb dX4_takeError_1 rfl (lv_at hl0 1 rfl) ?_
  refine va_put (D := D) (ci := 4) (v := .int p0) (ty := .int) (C := RX4) (T := TX4) (N := 5) hx hb hts (fun _ h => List.mem_cons_of_mem _ (List.mem_append_right _ (h))) tyX4 tyX4_ok nmX4 hown hK hP0 hD0 hS0 6 rfl rfl 2 (by decide) (hts (.fieldLink RX4 16 "Phaselock$LoopFilter" "error" "I") (List.mem_cons_of_mem _ (List.mem_append_left _ (List.mem_of_getElem? (i := 0) rfl)))) (fun _ h9 => h9) rfl (by decide +kernel) rfl rfl (Nat.le_of_ble_eq_true rfl) dX4_takeError_2 (fun H1 L1 hP1 hD1 hS1 => ?_)
  replace hP1 : va_P D vwCl (wP a cZ cI (s_X4_takeError_1 S p0)) H1 := cvP (wP_s14 a cZ cI S p0) hP1
  replace hD1 : va_D A (wP a cZ cI (s_X4_takeError_1 S p0)) := cvD (wP_s14 a cZ cI S p0) hD1
  clear hP0 hD0 hS0
  refine lv_aload_n hx hb dX4_takeError_5 rfl (lv_at hl0 0 rfl) ?_
  refine lv_aload_n hx hb dX4_takeError_6 rfl (lv_at hl0 0 rfl) ?_
  refine va_get (D := D) (ci := 4) (v := .int ((s_X4_takeError_1 S p0).1 13)) (C := RX4) (T := TX4) (N := 5) hx hb hts (fun _ h => List.mem_cons_of_mem _ (List.mem_append_right _ (h))) hown hK hP1 6 rfl rfl 3 (by decide) (hts (.fieldLink RX4 19 "Phaselock$LoopFilter" "integral" "I") (List.mem_cons_of_mem _ (List.mem_append_left _ (List.mem_of_getElem? (i := 1) rfl)))) (fun _ h9 => h9) rfl dX4_takeError_7 ?_
  refine lv_aload_n hx hb dX4_takeError_10 rfl (lv_at hl0 0 rfl) ?_
  refine va_get (D := D) (ci := 4) (v := .int ((s_X4_takeError_1 S p0).1 17)) (C := RX4) (T := TX4) (N := 5) hx hb hts (fun _ h => List.mem_cons_of_mem _ (List.mem_append_right _ (h))) hown hK hP1 6 rfl rfl 1 (by decide) (hts (.fieldLink RX4 13 "Phaselock$LoopFilter" "integralGain" "I") (List.mem_cons_of_mem _ (List.mem_append_left _ (List.mem_of_getElem? (i := 2) rfl)))) (fun _ h9 => h9) rfl dX4_takeError_11 ?_
  refine lv_iload_n hx hb dX4_takeError_14 rfl (lv_at hl0 1 rfl) ?_
  refine lv_imul hx hb dX4_takeError_15 ?_
  refine lv_asi (y := (v_X4_takeError_2 S p0)) rfl ?_
  refine lv_iadd hx hb dX4_takeError_16 ?_
  refine lv_asi (y := (v_X4_takeError_3 S p0)) rfl ?_
  refine lv_ldc (v := 262144) hx hb hown (hts (.constant RX4 25 (262144)) (List.mem_cons_of_mem _ (List.mem_append_left _ (List.mem_of_getElem? (i := 3) rfl)))) dX4_takeError_17 ?_
  refine va_calli (va_runS (As := [.int (v_X4_takeError_3 S p0), .int 262144]) (rest := [.ref (a 6)]) ⟨hx, hb, hml, hown, hts⟩ (k_X4_keepWithin l D a cZ cI (s_X4_takeError_1 S p0) H1.size (v_X4_takeError_3 S p0) 262144) (va_cwS 2 hts gX4_takeError_X4_keepWithin rfl rfl rfl (by decide +kernel) ⟨Nat.le_of_ble_eq_true rfl, Nat.le_of_ble_eq_true rfl⟩) ⟨blW okN_P, preW hP1 hK hD1 okN_P hN⟩ rfl rfl hl0.1 rfl (lv_room (Nat.le_of_ble_eq_true rfl)) dX4_takeError_19 ⟨Nat.zero_le _, Nat.zero_le _⟩) hS1 (aA_in hAc) (aA_free hAc hA hS1) (fun r2 u2 t2 H2 L2 ht2 hvm2 hw2 hB2 _ _ hS2 => ?_)
  obtain ⟨hP2, hD2⟩ := backW hB2 ht2 (aA_free hAc hA hS1)
  clear hB2 ht2 hvm2 t2
  obtain ⟨hu2, hr2⟩ := hw2
  subst u2; subst r2
  clear hP1 hD1 hS1
  refine lv_asi (y := (v_X4_takeError_4 S p0)) rfl ?_
  refine va_put (D := D) (ci := 4) (v := .int (v_X4_takeError_4 S p0)) (ty := .int) (C := RX4) (T := TX4) (N := 5) hx hb hts (fun _ h => List.mem_cons_of_mem _ (List.mem_append_right _ (h))) tyX4 tyX4_ok nmX4 hown hK hP2 hD2 hS2 6 rfl rfl 3 (by decide) (hts (.fieldLink RX4 19 "Phaselock$LoopFilter" "integral" "I") (List.mem_cons_of_mem _ (List.mem_append_left _ (List.mem_of_getElem? (i := 1) rfl)))) (fun _ h9 => h9) rfl (by decide +kernel) rfl rfl (Nat.le_of_ble_eq_true rfl) dX4_takeError_22 (fun H3 L3 hP3 hD3 hS3 => ?_)
  replace hP3 : va_P D vwCl (wP a cZ cI (s_X4_takeError_5 S p0)) H3 := cvP (wP_s13 a cZ cI (s_X4_takeError_1 S p0) (v_X4_takeError_4 S p0)) hP3
  replace hD3 : va_D A (wP a cZ cI (s_X4_takeError_5 S p0)) := cvD (wP_s13 a cZ cI (s_X4_takeError_1 S p0) (v_X4_takeError_4 S p0)) hD3
  clear hP2 hD2 hS2
  refine lv_aload_n hx hb dX4_takeError_25 rfl (lv_at hl0 0 rfl) ?_
  refine lv_aload_n hx hb dX4_takeError_26 rfl (lv_at hl0 0 rfl) ?_
  refine va_get (D := D) (ci := 4) (v := .int ((s_X4_takeError_5 S p0).1 16)) (C := RX4) (T := TX4) (N := 5) hx hb hts (fun _ h => List.mem_cons_of_mem _ (List.mem_append_right _ (h))) hown hK hP3 6 rfl rfl 0 (by decide) (hts (.fieldLink RX4 7 "Phaselock$LoopFilter" "proportionalGain" "I") (List.mem_cons_of_mem _ (List.mem_append_left _ (List.mem_of_getElem? (i := 4) rfl)))) (fun _ h9 => h9) rfl dX4_takeError_27 ?_
  refine lv_iload_n hx hb dX4_takeError_30 rfl (lv_at hl0 1 rfl) ?_
  refine lv_imul hx hb dX4_takeError_31 ?_
  refine lv_asi (y := (v_X4_takeError_6 S p0)) rfl ?_
  refine lv_aload_n hx hb dX4_takeError_32 rfl (lv_at hl0 0 rfl) ?_
  refine va_get (D := D) (ci := 4) (v := .int ((s_X4_takeError_5 S p0).1 13)) (C := RX4) (T := TX4) (N := 5) hx hb hts (fun _ h => List.mem_cons_of_mem _ (List.mem_append_right _ (h))) hown hK hP3 6 rfl rfl 3 (by decide) (hts (.fieldLink RX4 19 "Phaselock$LoopFilter" "integral" "I") (List.mem_cons_of_mem _ (List.mem_append_left _ (List.mem_of_getElem? (i := 1) rfl)))) (fun _ h9 => h9) rfl dX4_takeError_33 ?_
  refine lv_sipush (v := 256) hx hb dX4_takeError_36 (by decide) ?_
  refine va_calli (va_runS (As := [.int ((s_X4_takeError_5 S p0).1 13), .int 256]) (rest := [.int (v_X4_takeError_6 S p0), .ref (a 6)]) ⟨hx, hb, hml, hown, hts⟩ (k_J9_floorDiv_7cf53 l D a cZ cI (s_X4_takeError_5 S p0) H3.size ((s_X4_takeError_5 S p0).1 13) 256 (by decide)) (va_cwS 2 hts gX4_takeError_J9_floorDiv_7cf53 rfl rfl rfl (by decide +kernel) ⟨Nat.le_of_ble_eq_true rfl, Nat.le_of_ble_eq_true rfl⟩) ⟨blW okN_P, preW hP3 hK hD3 okN_P hN⟩ rfl rfl hl0.1 rfl (lv_room (Nat.le_of_ble_eq_true rfl)) dX4_takeError_39 ⟨Nat.zero_le _, Nat.zero_le _⟩) hS3 (aA_in hAc) (aA_free hAc hA hS3) (fun r4 u4 t4 H4 L4 ht4 hvm4 hw4 hB4 _ _ hS4 => ?_)
  obtain ⟨hP4, hD4⟩ := backW hB4 ht4 (aA_free hAc hA hS3)
  clear hB4 ht4 hvm4 t4
  obtain ⟨hu4, hr4⟩ := hw4
  subst u4; subst r4
  clear hP3 hD3 hS3
  refine lv_asi (y := (v_X4_takeError_7 S p0)) rfl ?_
  refine lv_iadd hx hb dX4_takeError_42 ?_
  refine lv_asi (y := (v_X4_takeError_8 S p0)) rfl ?_
  refine lv_sipush (v := 1024) hx hb dX4_takeError_43 (by decide) ?_
  refine va_calli (va_runS (As := [.int (v_X4_takeError_8 S p0), .int 1024]) (rest := [.ref (a 6)]) ⟨hx, hb, hml, hown, hts⟩ (k_X4_keepWithin l D a cZ cI (s_X4_takeError_5 S p0) H4.size (v_X4_takeError_8 S p0) 1024) (va_cwS 2 hts gX4_takeError_X4_keepWithin rfl rfl rfl (by decide +kernel) ⟨Nat.le_of_ble_eq_true rfl, Nat.le_of_ble_eq_true rfl⟩) ⟨blW okN_P, preW hP4 hK hD4 okN_P hN⟩ rfl rfl hl0.1 rfl (lv_room (Nat.le_of_ble_eq_true rfl)) dX4_takeError_46 ⟨Nat.zero_le _, Nat.zero_le _⟩) hS4 (aA_in hAc) (aA_free hAc hA hS4) (fun r5 u5 t5 H5 L5 ht5 hvm5 hw5 hB5 _ _ hS5 => ?_)
  obtain ⟨hP5, hD5⟩ := backW hB5 ht5 (aA_free hAc hA hS4)
  clear hB5 ht5 hvm5 t5
  obtain ⟨hu5, hr5⟩ := hw5
  subst u5; subst r5
  clear hP4 hD4 hS4
  refine lv_asi (y := (v_X4_takeError_9 S p0)) rfl ?_
  refine va_put (D := D) (ci := 4) (v := .int (v_X4_takeError_9 S p0)) (ty := .int) (C := RX4) (T := TX4) (N := 5) hx hb hts (fun _ h => List.mem_cons_of_mem _ (List.mem_append_right _ (h))) tyX4 tyX4_ok nmX4 hown hK hP5 hD5 hS5 6 rfl rfl 4 (by decide) (hts (.fieldLink RX4 22 "Phaselock$LoopFilter" "control" "I") (List.mem_cons_of_mem _ (List.mem_append_left _ (List.mem_of_getElem? (i := 5) rfl)))) (fun _ h9 => h9) rfl (by decide +kernel) rfl rfl (Nat.le_of_ble_eq_true rfl) dX4_takeError_49 (fun H6 L6 hP6 hD6 hS6 => ?_)
  replace hP6 : va_P D vwCl (wP a cZ cI (s_X4_takeError_10 S p0)) H6 := cvP (wP_s12 a cZ cI (s_X4_takeError_5 S p0) (v_X4_takeError_9 S p0)) hP6
  replace hD6 : va_D A (wP a cZ cI (s_X4_takeError_10 S p0)) := cvD (wP_s12 a cZ cI (s_X4_takeError_5 S p0) (v_X4_takeError_9 S p0)) hD6
  clear hP5 hD5 hS5
  subst hQ; exact W.vret hx hb hr (fun t ht hW => ⟨⟨(s_X4_takeError_10 S p0), rfl, (show (s_X4_takeError_10 S p0) = s_X4_takeError S p0 from rfl), endW hP6 hK hD6 ht hW⟩, hS6.F ht⟩) hS6.2.2 dX4_takeError_52
