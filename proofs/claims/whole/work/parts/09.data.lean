def v_X10_actOnDataStrobe_1 (S : St) : Int32 := r_X3_findLevel S
def v_X10_actOnDataStrobe_2 (S : St) : Int32 := r_X6_measureAtData S (S.1 7) (v_X10_actOnDataStrobe_1 S)
def s_X10_actOnDataStrobe_3 (S : St) : St := s_X4_takeError S (v_X10_actOnDataStrobe_2 S)
def s_X10_actOnDataStrobe_4 (S : St) : St := if (S.1 15) = 4 then S else (s_X10_actOnDataStrobe_3 S)
def s_X10_actOnDataStrobe_5 (S : St) : St := s_X6_finishBit (s_X10_actOnDataStrobe_4 S) (v_X10_actOnDataStrobe_1 S)
def s_X10_actOnDataStrobe_6 (S : St) : St := s_X1_add (s_X10_actOnDataStrobe_5 S) (S.1 7)
def s_X10_actOnDataStrobe_7 (S : St) : St := s_X8_compare (s_X10_actOnDataStrobe_6 S) ((s_X10_actOnDataStrobe_6 S).1 5)
def v_X10_actOnDataStrobe_8 (S : St) : Int32 := r_X8_compare (s_X10_actOnDataStrobe_6 S) ((s_X10_actOnDataStrobe_6 S).1 5)
def v_X10_actOnDataStrobe_9 (S : St) : Int32 := ((s_X10_actOnDataStrobe_7 S).1 1) - 32768
def s_X10_actOnDataStrobe_10 (S : St) : St := s_X7_add (s_X10_actOnDataStrobe_7 S) (v_X10_actOnDataStrobe_9 S) (v_X10_actOnDataStrobe_8 S)
def v_X10_actOnDataStrobe_11 (S : St) : Int32 := r_X1_endsWithSyncWord (s_X10_actOnDataStrobe_10 S)
def s_X10_actOnDataStrobe_12 (S : St) : St := s_X0_take (s_X10_actOnDataStrobe_10 S) (v_X10_actOnDataStrobe_11 S)
def s_X10_actOnDataStrobe (S : St) : St := (s_X10_actOnDataStrobe_12 S)
def rm_X10_actOnDataStrobe : Room := { frames := 3, cells := 0, slots := 0, locals := 67 }
set_option maxRecDepth 100000 in
set_option maxHeartbeats 4000000 in
theorem k_X10_actOnDataStrobe (l : Launch) (D : va_G) (a : Nat → Nat) (cZ cI : ClassId) (S : St) (sz : Nat) : Met l yX10_actOnDataStrobe wsX10_actOnDataStrobe rm_X10_actOnDataStrobe (va_Pc [.ref (a 0)] (pW D (tyZI cZ cI) (wP a cZ cI S) sz nP)) (va_Qv (fun u : St => u = s_X10_actOnDataStrobe S) (fun u t => oW D (tyZI cZ cI) (wP a cZ cI u) (aA (adP a) sz) t) (aA (adP a) sz)) 0 0 (aA (adP a) sz) := by
  refine Met.ofW (cc := cX10_actOnDataStrobe) (maxL := 4) (ret := none) (by decide +kernel) rfl ?_
  intro p e s m args below meth c s₁ B hml hv
  obtain ⟨rfl, hsz, hP0, hK, hD9, hN⟩ := hv
  have hx := B.exec
  have hb := B.bytes
  have hr := B.returns
  have hts := atoms_spec (ws := wsX10_actOnDataStrobe) B.pre
  have hown : s.vm.findClass RX10 = some m.cls := findClass_of_methodNamed B.named
  have hlocks := B.notSynchronized
  subst hsz
  have hD0 := aA_self (sz := s.heap.size) (as := adP a) hD9 rfl
  generalize hAe : aA (adP a) s.heap.size = A at hD0 ⊢
  have hA : ∀ q : Nat, s.heap.size ≤ q → A q := fun q h => by rw [← hAe]; exact Or.inr h
  have hAc : ∀ q : Nat, q ∈ adP a → A q := fun q h => by rw [← hAe]; exact Or.inl h
  have hS0 : va_S A s.heap s.heap [] := va_S.rf
  have hl0 := lv_entry ([.ref (a 0)]) (n := 4) (Nat.le_of_ble_eq_true rfl)
  rw [lg_entry_eq]
  generalize (lg_sl ([.ref (a 0)]) ++ List.replicate (4 - (lg_sl ([.ref (a 0)])).length) Slot.unset).toArray = ls0 at hl0 ⊢
  have hl0 : lv_has ls0 4 [(0, .ref (a 0))] := hl0
  generalize hQ : MQ below _ _ s _ _ _ = Q
  clear hD9 B
  refine lv_aload_n hx hb dX10_actOnDataStrobe_0 rfl (lv_at hl0 0 rfl) ?_
  refine va_get (D := D) (ci := 10) (v := .ref (a 1)) (C := RX10) (T := TX10) (N := 10) hx hb hts (fun _ h => List.mem_cons_of_mem _ (List.mem_append_left _ (List.mem_append_left _ (List.mem_append_left _ (List.mem_append_left _ (List.mem_append_left _ (List.mem_append_left _ (List.mem_append_left _ (List.mem_append_left _ (List.mem_append_right _ (h))))))))))) hown hK hP0 0 rfl rfl 0 (by decide) (hts (.fieldLink RX10 10 "Phaselock" "transmitter" "LPhaselock$Transmitter;") (List.mem_cons_of_mem _ (List.mem_append_left _ (List.mem_append_left _ (List.mem_append_left _ (List.mem_append_left _ (List.mem_append_left _ (List.mem_append_left _ (List.mem_append_left _ (List.mem_append_left _ (List.mem_append_left _ (List.mem_append_left _ (List.mem_of_getElem? (i := 0) rfl))))))))))))) (fun _ h9 => h9) rfl dX10_actOnDataStrobe_1 ?_
  refine va_get (D := D) (ci := 9) (v := .int (S.1 7)) (C := RX9) (T := TX9) (N := 7) hx hb hts (fun _ h => List.mem_cons_of_mem _ (List.mem_append_left _ (List.mem_append_left _ (List.mem_append_left _ (List.mem_append_left _ (List.mem_append_left _ (List.mem_append_left _ (List.mem_append_left _ (List.mem_append_right _ (h)))))))))) hown hK hP0 1 rfl rfl 5 (by decide) (hts (.fieldLink RX10 146 "Phaselock$Transmitter" "value" "I") (List.mem_cons_of_mem _ (List.mem_append_left _ (List.mem_append_left _ (List.mem_append_left _ (List.mem_append_left _ (List.mem_append_left _ (List.mem_append_left _ (List.mem_append_left _ (List.mem_append_left _ (List.mem_append_left _ (List.mem_append_left _ (List.mem_of_getElem? (i := 1) rfl))))))))))))) (fun _ h9 => h9) rfl dX10_actOnDataStrobe_4 ?_
  refine lv_istore_n (lv' := [(1, .int (S.1 7)), (0, .ref (a 0))]) hx hb dX10_actOnDataStrobe_7 rfl hl0 (by decide) rfl (fun ls1 hl1 => ?_)
  clear hl0
  refine lv_aload_n hx hb dX10_actOnDataStrobe_8 rfl (lv_at hl1 1 rfl) ?_
  refine va_get (D := D) (ci := 10) (v := .ref (a 2)) (C := RX10) (T := TX10) (N := 10) hx hb hts (fun _ h => List.mem_cons_of_mem _ (List.mem_append_left _ (List.mem_append_left _ (List.mem_append_left _ (List.mem_append_left _ (List.mem_append_left _ (List.mem_append_left _ (List.mem_append_left _ (List.mem_append_left _ (List.mem_append_right _ (h))))))))))) hown hK hP0 0 rfl rfl 1 (by decide) (hts (.fieldLink RX10 19 "Phaselock" "memory" "LPhaselock$LineMemory;") (List.mem_cons_of_mem _ (List.mem_append_left _ (List.mem_append_left _ (List.mem_append_left _ (List.mem_append_left _ (List.mem_append_left _ (List.mem_append_left _ (List.mem_append_left _ (List.mem_append_left _ (List.mem_append_left _ (List.mem_append_left _ (List.mem_of_getElem? (i := 2) rfl))))))))))))) (fun _ h9 => h9) rfl dX10_actOnDataStrobe_9 ?_
  refine va_calli (va_runV (As := []) (rest := []) ⟨hx, hb, hml, hown, hts⟩ (k_X3_findLevel l D a cZ cI S s.heap.size) (cwV 0 hts gX10_actOnDataStrobe_X3_findLevel rfl rfl rfl (by decide +kernel) ⟨Nat.le_of_ble_eq_true rfl, Nat.le_of_ble_eq_true rfl⟩) ⟨blW okN_P, va_recv hK hP0 (ci := 3) (q0 := 2) rfl rfl, preW hP0 hK hD0 okN_P hN⟩ rfl rfl hl1.1 rfl (lv_room (Nat.le_of_ble_eq_true rfl)) dX10_actOnDataStrobe_12 ⟨Nat.zero_le _, Nat.zero_le _⟩) hS0 (aA_in hAc) (aA_free hAc hA hS0) (fun r1 u1 t1 H1 L1 ht1 hvm1 hw1 hB1 _ _ hS1 => ?_)
  obtain ⟨hP1, hD1⟩ := backW hB1 ht1 (aA_free hAc hA hS0)
  clear hB1 ht1 hvm1 t1
  obtain ⟨hu1, hr1⟩ := hw1
  subst u1; subst r1
  clear hP0 hD0 hS0
  refine lv_asi (y := (v_X10_actOnDataStrobe_1 S)) rfl ?_
  refine lv_istore_n (lv' := [(2, .int (v_X10_actOnDataStrobe_1 S)), (1, .int (S.1 7)), (0, .ref (a 0))]) hx hb dX10_actOnDataStrobe_15 rfl hl1 (by decide) rfl (fun ls2 hl2 => ?_)
  clear hl1
  refine lv_aload_n hx hb dX10_actOnDataStrobe_16 rfl (lv_at hl2 2 rfl) ?_
  refine va_get (D := D) (ci := 10) (v := .ref (a 5)) (C := RX10) (T := TX10) (N := 10) hx hb hts (fun _ h => List.mem_cons_of_mem _ (List.mem_append_left _ (List.mem_append_left _ (List.mem_append_left _ (List.mem_append_left _ (List.mem_append_left _ (List.mem_append_left _ (List.mem_append_left _ (List.mem_append_left _ (List.mem_append_right _ (h))))))))))) hown hK hP1 0 rfl rfl 4 (by decide) (hts (.fieldLink RX10 40 "Phaselock" "detector" "LPhaselock$PhaseDetector;") (List.mem_cons_of_mem _ (List.mem_append_left _ (List.mem_append_left _ (List.mem_append_left _ (List.mem_append_left _ (List.mem_append_left _ (List.mem_append_left _ (List.mem_append_left _ (List.mem_append_left _ (List.mem_append_left _ (List.mem_append_left _ (List.mem_of_getElem? (i := 3) rfl))))))))))))) (fun _ h9 => h9) rfl dX10_actOnDataStrobe_17 ?_
  refine va_get (D := D) (ci := 6) (v := .int (S.1 15)) (C := RX6) (T := TX6) (N := 7) hx hb hts (fun _ h => List.mem_cons_of_mem _ (List.mem_append_left _ (List.mem_append_left _ (List.mem_append_left _ (List.mem_append_left _ (List.mem_append_left _ (List.mem_append_left _ (List.mem_append_right _ (h))))))))) hown hK hP1 5 rfl rfl 0 (by decide) (hts (.fieldLink RX10 107 "Phaselock$PhaseDetector" "kind" "I") (List.mem_cons_of_mem _ (List.mem_append_left _ (List.mem_append_left _ (List.mem_append_left _ (List.mem_append_left _ (List.mem_append_left _ (List.mem_append_left _ (List.mem_append_left _ (List.mem_append_left _ (List.mem_append_left _ (List.mem_append_left _ (List.mem_of_getElem? (i := 4) rfl))))))))))))) (fun _ h9 => h9) rfl dX10_actOnDataStrobe_20 ?_
  refine lv_iconst (v := 4) hx hb dX10_actOnDataStrobe_23 (by decide) ?_
  have J1_24 : ∀ (H4 : Heap) (L4 : List Loc), va_P D vwCl (wP a cZ cI (s_X10_actOnDataStrobe_4 S)) H4 → va_D A (wP a cZ cI (s_X10_actOnDataStrobe_4 S)) → va_S A s.heap H4 L4 → W p l e (headSpec wsX10_actOnDataStrobe rm_X10_actOnDataStrobe).room s m ([.ref (a 0)] : List Value).toArray below meth c H4 L4 0 0 Q (F0 m 47 ls2 []) := by
    intro H4 L4 hP4 hD4 hS4
    clear hP1 hD1 hS1
    refine lv_aload_n hx hb dX10_actOnDataStrobe_47 rfl (lv_at hl2 2 rfl) ?_
    refine va_get (D := D) (ci := 10) (v := .ref (a 5)) (C := RX10) (T := TX10) (N := 10) hx hb hts (fun _ h => List.mem_cons_of_mem _ (List.mem_append_left _ (List.mem_append_left _ (List.mem_append_left _ (List.mem_append_left _ (List.mem_append_left _ (List.mem_append_left _ (List.mem_append_left _ (List.mem_append_left _ (List.mem_append_right _ (h))))))))))) hown hK hP4 0 rfl rfl 4 (by decide) (hts (.fieldLink RX10 40 "Phaselock" "detector" "LPhaselock$PhaseDetector;") (List.mem_cons_of_mem _ (List.mem_append_left _ (List.mem_append_left _ (List.mem_append_left _ (List.mem_append_left _ (List.mem_append_left _ (List.mem_append_left _ (List.mem_append_left _ (List.mem_append_left _ (List.mem_append_left _ (List.mem_append_left _ (List.mem_of_getElem? (i := 3) rfl))))))))))))) (fun _ h9 => h9) rfl dX10_actOnDataStrobe_48 ?_
    refine lv_iload_n hx hb dX10_actOnDataStrobe_51 rfl (lv_at hl2 0 rfl) ?_
    refine va_callv (va_runV (As := [.int (v_X10_actOnDataStrobe_1 S)]) (rest := []) ⟨hx, hb, hml, hown, hts⟩ (k_X6_finishBit l D a cZ cI (s_X10_actOnDataStrobe_4 S) H4.size (v_X10_actOnDataStrobe_1 S)) (cwV 1 hts gX10_actOnDataStrobe_X6_finishBit rfl rfl rfl (by decide +kernel) ⟨Nat.le_of_ble_eq_true rfl, Nat.le_of_ble_eq_true rfl⟩) ⟨blW okN_P, va_recv hK hP4 (ci := 6) (q0 := 5) rfl rfl, preW hP4 hK hD4 okN_P hN⟩ rfl rfl hl2.1 rfl (lv_room (Nat.le_of_ble_eq_true rfl)) dX10_actOnDataStrobe_52 ⟨Nat.zero_le _, Nat.zero_le _⟩) hS4 (aA_in hAc) (aA_free hAc hA hS4) (fun u5 t5 H5 L5 ht5 hvm5 hw5 hB5 _ _ hS5 => ?_)
    obtain ⟨hP5, hD5⟩ := backW hB5 ht5 (aA_free hAc hA hS4)
    clear hB5 ht5 hvm5 t5
    have hu5 : u5 = _ := hw5
    clear hw5; subst u5
    replace hP5 : va_P D vwCl (wP a cZ cI (s_X10_actOnDataStrobe_5 S)) H5 := hP5
    replace hD5 : va_D A (wP a cZ cI (s_X10_actOnDataStrobe_5 S)) := hD5
    clear hP4 hD4 hS4
    refine lv_aload_n hx hb dX10_actOnDataStrobe_55 rfl (lv_at hl2 2 rfl) ?_
    refine va_get (D := D) (ci := 10) (v := .ref (a 7)) (C := RX10) (T := TX10) (N := 10) hx hb hts (fun _ h => List.mem_cons_of_mem _ (List.mem_append_left _ (List.mem_append_left _ (List.mem_append_left _ (List.mem_append_left _ (List.mem_append_left _ (List.mem_append_left _ (List.mem_append_left _ (List.mem_append_left _ (List.mem_append_right _ (h))))))))))) hown hK hP5 0 rfl rfl 6 (by decide) (hts (.fieldLink RX10 54 "Phaselock" "bits" "LPhaselock$BitLog;") (List.mem_cons_of_mem _ (List.mem_append_left _ (List.mem_append_left _ (List.mem_append_left _ (List.mem_append_left _ (List.mem_append_left _ (List.mem_append_left _ (List.mem_append_left _ (List.mem_append_left _ (List.mem_append_left _ (List.mem_append_left _ (List.mem_of_getElem? (i := 6) rfl))))))))))))) (fun _ h9 => h9) rfl dX10_actOnDataStrobe_56 ?_
    refine lv_iload_n hx hb dX10_actOnDataStrobe_59 rfl (lv_at hl2 1 rfl) ?_
    refine va_callv (va_runV (As := [.int (S.1 7)]) (rest := []) ⟨hx, hb, hml, hown, hts⟩ (k_X1_add l D a cZ cI (s_X10_actOnDataStrobe_5 S) H5.size (S.1 7)) (cwV 1 hts gX10_actOnDataStrobe_X1_add rfl rfl rfl (by decide +kernel) ⟨Nat.le_of_ble_eq_true rfl, Nat.le_of_ble_eq_true rfl⟩) ⟨blW okN_P, va_recv hK hP5 (ci := 1) (q0 := 7) rfl rfl, preW hP5 hK hD5 okN_P hN⟩ rfl rfl hl2.1 rfl (lv_room (Nat.le_of_ble_eq_true rfl)) dX10_actOnDataStrobe_60 ⟨Nat.zero_le _, Nat.zero_le _⟩) hS5 (aA_in hAc) (aA_free hAc hA hS5) (fun u6 t6 H6 L6 ht6 hvm6 hw6 hB6 _ _ hS6 => ?_)
    obtain ⟨hP6, hD6⟩ := backW hB6 ht6 (aA_free hAc hA hS5)
    clear hB6 ht6 hvm6 t6
    have hu6 : u6 = _ := hw6
    clear hw6; subst u6
    replace hP6 : va_P D vwCl (wP a cZ cI (s_X10_actOnDataStrobe_6 S)) H6 := hP6
    replace hD6 : va_D A (wP a cZ cI (s_X10_actOnDataStrobe_6 S)) := hD6
    clear hP5 hD5 hS5
    refine lv_aload_n hx hb dX10_actOnDataStrobe_63 rfl (lv_at hl2 2 rfl) ?_
    refine va_get (D := D) (ci := 10) (v := .ref (a 8)) (C := RX10) (T := TX10) (N := 10) hx hb hts (fun _ h => List.mem_cons_of_mem _ (List.mem_append_left _ (List.mem_append_left _ (List.mem_append_left _ (List.mem_append_left _ (List.mem_append_left _ (List.mem_append_left _ (List.mem_append_left _ (List.mem_append_left _ (List.mem_append_right _ (h))))))))))) hown hK hP6 0 rfl rfl 7 (by decide) (hts (.fieldLink RX10 61 "Phaselock" "slips" "LPhaselock$SlipCounter;") (List.mem_cons_of_mem _ (List.mem_append_left _ (List.mem_append_left _ (List.mem_append_left _ (List.mem_append_left _ (List.mem_append_left _ (List.mem_append_left _ (List.mem_append_left _ (List.mem_append_left _ (List.mem_append_left _ (List.mem_append_left _ (List.mem_of_getElem? (i := 7) rfl))))))))))))) (fun _ h9 => h9) rfl dX10_actOnDataStrobe_64 ?_
    refine lv_aload_n hx hb dX10_actOnDataStrobe_67 rfl (lv_at hl2 2 rfl) ?_
    refine va_get (D := D) (ci := 10) (v := .ref (a 1)) (C := RX10) (T := TX10) (N := 10) hx hb hts (fun _ h => List.mem_cons_of_mem _ (List.mem_append_left _ (List.mem_append_left _ (List.mem_append_left _ (List.mem_append_left _ (List.mem_append_left _ (List.mem_append_left _ (List.mem_append_left _ (List.mem_append_left _ (List.mem_append_right _ (h))))))))))) hown hK hP6 0 rfl rfl 0 (by decide) (hts (.fieldLink RX10 10 "Phaselock" "transmitter" "LPhaselock$Transmitter;") (List.mem_cons_of_mem _ (List.mem_append_left _ (List.mem_append_left _ (List.mem_append_left _ (List.mem_append_left _ (List.mem_append_left _ (List.mem_append_left _ (List.mem_append_left _ (List.mem_append_left _ (List.mem_append_left _ (List.mem_append_left _ (List.mem_of_getElem? (i := 0) rfl))))))))))))) (fun _ h9 => h9) rfl dX10_actOnDataStrobe_68 ?_
    refine va_get (D := D) (ci := 9) (v := .int ((s_X10_actOnDataStrobe_6 S).1 5)) (C := RX9) (T := TX9) (N := 7) hx hb hts (fun _ h => List.mem_cons_of_mem _ (List.mem_append_left _ (List.mem_append_left _ (List.mem_append_left _ (List.mem_append_left _ (List.mem_append_left _ (List.mem_append_left _ (List.mem_append_left _ (List.mem_append_right _ (h)))))))))) hown hK hP6 1 rfl rfl 4 (by decide) (hts (.fieldLink RX10 143 "Phaselock$Transmitter" "number" "I") (List.mem_cons_of_mem _ (List.mem_append_left _ (List.mem_append_left _ (List.mem_append_left _ (List.mem_append_left _ (List.mem_append_left _ (List.mem_append_left _ (List.mem_append_left _ (List.mem_append_left _ (List.mem_append_left _ (List.mem_append_left _ (List.mem_of_getElem? (i := 8) rfl))))))))))))) (fun _ h9 => h9) rfl dX10_actOnDataStrobe_71 ?_
    refine va_calli (va_runV (As := [.int ((s_X10_actOnDataStrobe_6 S).1 5)]) (rest := []) ⟨hx, hb, hml, hown, hts⟩ (k_X8_compare l D a cZ cI (s_X10_actOnDataStrobe_6 S) H6.size ((s_X10_actOnDataStrobe_6 S).1 5)) (cwV 1 hts gX10_actOnDataStrobe_X8_compare rfl rfl rfl (by decide +kernel) ⟨Nat.le_of_ble_eq_true rfl, Nat.le_of_ble_eq_true rfl⟩) ⟨blW okN_P, va_recv hK hP6 (ci := 8) (q0 := 8) rfl rfl, preW hP6 hK hD6 okN_P hN⟩ rfl rfl hl2.1 rfl (lv_room (Nat.le_of_ble_eq_true rfl)) dX10_actOnDataStrobe_74 ⟨Nat.zero_le _, Nat.zero_le _⟩) hS6 (aA_in hAc) (aA_free hAc hA hS6) (fun r7 u7 t7 H7 L7 ht7 hvm7 hw7 hB7 _ _ hS7 => ?_)
    obtain ⟨hP7, hD7⟩ := backW hB7 ht7 (aA_free hAc hA hS6)
    clear hB7 ht7 hvm7 t7
    obtain ⟨hu7, hr7⟩ := hw7
    subst u7; subst r7
    replace hP7 : va_P D vwCl (wP a cZ cI (s_X10_actOnDataStrobe_7 S)) H7 := hP7
    replace hD7 : va_D A (wP a cZ cI (s_X10_actOnDataStrobe_7 S)) := hD7
    clear hP6 hD6 hS6
    refine lv_asi (y := (v_X10_actOnDataStrobe_8 S)) rfl ?_
    refine lv_istore_n (lv' := [(3, .int (v_X10_actOnDataStrobe_8 S)), (2, .int (v_X10_actOnDataStrobe_1 S)), (1, .int (S.1 7)), (0, .ref (a 0))]) hx hb dX10_actOnDataStrobe_77 rfl hl2 (by decide) rfl (fun ls3 hl3 => ?_)
    clear hl2
    refine lv_aload_n hx hb dX10_actOnDataStrobe_78 rfl (lv_at hl3 3 rfl) ?_
    refine va_get (D := D) (ci := 10) (v := .ref (a 9)) (C := RX10) (T := TX10) (N := 10) hx hb hts (fun _ h => List.mem_cons_of_mem _ (List.mem_append_left _ (List.mem_append_left _ (List.mem_append_left _ (List.mem_append_left _ (List.mem_append_left _ (List.mem_append_left _ (List.mem_append_left _ (List.mem_append_left _ (List.mem_append_right _ (h))))))))))) hown hK hP7 0 rfl rfl 8 (by decide) (hts (.fieldLink RX10 68 "Phaselock" "phases" "LPhaselock$PhaseLog;") (List.mem_cons_of_mem _ (List.mem_append_left _ (List.mem_append_left _ (List.mem_append_left _ (List.mem_append_left _ (List.mem_append_left _ (List.mem_append_left _ (List.mem_append_left _ (List.mem_append_left _ (List.mem_append_left _ (List.mem_append_left _ (List.mem_of_getElem? (i := 9) rfl))))))))))))) (fun _ h9 => h9) rfl dX10_actOnDataStrobe_79 ?_
    refine lv_aload_n hx hb dX10_actOnDataStrobe_82 rfl (lv_at hl3 3 rfl) ?_
    refine va_get (D := D) (ci := 10) (v := .ref (a 1)) (C := RX10) (T := TX10) (N := 10) hx hb hts (fun _ h => List.mem_cons_of_mem _ (List.mem_append_left _ (List.mem_append_left _ (List.mem_append_left _ (List.mem_append_left _ (List.mem_append_left _ (List.mem_append_left _ (List.mem_append_left _ (List.mem_append_left _ (List.mem_append_right _ (h))))))))))) hown hK hP7 0 rfl rfl 0 (by decide) (hts (.fieldLink RX10 10 "Phaselock" "transmitter" "LPhaselock$Transmitter;") (List.mem_cons_of_mem _ (List.mem_append_left _ (List.mem_append_left _ (List.mem_append_left _ (List.mem_append_left _ (List.mem_append_left _ (List.mem_append_left _ (List.mem_append_left _ (List.mem_append_left _ (List.mem_append_left _ (List.mem_append_left _ (List.mem_of_getElem? (i := 0) rfl))))))))))))) (fun _ h9 => h9) rfl dX10_actOnDataStrobe_83 ?_
    refine va_get (D := D) (ci := 9) (v := .int ((s_X10_actOnDataStrobe_7 S).1 1)) (C := RX9) (T := TX9) (N := 7) hx hb hts (fun _ h => List.mem_cons_of_mem _ (List.mem_append_left _ (List.mem_append_left _ (List.mem_append_left _ (List.mem_append_left _ (List.mem_append_left _ (List.mem_append_left _ (List.mem_append_left _ (List.mem_append_right _ (h)))))))))) hown hK hP7 1 rfl rfl 0 (by decide) (hts (.fieldLink RX10 153 "Phaselock$Transmitter" "phase" "I") (List.mem_cons_of_mem _ (List.mem_append_left _ (List.mem_append_left _ (List.mem_append_left _ (List.mem_append_left _ (List.mem_append_left _ (List.mem_append_left _ (List.mem_append_left _ (List.mem_append_left _ (List.mem_append_left _ (List.mem_append_left _ (List.mem_of_getElem? (i := 10) rfl))))))))))))) (fun _ h9 => h9) rfl dX10_actOnDataStrobe_86 ?_
    refine lv_ldcw (v := 32768) hx hb hown (hts (.constant RX10 257 (32768)) (List.mem_cons_of_mem _ (List.mem_append_left _ (List.mem_append_left _ (List.mem_append_left _ (List.mem_append_left _ (List.mem_append_left _ (List.mem_append_left _ (List.mem_append_left _ (List.mem_append_left _ (List.mem_append_left _ (List.mem_append_left _ (List.mem_of_getElem? (i := 11) rfl))))))))))))) dX10_actOnDataStrobe_89 ?_
    refine lv_isub hx hb dX10_actOnDataStrobe_92 ?_
    refine lv_asi (y := (v_X10_actOnDataStrobe_9 S)) rfl ?_
    refine lv_iload_n hx hb dX10_actOnDataStrobe_93 rfl (lv_at hl3 0 rfl) ?_
    refine va_callv (va_runV (As := [.int (v_X10_actOnDataStrobe_9 S), .int (v_X10_actOnDataStrobe_8 S)]) (rest := []) ⟨hx, hb, hml, hown, hts⟩ (k_X7_add l D a cZ cI (s_X10_actOnDataStrobe_7 S) H7.size (v_X10_actOnDataStrobe_9 S) (v_X10_actOnDataStrobe_8 S)) (cwV 2 hts gX10_actOnDataStrobe_X7_add rfl rfl rfl (by decide +kernel) ⟨Nat.le_of_ble_eq_true rfl, Nat.le_of_ble_eq_true rfl⟩) ⟨blW okN_P, va_recv hK hP7 (ci := 7) (q0 := 9) rfl rfl, preW hP7 hK hD7 okN_P hN⟩ rfl rfl hl3.1 rfl (lv_room (Nat.le_of_ble_eq_true rfl)) dX10_actOnDataStrobe_94 ⟨Nat.zero_le _, Nat.zero_le _⟩) hS7 (aA_in hAc) (aA_free hAc hA hS7) (fun u8 t8 H8 L8 ht8 hvm8 hw8 hB8 _ _ hS8 => ?_)
    obtain ⟨hP8, hD8⟩ := backW hB8 ht8 (aA_free hAc hA hS7)
    clear hB8 ht8 hvm8 t8
    have hu8 : u8 = _ := hw8
    clear hw8; subst u8
    replace hP8 : va_P D vwCl (wP a cZ cI (s_X10_actOnDataStrobe_10 S)) H8 := hP8
    replace hD8 : va_D A (wP a cZ cI (s_X10_actOnDataStrobe_10 S)) := hD8
    clear hP7 hD7 hS7
    refine lv_aload_n hx hb dX10_actOnDataStrobe_97 rfl (lv_at hl3 3 rfl) ?_
    refine va_get (D := D) (ci := 10) (v := .ref (a 10)) (C := RX10) (T := TX10) (N := 10) hx hb hts (fun _ h => List.mem_cons_of_mem _ (List.mem_append_left _ (List.mem_append_left _ (List.mem_append_left _ (List.mem_append_left _ (List.mem_append_left _ (List.mem_append_left _ (List.mem_append_left _ (List.mem_append_left _ (List.mem_append_right _ (h))))))))))) hown hK hP8 0 rfl rfl 9 (by decide) (hts (.fieldLink RX10 75 "Phaselock" "aligner" "LPhaselock$Aligner;") (List.mem_cons_of_mem _ (List.mem_append_left _ (List.mem_append_left _ (List.mem_append_left _ (List.mem_append_left _ (List.mem_append_left _ (List.mem_append_left _ (List.mem_append_left _ (List.mem_append_left _ (List.mem_append_left _ (List.mem_append_left _ (List.mem_of_getElem? (i := 12) rfl))))))))))))) (fun _ h9 => h9) rfl dX10_actOnDataStrobe_98 ?_
    refine lv_aload_n hx hb dX10_actOnDataStrobe_101 rfl (lv_at hl3 3 rfl) ?_
    refine va_get (D := D) (ci := 10) (v := .ref (a 7)) (C := RX10) (T := TX10) (N := 10) hx hb hts (fun _ h => List.mem_cons_of_mem _ (List.mem_append_left _ (List.mem_append_left _ (List.mem_append_left _ (List.mem_append_left _ (List.mem_append_left _ (List.mem_append_left _ (List.mem_append_left _ (List.mem_append_left _ (List.mem_append_right _ (h))))))))))) hown hK hP8 0 rfl rfl 6 (by decide) (hts (.fieldLink RX10 54 "Phaselock" "bits" "LPhaselock$BitLog;") (List.mem_cons_of_mem _ (List.mem_append_left _ (List.mem_append_left _ (List.mem_append_left _ (List.mem_append_left _ (List.mem_append_left _ (List.mem_append_left _ (List.mem_append_left _ (List.mem_append_left _ (List.mem_append_left _ (List.mem_append_left _ (List.mem_of_getElem? (i := 6) rfl))))))))))))) (fun _ h9 => h9) rfl dX10_actOnDataStrobe_102 ?_
    refine va_calli (va_runV (As := []) (rest := [.ref (a 10)]) ⟨hx, hb, hml, hown, hts⟩ (k_X1_endsWithSyncWord l D a cZ cI (s_X10_actOnDataStrobe_10 S) H8.size) (cwV 0 hts gX10_actOnDataStrobe_X1_endsWithSyncWord rfl rfl rfl (by decide +kernel) ⟨Nat.le_of_ble_eq_true rfl, Nat.le_of_ble_eq_true rfl⟩) ⟨blW okN_P, va_recv hK hP8 (ci := 1) (q0 := 7) rfl rfl, preW hP8 hK hD8 okN_P hN⟩ rfl rfl hl3.1 rfl (lv_room (Nat.le_of_ble_eq_true rfl)) dX10_actOnDataStrobe_105 ⟨Nat.zero_le _, Nat.zero_le _⟩) hS8 (aA_in hAc) (aA_free hAc hA hS8) (fun r9 u9 t9 H9 L9 ht9 hvm9 hw9 hB9 _ _ hS9 => ?_)
    obtain ⟨hP9, hD9⟩ := backW hB9 ht9 (aA_free hAc hA hS8)
    clear hB9 ht9 hvm9 t9
    obtain ⟨hu9, hr9⟩ := hw9
    subst u9; subst r9
    clear hP8 hD8 hS8
    refine lv_asi (y := (v_X10_actOnDataStrobe_11 S)) rfl ?_
    refine va_callv (va_runV (As := [.int (v_X10_actOnDataStrobe_11 S)]) (rest := []) ⟨hx, hb, hml, hown, hts⟩ (k_X0_take l D a cZ cI (s_X10_actOnDataStrobe_10 S) H9.size (v_X10_actOnDataStrobe_11 S)) (cwV 1 hts gX10_actOnDataStrobe_X0_take rfl rfl rfl (by decide +kernel) ⟨Nat.le_of_ble_eq_true rfl, Nat.le_of_ble_eq_true rfl⟩) ⟨blW okN_P, va_recv hK hP9 (ci := 0) (q0 := 10) rfl rfl, preW hP9 hK hD9 okN_P hN⟩ rfl rfl hl3.1 rfl (lv_room (Nat.le_of_ble_eq_true rfl)) dX10_actOnDataStrobe_108 ⟨Nat.zero_le _, Nat.zero_le _⟩) hS9 (aA_in hAc) (aA_free hAc hA hS9) (fun u10 t10 H10 L10 ht10 hvm10 hw10 hB10 _ _ hS10 => ?_)
    obtain ⟨hP10, hD10⟩ := backW hB10 ht10 (aA_free hAc hA hS9)
    clear hB10 ht10 hvm10 t10
    have hu10 : u10 = _ := hw10
    clear hw10; subst u10
    replace hP10 : va_P D vwCl (wP a cZ cI (s_X10_actOnDataStrobe_12 S)) H10 := hP10
    replace hD10 : va_D A (wP a cZ cI (s_X10_actOnDataStrobe_12 S)) := hD10
    clear hP9 hD9 hS9
    subst hQ; exact W.vret hx hb hr (fun t ht hW => ⟨⟨(s_X10_actOnDataStrobe_12 S), rfl, (show (s_X10_actOnDataStrobe_12 S) = s_X10_actOnDataStrobe S from rfl), endW hP10 hK hD10 ht hW⟩, hS10.F ht⟩) hS10.2.2 dX10_actOnDataStrobe_111
  refine lv_icmp_eq (tgt := 47) hx hb dX10_actOnDataStrobe_24 (by decide) (fun c1_24 => ?_) (fun c1_24 => ?_)
  · exact J1_24 _ _ (va_asS (P := fun u => va_P D vwCl (wP a cZ cI u) H1) (show (s_X10_actOnDataStrobe_4 S) = S from (if_pos c1_24)) hP1) (va_asS (P := fun u => va_D A (wP a cZ cI u)) (show (s_X10_actOnDataStrobe_4 S) = S from (if_pos c1_24)) hD1) hS1
  · refine lv_aload_n hx hb dX10_actOnDataStrobe_27 rfl (lv_at hl2 2 rfl) ?_
    refine va_get (D := D) (ci := 10) (v := .ref (a 6)) (C := RX10) (T := TX10) (N := 10) hx hb hts (fun _ h => List.mem_cons_of_mem _ (List.mem_append_left _ (List.mem_append_left _ (List.mem_append_left _ (List.mem_append_left _ (List.mem_append_left _ (List.mem_append_left _ (List.mem_append_left _ (List.mem_append_left _ (List.mem_append_right _ (h))))))))))) hown hK hP1 0 rfl rfl 5 (by decide) (hts (.fieldLink RX10 47 "Phaselock" "filter" "LPhaselock$LoopFilter;") (List.mem_cons_of_mem _ (List.mem_append_left _ (List.mem_append_left _ (List.mem_append_left _ (List.mem_append_left _ (List.mem_append_left _ (List.mem_append_left _ (List.mem_append_left _ (List.mem_append_left _ (List.mem_append_left _ (List.mem_append_left _ (List.mem_of_getElem? (i := 5) rfl))))))))))))) (fun _ h9 => h9) rfl dX10_actOnDataStrobe_28 ?_
    refine lv_aload_n hx hb dX10_actOnDataStrobe_31 rfl (lv_at hl2 2 rfl) ?_
    refine va_get (D := D) (ci := 10) (v := .ref (a 5)) (C := RX10) (T := TX10) (N := 10) hx hb hts (fun _ h => List.mem_cons_of_mem _ (List.mem_append_left _ (List.mem_append_left _ (List.mem_append_left _ (List.mem_append_left _ (List.mem_append_left _ (List.mem_append_left _ (List.mem_append_left _ (List.mem_append_left _ (List.mem_append_right _ (h))))))))))) hown hK hP1 0 rfl rfl 4 (by decide) (hts (.fieldLink RX10 40 "Phaselock" "detector" "LPhaselock$PhaseDetector;") (List.mem_cons_of_mem _ (List.mem_append_left _ (List.mem_append_left _ (List.mem_append_left _ (List.mem_append_left _ (List.mem_append_left _ (List.mem_append_left _ (List.mem_append_left _ (List.mem_append_left _ (List.mem_append_left _ (List.mem_append_left _ (List.mem_of_getElem? (i := 3) rfl))))))))))))) (fun _ h9 => h9) rfl dX10_actOnDataStrobe_32 ?_
    refine lv_iload_n hx hb dX10_actOnDataStrobe_35 rfl (lv_at hl2 1 rfl) ?_
    refine lv_iload_n hx hb dX10_actOnDataStrobe_36 rfl (lv_at hl2 0 rfl) ?_
    refine lv_aload_n hx hb dX10_actOnDataStrobe_37 rfl (lv_at hl2 2 rfl) ?_
    refine va_get (D := D) (ci := 10) (v := .ref (a 7)) (C := RX10) (T := TX10) (N := 10) hx hb hts (fun _ h => List.mem_cons_of_mem _ (List.mem_append_left _ (List.mem_append_left _ (List.mem_append_left _ (List.mem_append_left _ (List.mem_append_left _ (List.mem_append_left _ (List.mem_append_left _ (List.mem_append_left _ (List.mem_append_right _ (h))))))))))) hown hK hP1 0 rfl rfl 6 (by decide) (hts (.fieldLink RX10 54 "Phaselock" "bits" "LPhaselock$BitLog;") (List.mem_cons_of_mem _ (List.mem_append_left _ (List.mem_append_left _ (List.mem_append_left _ (List.mem_append_left _ (List.mem_append_left _ (List.mem_append_left _ (List.mem_append_left _ (List.mem_append_left _ (List.mem_append_left _ (List.mem_append_left _ (List.mem_of_getElem? (i := 6) rfl))))))))))))) (fun _ h9 => h9) rfl dX10_actOnDataStrobe_38 ?_
    refine va_calli (va_runV (As := [.int (S.1 7), .int (v_X10_actOnDataStrobe_1 S), .ref (a 7)]) (rest := [.ref (a 6)]) ⟨hx, hb, hml, hown, hts⟩ (k_X6_measureAtData l D a cZ cI S H1.size (S.1 7) (v_X10_actOnDataStrobe_1 S)) (cwV 3 hts gX10_actOnDataStrobe_X6_measureAtData rfl rfl rfl (by decide +kernel) ⟨Nat.le_of_ble_eq_true rfl, Nat.le_of_ble_eq_true rfl⟩) ⟨blW okN_P, va_recv hK hP1 (ci := 6) (q0 := 5) rfl rfl, preW hP1 hK hD1 okN_P hN⟩ rfl rfl hl2.1 rfl (lv_room (Nat.le_of_ble_eq_true rfl)) dX10_actOnDataStrobe_41 ⟨Nat.zero_le _, Nat.zero_le _⟩) hS1 (aA_in hAc) (aA_free hAc hA hS1) (fun r2 u2 t2 H2 L2 ht2 hvm2 hw2 hB2 _ _ hS2 => ?_)
    obtain ⟨hP2, hD2⟩ := backW hB2 ht2 (aA_free hAc hA hS1)
    clear hB2 ht2 hvm2 t2
    obtain ⟨hu2, hr2⟩ := hw2
    subst u2; subst r2
    clear hP1 hD1 hS1
    refine lv_asi (y := (v_X10_actOnDataStrobe_2 S)) rfl ?_
    refine va_callv (va_runV (As := [.int (v_X10_actOnDataStrobe_2 S)]) (rest := []) ⟨hx, hb, hml, hown, hts⟩ (k_X4_takeError l D a cZ cI S H2.size (v_X10_actOnDataStrobe_2 S)) (cwV 1 hts gX10_actOnDataStrobe_X4_takeError rfl rfl rfl (by decide +kernel) ⟨Nat.le_of_ble_eq_true rfl, Nat.le_of_ble_eq_true rfl⟩) ⟨blW okN_P, va_recv hK hP2 (ci := 4) (q0 := 6) rfl rfl, preW hP2 hK hD2 okN_P hN⟩ rfl rfl hl2.1 rfl (lv_room (Nat.le_of_ble_eq_true rfl)) dX10_actOnDataStrobe_44 ⟨Nat.zero_le _, Nat.zero_le _⟩) hS2 (aA_in hAc) (aA_free hAc hA hS2) (fun u3 t3 H3 L3 ht3 hvm3 hw3 hB3 _ _ hS3 => ?_)
    obtain ⟨hP3, hD3⟩ := backW hB3 ht3 (aA_free hAc hA hS2)
    clear hB3 ht3 hvm3 t3
    have hu3 : u3 = _ := hw3
    clear hw3; subst u3
    replace hP3 : va_P D vwCl (wP a cZ cI (s_X10_actOnDataStrobe_3 S)) H3 := hP3
    replace hD3 : va_D A (wP a cZ cI (s_X10_actOnDataStrobe_3 S)) := hD3
    clear hP2 hD2 hS2
    exact J1_24 _ _ (va_asS (P := fun u => va_P D vwCl (wP a cZ cI u) H3) (show (s_X10_actOnDataStrobe_4 S) = (s_X10_actOnDataStrobe_3 S) from (if_neg c1_24)) hP3) (va_asS (P := fun u => va_D A (wP a cZ cI u)) (show (s_X10_actOnDataStrobe_4 S) = (s_X10_actOnDataStrobe_3 S) from (if_neg c1_24)) hD3) hS3
