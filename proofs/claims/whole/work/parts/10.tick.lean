def v_X10_actOnStrobe_1 (S : St) (p0 : Int32) : Int32 := r_X3_findLevel S
def v_X10_actOnStrobe_2 (S : St) (p0 : Int32) : Int32 := r_X6_measureLate S (v_X10_actOnStrobe_1 S p0)
def s_X10_actOnStrobe_3 (S : St) (p0 : Int32) : St := s_X4_takeError S (v_X10_actOnStrobe_2 S p0)
def v_X10_actOnStrobe_4 (S : St) (p0 : Int32) : Int32 := r_X3_findLevel S
def s_X10_actOnStrobe_5 (S : St) (p0 : Int32) : St := s_X6_keepMiddle S (S.1 7) (v_X10_actOnStrobe_4 S p0)
def v_X10_actOnStrobe_6 (S : St) (p0 : Int32) : Int32 := r_X3_findLevel S
def s_X10_actOnStrobe_7 (S : St) (p0 : Int32) : St := s_X6_keepEarly S (v_X10_actOnStrobe_6 S p0)
def s_X10_actOnStrobe_8 (S : St) (p0 : Int32) : St := s_X10_actOnDataStrobe S
def s_X10_actOnStrobe_9 (S : St) (p0 : Int32) : St := if p0 = 1 then if (S.1 15) = 4 then (s_X10_actOnStrobe_3 S p0) else S else if p0 = 2 then (s_X10_actOnStrobe_5 S p0) else if p0 = 3 then (s_X10_actOnStrobe_7 S p0) else if p0 = 4 then (s_X10_actOnStrobe_8 S p0) else S
def s_X10_actOnStrobe (S : St) (p0 : Int32) : St := (s_X10_actOnStrobe_9 S p0)
def rm_X10_actOnStrobe : Room := { frames := 4, cells := 0, slots := 0, locals := 90 }
set_option maxRecDepth 100000 in
set_option maxHeartbeats 4000000 in
theorem k_X10_actOnStrobe (l : Launch) (D : va_G) (a : Nat → Nat) (cZ cI : ClassId) (S : St) (sz : Nat) (p0 : Int32) : Met l yX10_actOnStrobe wsX10_actOnStrobe rm_X10_actOnStrobe (va_Pc [.ref (a 0), .int p0] (pW D (tyZI cZ cI) (wP a cZ cI S) sz nP)) (va_Qv (fun u : St => u = s_X10_actOnStrobe S p0) (fun u t => oW D (tyZI cZ cI) (wP a cZ cI u) (aA (adP a) sz) t) (aA (adP a) sz)) 0 0 (aA (adP a) sz) := by
  refine Met.ofW (cc := cX10_actOnStrobe) (maxL := 2) (ret := none) (by decide +kernel) rfl ?_
  intro p e s m args below meth c s₁ B hml hv
  obtain ⟨rfl, hsz, hP0, hK, hD9, hN⟩ := hv
  have hx := B.exec
  have hb := B.bytes
  have hr := B.returns
  have hts := atoms_spec (ws := wsX10_actOnStrobe) B.pre
  have hown : s.vm.findClass RX10 = some m.cls := findClass_of_methodNamed B.named
  have hlocks := B.notSynchronized
  subst hsz
  have hD0 := aA_self (sz := s.heap.size) (as := adP a) hD9 rfl
  generalize hAe : aA (adP a) s.heap.size = A at hD0 ⊢
  have hA : ∀ q : Nat, s.heap.size ≤ q → A q := fun q h => by rw [← hAe]; exact Or.inr h
  have hAc : ∀ q : Nat, q ∈ adP a → A q := fun q h => by rw [← hAe]; exact Or.inl h
  have hS0 : va_S A s.heap s.heap [] := va_S.rf
  have hl0 := lv_entry ([.ref (a 0), .int p0]) (n := 2) (Nat.le_of_ble_eq_true rfl)
  rw [lg_entry_eq]
  generalize (lg_sl ([.ref (a 0), .int p0]) ++ List.replicate (2 - (lg_sl ([.ref (a 0), .int p0])).length) Slot.unset).toArray = ls0 at hl0 ⊢
  have hl0 : lv_has ls0 2 [(0, .ref (a 0)), (1, .int p0)] := hl0
  generalize hQ : MQ below _ _ s _ _ _ = Q
  clear hD9 B
  refine lv_iload_n hx hb dX10_actOnStrobe_0 rfl (lv_at hl0 1 rfl) ?_
  have J1_1 : ∀ (H4 : Heap) (L4 : List Loc), va_P D vwCl (wP a cZ cI (s_X10_actOnStrobe_9 S p0)) H4 → va_D A (wP a cZ cI (s_X10_actOnStrobe_9 S p0)) → va_S A s.heap H4 L4 → W p l e (headSpec wsX10_actOnStrobe rm_X10_actOnStrobe).room s m ([.ref (a 0), .int p0] : List Value).toArray below meth c H4 L4 0 0 Q (F0 m 115 ls0 []) := by
    intro H4 L4 hP4 hD4 hS4
    clear hP0 hD0 hS0
    subst hQ; exact W.vret hx hb hr (fun t ht hW => ⟨⟨(s_X10_actOnStrobe_9 S p0), rfl, (show (s_X10_actOnStrobe_9 S p0) = s_X10_actOnStrobe S p0 from rfl), endW hP4 hK hD4 ht hW⟩, hS4.F ht⟩) hS4.2.2 dX10_actOnStrobe_115
  by_cases c1_1 : p0 = 1
  · refine lv_tableIn (off := 31) (tgt := 32) hx hb dX10_actOnStrobe_1 (by rw [c1_1]; decide) (by rw [c1_1]; decide) (by rw [c1_1]; rfl) (by decide) ?_
    refine lv_aload_n hx hb dX10_actOnStrobe_32 rfl (lv_at hl0 0 rfl) ?_
    refine va_get (D := D) (ci := 10) (v := .ref (a 5)) (C := RX10) (T := TX10) (N := 10) hx hb hts (fun _ h => List.mem_cons_of_mem _ (List.mem_append_left _ (List.mem_append_left _ (List.mem_append_left _ (List.mem_append_left _ (List.mem_append_left _ (List.mem_append_left _ (List.mem_append_left _ (List.mem_append_left _ (List.mem_append_right _ (h))))))))))) hown hK hP0 0 rfl rfl 4 (by decide) (hts (.fieldLink RX10 40 "Phaselock" "detector" "LPhaselock$PhaseDetector;") (List.mem_cons_of_mem _ (List.mem_append_left _ (List.mem_append_left _ (List.mem_append_left _ (List.mem_append_left _ (List.mem_append_left _ (List.mem_append_left _ (List.mem_append_left _ (List.mem_append_left _ (List.mem_append_left _ (List.mem_append_left _ (List.mem_of_getElem? (i := 0) rfl))))))))))))) (fun _ h9 => h9) rfl dX10_actOnStrobe_33 ?_
    refine va_get (D := D) (ci := 6) (v := .int (S.1 15)) (C := RX6) (T := TX6) (N := 7) hx hb hts (fun _ h => List.mem_cons_of_mem _ (List.mem_append_left _ (List.mem_append_left _ (List.mem_append_left _ (List.mem_append_left _ (List.mem_append_left _ (List.mem_append_left _ (List.mem_append_left _ (List.mem_append_right _ (h)))))))))) hown hK hP0 5 rfl rfl 0 (by decide) (hts (.fieldLink RX10 107 "Phaselock$PhaseDetector" "kind" "I") (List.mem_cons_of_mem _ (List.mem_append_left _ (List.mem_append_left _ (List.mem_append_left _ (List.mem_append_left _ (List.mem_append_left _ (List.mem_append_left _ (List.mem_append_left _ (List.mem_append_left _ (List.mem_append_left _ (List.mem_append_left _ (List.mem_of_getElem? (i := 1) rfl))))))))))))) (fun _ h9 => h9) rfl dX10_actOnStrobe_36 ?_
    refine lv_iconst (v := 4) hx hb dX10_actOnStrobe_39 (by decide) ?_
    refine lv_icmp_ne (tgt := 115) hx hb dX10_actOnStrobe_40 (by decide) (fun c2_40 => ?_) (fun c2_40 => ?_)
    · exact J1_1 _ _ (va_asS (P := fun u => va_P D vwCl (wP a cZ cI u) s.heap) (show (s_X10_actOnStrobe_9 S p0) = S from ((if_pos c1_1).trans (if_neg c2_40))) hP0) (va_asS (P := fun u => va_D A (wP a cZ cI u)) (show (s_X10_actOnStrobe_9 S p0) = S from ((if_pos c1_1).trans (if_neg c2_40))) hD0) hS0
    · refine lv_aload_n hx hb dX10_actOnStrobe_43 rfl (lv_at hl0 0 rfl) ?_
      refine va_get (D := D) (ci := 10) (v := .ref (a 6)) (C := RX10) (T := TX10) (N := 10) hx hb hts (fun _ h => List.mem_cons_of_mem _ (List.mem_append_left _ (List.mem_append_left _ (List.mem_append_left _ (List.mem_append_left _ (List.mem_append_left _ (List.mem_append_left _ (List.mem_append_left _ (List.mem_append_left _ (List.mem_append_right _ (h))))))))))) hown hK hP0 0 rfl rfl 5 (by decide) (hts (.fieldLink RX10 47 "Phaselock" "filter" "LPhaselock$LoopFilter;") (List.mem_cons_of_mem _ (List.mem_append_left _ (List.mem_append_left _ (List.mem_append_left _ (List.mem_append_left _ (List.mem_append_left _ (List.mem_append_left _ (List.mem_append_left _ (List.mem_append_left _ (List.mem_append_left _ (List.mem_append_left _ (List.mem_of_getElem? (i := 2) rfl))))))))))))) (fun _ h9 => h9) rfl dX10_actOnStrobe_44 ?_
      refine lv_aload_n hx hb dX10_actOnStrobe_47 rfl (lv_at hl0 0 rfl) ?_
      refine va_get (D := D) (ci := 10) (v := .ref (a 5)) (C := RX10) (T := TX10) (N := 10) hx hb hts (fun _ h => List.mem_cons_of_mem _ (List.mem_append_left _ (List.mem_append_left _ (List.mem_append_left _ (List.mem_append_left _ (List.mem_append_left _ (List.mem_append_left _ (List.mem_append_left _ (List.mem_append_left _ (List.mem_append_right _ (h))))))))))) hown hK hP0 0 rfl rfl 4 (by decide) (hts (.fieldLink RX10 40 "Phaselock" "detector" "LPhaselock$PhaseDetector;") (List.mem_cons_of_mem _ (List.mem_append_left _ (List.mem_append_left _ (List.mem_append_left _ (List.mem_append_left _ (List.mem_append_left _ (List.mem_append_left _ (List.mem_append_left _ (List.mem_append_left _ (List.mem_append_left _ (List.mem_append_left _ (List.mem_of_getElem? (i := 0) rfl))))))))))))) (fun _ h9 => h9) rfl dX10_actOnStrobe_48 ?_
      refine lv_aload_n hx hb dX10_actOnStrobe_51 rfl (lv_at hl0 0 rfl) ?_
      refine va_get (D := D) (ci := 10) (v := .ref (a 2)) (C := RX10) (T := TX10) (N := 10) hx hb hts (fun _ h => List.mem_cons_of_mem _ (List.mem_append_left _ (List.mem_append_left _ (List.mem_append_left _ (List.mem_append_left _ (List.mem_append_left _ (List.mem_append_left _ (List.mem_append_left _ (List.mem_append_left _ (List.mem_append_right _ (h))))))))))) hown hK hP0 0 rfl rfl 1 (by decide) (hts (.fieldLink RX10 19 "Phaselock" "memory" "LPhaselock$LineMemory;") (List.mem_cons_of_mem _ (List.mem_append_left _ (List.mem_append_left _ (List.mem_append_left _ (List.mem_append_left _ (List.mem_append_left _ (List.mem_append_left _ (List.mem_append_left _ (List.mem_append_left _ (List.mem_append_left _ (List.mem_append_left _ (List.mem_of_getElem? (i := 3) rfl))))))))))))) (fun _ h9 => h9) rfl dX10_actOnStrobe_52 ?_
      refine va_calli (va_runV (As := []) (rest := [.ref (a 5), .ref (a 6)]) ⟨hx, hb, hml, hown, hts⟩ (k_X3_findLevel l D a cZ cI S s.heap.size) (cwV 0 hts gX10_actOnStrobe_X3_findLevel rfl rfl rfl (by decide +kernel) ⟨Nat.le_of_ble_eq_true rfl, Nat.le_of_ble_eq_true rfl⟩) ⟨blW okN_P, va_recv hK hP0 (ci := 3) (q0 := 2) rfl rfl, preW hP0 hK hD0 okN_P hN⟩ rfl rfl hl0.1 rfl (lv_room (Nat.le_of_ble_eq_true rfl)) dX10_actOnStrobe_55 ⟨Nat.zero_le _, Nat.zero_le _⟩) hS0 (aA_in hAc) (aA_free hAc hA hS0) (fun r1 u1 t1 H1 L1 ht1 hvm1 hw1 hB1 _ _ hS1 => ?_)
      obtain ⟨hP1, hD1⟩ := backW hB1 ht1 (aA_free hAc hA hS0)
      clear hB1 ht1 hvm1 t1
      obtain ⟨hu1, hr1⟩ := hw1
      subst u1; subst r1
      clear hP0 hD0 hS0
      refine lv_asi (y := (v_X10_actOnStrobe_1 S p0)) rfl ?_
      refine va_calli (va_runV (As := [.int (v_X10_actOnStrobe_1 S p0)]) (rest := [.ref (a 6)]) ⟨hx, hb, hml, hown, hts⟩ (k_X6_measureLate l D a cZ cI S H1.size (v_X10_actOnStrobe_1 S p0)) (cwV 1 hts gX10_actOnStrobe_X6_measureLate rfl rfl rfl (by decide +kernel) ⟨Nat.le_of_ble_eq_true rfl, Nat.le_of_ble_eq_true rfl⟩) ⟨blW okN_P, va_recv hK hP1 (ci := 6) (q0 := 5) rfl rfl, preW hP1 hK hD1 okN_P hN⟩ rfl rfl hl0.1 rfl (lv_room (Nat.le_of_ble_eq_true rfl)) dX10_actOnStrobe_58 ⟨Nat.zero_le _, Nat.zero_le _⟩) hS1 (aA_in hAc) (aA_free hAc hA hS1) (fun r2 u2 t2 H2 L2 ht2 hvm2 hw2 hB2 _ _ hS2 => ?_)
      obtain ⟨hP2, hD2⟩ := backW hB2 ht2 (aA_free hAc hA hS1)
      clear hB2 ht2 hvm2 t2
      obtain ⟨hu2, hr2⟩ := hw2
      subst u2; subst r2
      clear hP1 hD1 hS1
      refine lv_asi (y := (v_X10_actOnStrobe_2 S p0)) rfl ?_
      refine va_callv (va_runV (As := [.int (v_X10_actOnStrobe_2 S p0)]) (rest := []) ⟨hx, hb, hml, hown, hts⟩ (k_X4_takeError l D a cZ cI S H2.size (v_X10_actOnStrobe_2 S p0)) (cwV 1 hts gX10_actOnStrobe_X4_takeError rfl rfl rfl (by decide +kernel) ⟨Nat.le_of_ble_eq_true rfl, Nat.le_of_ble_eq_true rfl⟩) ⟨blW okN_P, va_recv hK hP2 (ci := 4) (q0 := 6) rfl rfl, preW hP2 hK hD2 okN_P hN⟩ rfl rfl hl0.1 rfl (lv_room (Nat.le_of_ble_eq_true rfl)) dX10_actOnStrobe_61 ⟨Nat.zero_le _, Nat.zero_le _⟩) hS2 (aA_in hAc) (aA_free hAc hA hS2) (fun u3 t3 H3 L3 ht3 hvm3 hw3 hB3 _ _ hS3 => ?_)
      obtain ⟨hP3, hD3⟩ := backW hB3 ht3 (aA_free hAc hA hS2)
      clear hB3 ht3 hvm3 t3
      have hu3 : u3 = _ := hw3
      clear hw3; subst u3
      replace hP3 : va_P D vwCl (wP a cZ cI (s_X10_actOnStrobe_3 S p0)) H3 := hP3
      replace hD3 : va_D A (wP a cZ cI (s_X10_actOnStrobe_3 S p0)) := hD3
      clear hP2 hD2 hS2
      refine lv_goto (tgt := 115) hx hb dX10_actOnStrobe_64 (by decide) ?_
      exact J1_1 _ _ (va_asS (P := fun u => va_P D vwCl (wP a cZ cI u) H3) (show (s_X10_actOnStrobe_9 S p0) = (s_X10_actOnStrobe_3 S p0) from ((if_pos c1_1).trans (if_pos c2_40))) hP3) (va_asS (P := fun u => va_D A (wP a cZ cI u)) (show (s_X10_actOnStrobe_9 S p0) = (s_X10_actOnStrobe_3 S p0) from ((if_pos c1_1).trans (if_pos c2_40))) hD3) hS3
  · by_cases c3_1 : p0 = 2
    · refine lv_tableIn (off := 66) (tgt := 67) hx hb dX10_actOnStrobe_1 (by rw [c3_1]; decide) (by rw [c3_1]; decide) (by rw [c3_1]; rfl) (by decide) ?_
      refine lv_aload_n hx hb dX10_actOnStrobe_67 rfl (lv_at hl0 0 rfl) ?_
      refine va_get (D := D) (ci := 10) (v := .ref (a 5)) (C := RX10) (T := TX10) (N := 10) hx hb hts (fun _ h => List.mem_cons_of_mem _ (List.mem_append_left _ (List.mem_append_left _ (List.mem_append_left _ (List.mem_append_left _ (List.mem_append_left _ (List.mem_append_left _ (List.mem_append_left _ (List.mem_append_left _ (List.mem_append_right _ (h))))))))))) hown hK hP0 0 rfl rfl 4 (by decide) (hts (.fieldLink RX10 40 "Phaselock" "detector" "LPhaselock$PhaseDetector;") (List.mem_cons_of_mem _ (List.mem_append_left _ (List.mem_append_left _ (List.mem_append_left _ (List.mem_append_left _ (List.mem_append_left _ (List.mem_append_left _ (List.mem_append_left _ (List.mem_append_left _ (List.mem_append_left _ (List.mem_append_left _ (List.mem_of_getElem? (i := 0) rfl))))))))))))) (fun _ h9 => h9) rfl dX10_actOnStrobe_68 ?_
      refine lv_aload_n hx hb dX10_actOnStrobe_71 rfl (lv_at hl0 0 rfl) ?_
      refine va_get (D := D) (ci := 10) (v := .ref (a 1)) (C := RX10) (T := TX10) (N := 10) hx hb hts (fun _ h => List.mem_cons_of_mem _ (List.mem_append_left _ (List.mem_append_left _ (List.mem_append_left _ (List.mem_append_left _ (List.mem_append_left _ (List.mem_append_left _ (List.mem_append_left _ (List.mem_append_left _ (List.mem_append_right _ (h))))))))))) hown hK hP0 0 rfl rfl 0 (by decide) (hts (.fieldLink RX10 10 "Phaselock" "transmitter" "LPhaselock$Transmitter;") (List.mem_cons_of_mem _ (List.mem_append_left _ (List.mem_append_left _ (List.mem_append_left _ (List.mem_append_left _ (List.mem_append_left _ (List.mem_append_left _ (List.mem_append_left _ (List.mem_append_left _ (List.mem_append_left _ (List.mem_append_left _ (List.mem_of_getElem? (i := 4) rfl))))))))))))) (fun _ h9 => h9) rfl dX10_actOnStrobe_72 ?_
      refine va_get (D := D) (ci := 9) (v := .int (S.1 7)) (C := RX9) (T := TX9) (N := 7) hx hb hts (fun _ h => List.mem_cons_of_mem _ (List.mem_append_left _ (List.mem_append_left _ (List.mem_append_left _ (List.mem_append_left _ (List.mem_append_left _ (List.mem_append_left _ (List.mem_append_right _ (h))))))))) hown hK hP0 1 rfl rfl 5 (by decide) (hts (.fieldLink RX10 146 "Phaselock$Transmitter" "value" "I") (List.mem_cons_of_mem _ (List.mem_append_left _ (List.mem_append_left _ (List.mem_append_left _ (List.mem_append_left _ (List.mem_append_left _ (List.mem_append_left _ (List.mem_append_left _ (List.mem_append_left _ (List.mem_append_left _ (List.mem_append_left _ (List.mem_of_getElem? (i := 5) rfl))))))))))))) (fun _ h9 => h9) rfl dX10_actOnStrobe_75 ?_
      refine lv_aload_n hx hb dX10_actOnStrobe_78 rfl (lv_at hl0 0 rfl) ?_
      refine va_get (D := D) (ci := 10) (v := .ref (a 2)) (C := RX10) (T := TX10) (N := 10) hx hb hts (fun _ h => List.mem_cons_of_mem _ (List.mem_append_left _ (List.mem_append_left _ (List.mem_append_left _ (List.mem_append_left _ (List.mem_append_left _ (List.mem_append_left _ (List.mem_append_left _ (List.mem_append_left _ (List.mem_append_right _ (h))))))))))) hown hK hP0 0 rfl rfl 1 (by decide) (hts (.fieldLink RX10 19 "Phaselock" "memory" "LPhaselock$LineMemory;") (List.mem_cons_of_mem _ (List.mem_append_left _ (List.mem_append_left _ (List.mem_append_left _ (List.mem_append_left _ (List.mem_append_left _ (List.mem_append_left _ (List.mem_append_left _ (List.mem_append_left _ (List.mem_append_left _ (List.mem_append_left _ (List.mem_of_getElem? (i := 3) rfl))))))))))))) (fun _ h9 => h9) rfl dX10_actOnStrobe_79 ?_
      refine va_calli (va_runV (As := []) (rest := [.int (S.1 7), .ref (a 5)]) ⟨hx, hb, hml, hown, hts⟩ (k_X3_findLevel l D a cZ cI S s.heap.size) (cwV 0 hts gX10_actOnStrobe_X3_findLevel rfl rfl rfl (by decide +kernel) ⟨Nat.le_of_ble_eq_true rfl, Nat.le_of_ble_eq_true rfl⟩) ⟨blW okN_P, va_recv hK hP0 (ci := 3) (q0 := 2) rfl rfl, preW hP0 hK hD0 okN_P hN⟩ rfl rfl hl0.1 rfl (lv_room (Nat.le_of_ble_eq_true rfl)) dX10_actOnStrobe_82 ⟨Nat.zero_le _, Nat.zero_le _⟩) hS0 (aA_in hAc) (aA_free hAc hA hS0) (fun r1 u1 t1 H1 L1 ht1 hvm1 hw1 hB1 _ _ hS1 => ?_)
      obtain ⟨hP1, hD1⟩ := backW hB1 ht1 (aA_free hAc hA hS0)
      clear hB1 ht1 hvm1 t1
      obtain ⟨hu1, hr1⟩ := hw1
      subst u1; subst r1
      clear hP0 hD0 hS0
      refine lv_asi (y := (v_X10_actOnStrobe_4 S p0)) rfl ?_
      refine va_callv (va_runV (As := [.int (S.1 7), .int (v_X10_actOnStrobe_4 S p0)]) (rest := []) ⟨hx, hb, hml, hown, hts⟩ (k_X6_keepMiddle l D a cZ cI S H1.size (S.1 7) (v_X10_actOnStrobe_4 S p0)) (cwV 2 hts gX10_actOnStrobe_X6_keepMiddle rfl rfl rfl (by decide +kernel) ⟨Nat.le_of_ble_eq_true rfl, Nat.le_of_ble_eq_true rfl⟩) ⟨blW okN_P, va_recv hK hP1 (ci := 6) (q0 := 5) rfl rfl, preW hP1 hK hD1 okN_P hN⟩ rfl rfl hl0.1 rfl (lv_room (Nat.le_of_ble_eq_true rfl)) dX10_actOnStrobe_85 ⟨Nat.zero_le _, Nat.zero_le _⟩) hS1 (aA_in hAc) (aA_free hAc hA hS1) (fun u2 t2 H2 L2 ht2 hvm2 hw2 hB2 _ _ hS2 => ?_)
      obtain ⟨hP2, hD2⟩ := backW hB2 ht2 (aA_free hAc hA hS1)
      clear hB2 ht2 hvm2 t2
      have hu2 : u2 = _ := hw2
      clear hw2; subst u2
      replace hP2 : va_P D vwCl (wP a cZ cI (s_X10_actOnStrobe_5 S p0)) H2 := hP2
      replace hD2 : va_D A (wP a cZ cI (s_X10_actOnStrobe_5 S p0)) := hD2
      clear hP1 hD1 hS1
      refine lv_goto (tgt := 115) hx hb dX10_actOnStrobe_88 (by decide) ?_
      exact J1_1 _ _ (va_asS (P := fun u => va_P D vwCl (wP a cZ cI u) H2) (show (s_X10_actOnStrobe_9 S p0) = (s_X10_actOnStrobe_5 S p0) from ((if_neg c1_1).trans (if_pos c3_1))) hP2) (va_asS (P := fun u => va_D A (wP a cZ cI u)) (show (s_X10_actOnStrobe_9 S p0) = (s_X10_actOnStrobe_5 S p0) from ((if_neg c1_1).trans (if_pos c3_1))) hD2) hS2
    · by_cases c4_1 : p0 = 3
      · refine lv_tableIn (off := 90) (tgt := 91) hx hb dX10_actOnStrobe_1 (by rw [c4_1]; decide) (by rw [c4_1]; decide) (by rw [c4_1]; rfl) (by decide) ?_
        refine lv_aload_n hx hb dX10_actOnStrobe_91 rfl (lv_at hl0 0 rfl) ?_
        refine va_get (D := D) (ci := 10) (v := .ref (a 5)) (C := RX10) (T := TX10) (N := 10) hx hb hts (fun _ h => List.mem_cons_of_mem _ (List.mem_append_left _ (List.mem_append_left _ (List.mem_append_left _ (List.mem_append_left _ (List.mem_append_left _ (List.mem_append_left _ (List.mem_append_left _ (List.mem_append_left _ (List.mem_append_right _ (h))))))))))) hown hK hP0 0 rfl rfl 4 (by decide) (hts (.fieldLink RX10 40 "Phaselock" "detector" "LPhaselock$PhaseDetector;") (List.mem_cons_of_mem _ (List.mem_append_left _ (List.mem_append_left _ (List.mem_append_left _ (List.mem_append_left _ (List.mem_append_left _ (List.mem_append_left _ (List.mem_append_left _ (List.mem_append_left _ (List.mem_append_left _ (List.mem_append_left _ (List.mem_of_getElem? (i := 0) rfl))))))))))))) (fun _ h9 => h9) rfl dX10_actOnStrobe_92 ?_
        refine lv_aload_n hx hb dX10_actOnStrobe_95 rfl (lv_at hl0 0 rfl) ?_
        refine va_get (D := D) (ci := 10) (v := .ref (a 2)) (C := RX10) (T := TX10) (N := 10) hx hb hts (fun _ h => List.mem_cons_of_mem _ (List.mem_append_left _ (List.mem_append_left _ (List.mem_append_left _ (List.mem_append_left _ (List.mem_append_left _ (List.mem_append_left _ (List.mem_append_left _ (List.mem_append_left _ (List.mem_append_right _ (h))))))))))) hown hK hP0 0 rfl rfl 1 (by decide) (hts (.fieldLink RX10 19 "Phaselock" "memory" "LPhaselock$LineMemory;") (List.mem_cons_of_mem _ (List.mem_append_left _ (List.mem_append_left _ (List.mem_append_left _ (List.mem_append_left _ (List.mem_append_left _ (List.mem_append_left _ (List.mem_append_left _ (List.mem_append_left _ (List.mem_append_left _ (List.mem_append_left _ (List.mem_of_getElem? (i := 3) rfl))))))))))))) (fun _ h9 => h9) rfl dX10_actOnStrobe_96 ?_
        refine va_calli (va_runV (As := []) (rest := [.ref (a 5)]) ⟨hx, hb, hml, hown, hts⟩ (k_X3_findLevel l D a cZ cI S s.heap.size) (cwV 0 hts gX10_actOnStrobe_X3_findLevel rfl rfl rfl (by decide +kernel) ⟨Nat.le_of_ble_eq_true rfl, Nat.le_of_ble_eq_true rfl⟩) ⟨blW okN_P, va_recv hK hP0 (ci := 3) (q0 := 2) rfl rfl, preW hP0 hK hD0 okN_P hN⟩ rfl rfl hl0.1 rfl (lv_room (Nat.le_of_ble_eq_true rfl)) dX10_actOnStrobe_99 ⟨Nat.zero_le _, Nat.zero_le _⟩) hS0 (aA_in hAc) (aA_free hAc hA hS0) (fun r1 u1 t1 H1 L1 ht1 hvm1 hw1 hB1 _ _ hS1 => ?_)
        obtain ⟨hP1, hD1⟩ := backW hB1 ht1 (aA_free hAc hA hS0)
        clear hB1 ht1 hvm1 t1
        obtain ⟨hu1, hr1⟩ := hw1
        subst u1; subst r1
        clear hP0 hD0 hS0
        refine lv_asi (y := (v_X10_actOnStrobe_6 S p0)) rfl ?_
        refine va_callv (va_runV (As := [.int (v_X10_actOnStrobe_6 S p0)]) (rest := []) ⟨hx, hb, hml, hown, hts⟩ (k_X6_keepEarly l D a cZ cI S H1.size (v_X10_actOnStrobe_6 S p0)) (cwV 1 hts gX10_actOnStrobe_X6_keepEarly rfl rfl rfl (by decide +kernel) ⟨Nat.le_of_ble_eq_true rfl, Nat.le_of_ble_eq_true rfl⟩) ⟨blW okN_P, va_recv hK hP1 (ci := 6) (q0 := 5) rfl rfl, preW hP1 hK hD1 okN_P hN⟩ rfl rfl hl0.1 rfl (lv_room (Nat.le_of_ble_eq_true rfl)) dX10_actOnStrobe_102 ⟨Nat.zero_le _, Nat.zero_le _⟩) hS1 (aA_in hAc) (aA_free hAc hA hS1) (fun u2 t2 H2 L2 ht2 hvm2 hw2 hB2 _ _ hS2 => ?_)
        obtain ⟨hP2, hD2⟩ := backW hB2 ht2 (aA_free hAc hA hS1)
        clear hB2 ht2 hvm2 t2
        have hu2 : u2 = _ := hw2
        clear hw2; subst u2
        replace hP2 : va_P D vwCl (wP a cZ cI (s_X10_actOnStrobe_7 S p0)) H2 := hP2
        replace hD2 : va_D A (wP a cZ cI (s_X10_actOnStrobe_7 S p0)) := hD2
        clear hP1 hD1 hS1
        refine lv_goto (tgt := 115) hx hb dX10_actOnStrobe_105 (by decide) ?_
        exact J1_1 _ _ (va_asS (P := fun u => va_P D vwCl (wP a cZ cI u) H2) (show (s_X10_actOnStrobe_9 S p0) = (s_X10_actOnStrobe_7 S p0) from ((if_neg c1_1).trans ((if_neg c3_1).trans (if_pos c4_1)))) hP2) (va_asS (P := fun u => va_D A (wP a cZ cI u)) (show (s_X10_actOnStrobe_9 S p0) = (s_X10_actOnStrobe_7 S p0) from ((if_neg c1_1).trans ((if_neg c3_1).trans (if_pos c4_1)))) hD2) hS2
      · by_cases c5_1 : p0 = 4
        · refine lv_tableIn (off := 107) (tgt := 108) hx hb dX10_actOnStrobe_1 (by rw [c5_1]; decide) (by rw [c5_1]; decide) (by rw [c5_1]; rfl) (by decide) ?_
          refine lv_aload_n hx hb dX10_actOnStrobe_108 rfl (lv_at hl0 0 rfl) ?_
          refine va_callv (va_runV (As := []) (rest := []) ⟨hx, hb, hml, hown, hts⟩ (k_X10_actOnDataStrobe l D a cZ cI S s.heap.size) (cwV 0 hts gX10_actOnStrobe_X10_actOnDataStrobe rfl rfl rfl (by decide +kernel) ⟨Nat.le_of_ble_eq_true rfl, Nat.le_of_ble_eq_true rfl⟩) ⟨blW okN_P, va_recv hK hP0 (ci := 10) (q0 := 0) rfl rfl, preW hP0 hK hD0 okN_P hN⟩ rfl rfl hl0.1 rfl (lv_room (Nat.le_of_ble_eq_true rfl)) dX10_actOnStrobe_109 ⟨Nat.zero_le _, Nat.zero_le _⟩) hS0 (aA_in hAc) (aA_free hAc hA hS0) (fun u1 t1 H1 L1 ht1 hvm1 hw1 hB1 _ _ hS1 => ?_)
          obtain ⟨hP1, hD1⟩ := backW hB1 ht1 (aA_free hAc hA hS0)
          clear hB1 ht1 hvm1 t1
          have hu1 : u1 = _ := hw1
          clear hw1; subst u1
          replace hP1 : va_P D vwCl (wP a cZ cI (s_X10_actOnStrobe_8 S p0)) H1 := hP1
          replace hD1 : va_D A (wP a cZ cI (s_X10_actOnStrobe_8 S p0)) := hD1
          clear hP0 hD0 hS0
          refine lv_goto (tgt := 115) hx hb dX10_actOnStrobe_112 (by decide) ?_
          exact J1_1 _ _ (va_asS (P := fun u => va_P D vwCl (wP a cZ cI u) H1) (show (s_X10_actOnStrobe_9 S p0) = (s_X10_actOnStrobe_8 S p0) from ((if_neg c1_1).trans ((if_neg c3_1).trans ((if_neg c4_1).trans (if_pos c5_1))))) hP1) (va_asS (P := fun u => va_D A (wP a cZ cI u)) (show (s_X10_actOnStrobe_9 S p0) = (s_X10_actOnStrobe_8 S p0) from ((if_neg c1_1).trans ((if_neg c3_1).trans ((if_neg c4_1).trans (if_pos c5_1))))) hD1) hS1
        · refine lv_tableOut (tgt := 115) hx hb dX10_actOnStrobe_1 (sw_1_4 c1_1 c3_1 c4_1 c5_1) (by decide) ?_
          exact J1_1 _ _ (va_asS (P := fun u => va_P D vwCl (wP a cZ cI u) s.heap) (show (s_X10_actOnStrobe_9 S p0) = S from ((if_neg c1_1).trans ((if_neg c3_1).trans ((if_neg c4_1).trans (if_neg c5_1))))) hP0) (va_asS (P := fun u => va_D A (wP a cZ cI u)) (show (s_X10_actOnStrobe_9 S p0) = S from ((if_neg c1_1).trans ((if_neg c3_1).trans ((if_neg c4_1).trans (if_neg c5_1))))) hD0) hS0

def s_X10_passTick_1 (S : St) : St := s_X9_advance S
def s_X10_passTick_2 (S : St) : St := s_X3_remember (s_X10_passTick_1 S) ((s_X10_passTick_1 S).1 7)
def v_X10_passTick_3 (S : St) : Int32 := r_X3_hasChangedSince (s_X10_passTick_2 S) 1
def s_X10_passTick_4 (S : St) : St := s_X2_add (s_X10_passTick_2 S) (v_X10_passTick_3 S)
def s_X10_passTick_5 (S : St) : St := s_X6_watchLine (s_X10_passTick_4 S) ((s_X10_passTick_4 S).1 11)
def s_X10_passTick_6 (S : St) : St := s_X5_advance (s_X10_passTick_5 S) ((s_X10_passTick_5 S).1 12)
def v_X10_passTick_7 (S : St) : Int32 := r_X5_advance (s_X10_passTick_5 S) ((s_X10_passTick_5 S).1 12)
def s_X10_passTick_8 (S : St) : St := s_X10_actOnStrobe (s_X10_passTick_6 S) (v_X10_passTick_7 S)
def s_X10_passTick (S : St) : St := (s_X10_passTick_8 S)
def rm_X10_passTick : Room := { frames := 5, cells := 0, slots := 0, locals := 111 }
set_option maxRecDepth 100000 in
set_option maxHeartbeats 4000000 in
theorem k_X10_passTick (l : Launch) (D : va_G) (a : Nat → Nat) (cZ cI : ClassId) (S : St) (sz : Nat) (hj : okJ S) : Met l yX10_passTick wsX10_passTick rm_X10_passTick (va_Pc [.ref (a 0)] (pW D (tyZI cZ cI) (wP a cZ cI S) sz nP)) (va_Qv (fun u : St => u = s_X10_passTick S) (fun u t => oW D (tyZI cZ cI) (wP a cZ cI u) (aA (adP a) sz) t) (aA (adP a) sz)) 0 0 (aA (adP a) sz) := by
  refine Met.ofW (cc := cX10_passTick) (maxL := 1) (ret := none) (by decide +kernel) rfl ?_
  intro p e s m args below meth c s₁ B hml hv
  obtain ⟨rfl, hsz, hP0, hK, hD9, hN⟩ := hv
  have hx := B.exec
  have hb := B.bytes
  have hr := B.returns
  have hts := atoms_spec (ws := wsX10_passTick) B.pre
  have hown : s.vm.findClass RX10 = some m.cls := findClass_of_methodNamed B.named
  have hlocks := B.notSynchronized
  subst hsz
  have hD0 := aA_self (sz := s.heap.size) (as := adP a) hD9 rfl
  generalize hAe : aA (adP a) s.heap.size = A at hD0 ⊢
  have hA : ∀ q : Nat, s.heap.size ≤ q → A q := fun q h => by rw [← hAe]; exact Or.inr h
  have hAc : ∀ q : Nat, q ∈ adP a → A q := fun q h => by rw [← hAe]; exact Or.inl h
  have hS0 : va_S A s.heap s.heap [] := va_S.rf
  have hl0 := lv_entry ([.ref (a 0)]) (n := 1) (Nat.le_of_ble_eq_true rfl)
  rw [lg_entry_eq]
  generalize (lg_sl ([.ref (a 0)]) ++ List.replicate (1 - (lg_sl ([.ref (a 0)])).length) Slot.unset).toArray = ls0 at hl0 ⊢
  have hl0 : lv_has ls0 1 [(0, .ref (a 0))] := hl0
  generalize hQ : MQ below _ _ s _ _ _ = Q
  clear hD9 B
  refine lv_aload_n hx hb dX10_passTick_0 rfl (lv_at hl0 0 rfl) ?_
  refine va_get (D := D) (ci := 10) (v := .ref (a 1)) (C := RX10) (T := TX10) (N := 10) hx hb hts (fun _ h => List.mem_cons_of_mem _ (List.mem_append_left _ (List.mem_append_left _ (List.mem_append_left _ (List.mem_append_left _ (List.mem_append_left _ (List.mem_append_left _ (List.mem_append_left _ (List.mem_append_left _ (List.mem_append_left _ (List.mem_append_left _ (List.mem_append_right _ (h))))))))))))) hown hK hP0 0 rfl rfl 0 (by decide) (hts (.fieldLink RX10 10 "Phaselock" "transmitter" "LPhaselock$Transmitter;") (List.mem_cons_of_mem _ (List.mem_append_left _ (List.mem_append_left _ (List.mem_append_left _ (List.mem_append_left _ (List.mem_append_left _ (List.mem_append_left _ (List.mem_append_left _ (List.mem_append_left _ (List.mem_append_left _ (List.mem_append_left _ (List.mem_append_left _ (List.mem_append_left _ (List.mem_of_getElem? (i := 0) rfl))))))))))))))) (fun _ h9 => h9) rfl dX10_passTick_1 ?_
  refine va_callv (va_runV (As := []) (rest := []) ⟨hx, hb, hml, hown, hts⟩ (k_X9_advance l D a cZ cI S s.heap.size hj) (cwV 0 hts gX10_passTick_X9_advance rfl rfl rfl (by decide +kernel) ⟨Nat.le_of_ble_eq_true rfl, Nat.le_of_ble_eq_true rfl⟩) ⟨blW okN_P, va_recv hK hP0 (ci := 9) (q0 := 1) rfl rfl, preW hP0 hK hD0 okN_P hN⟩ rfl rfl hl0.1 rfl (lv_room (Nat.le_of_ble_eq_true rfl)) dX10_passTick_4 ⟨Nat.zero_le _, Nat.zero_le _⟩) hS0 (aA_in hAc) (aA_free hAc hA hS0) (fun u1 t1 H1 L1 ht1 hvm1 hw1 hB1 _ _ hS1 => ?_)
  obtain ⟨hP1, hD1⟩ := backW hB1 ht1 (aA_free hAc hA hS0)
  clear hB1 ht1 hvm1 t1
  have hu1 : u1 = _ := hw1
  clear hw1; subst u1
  replace hP1 : va_P D vwCl (wP a cZ cI (s_X10_passTick_1 S)) H1 := hP1
  replace hD1 : va_D A (wP a cZ cI (s_X10_passTick_1 S)) := hD1
  clear hP0 hD0 hS0
  refine lv_aload_n hx hb dX10_passTick_7 rfl (lv_at hl0 0 rfl) ?_
  refine va_get (D := D) (ci := 10) (v := .ref (a 2)) (C := RX10) (T := TX10) (N := 10) hx hb hts (fun _ h => List.mem_cons_of_mem _ (List.mem_append_left _ (List.mem_append_left _ (List.mem_append_left _ (List.mem_append_left _ (List.mem_append_left _ (List.mem_append_left _ (List.mem_append_left _ (List.mem_append_left _ (List.mem_append_left _ (List.mem_append_left _ (List.mem_append_right _ (h))))))))))))) hown hK hP1 0 rfl rfl 1 (by decide) (hts (.fieldLink RX10 19 "Phaselock" "memory" "LPhaselock$LineMemory;") (List.mem_cons_of_mem _ (List.mem_append_left _ (List.mem_append_left _ (List.mem_append_left _ (List.mem_append_left _ (List.mem_append_left _ (List.mem_append_left _ (List.mem_append_left _ (List.mem_append_left _ (List.mem_append_left _ (List.mem_append_left _ (List.mem_append_left _ (List.mem_append_left _ (List.mem_of_getElem? (i := 1) rfl))))))))))))))) (fun _ h9 => h9) rfl dX10_passTick_8 ?_
  refine lv_aload_n hx hb dX10_passTick_11 rfl (lv_at hl0 0 rfl) ?_
  refine va_get (D := D) (ci := 10) (v := .ref (a 1)) (C := RX10) (T := TX10) (N := 10) hx hb hts (fun _ h => List.mem_cons_of_mem _ (List.mem_append_left _ (List.mem_append_left _ (List.mem_append_left _ (List.mem_append_left _ (List.mem_append_left _ (List.mem_append_left _ (List.mem_append_left _ (List.mem_append_left _ (List.mem_append_left _ (List.mem_append_left _ (List.mem_append_right _ (h))))))))))))) hown hK hP1 0 rfl rfl 0 (by decide) (hts (.fieldLink RX10 10 "Phaselock" "transmitter" "LPhaselock$Transmitter;") (List.mem_cons_of_mem _ (List.mem_append_left _ (List.mem_append_left _ (List.mem_append_left _ (List.mem_append_left _ (List.mem_append_left _ (List.mem_append_left _ (List.mem_append_left _ (List.mem_append_left _ (List.mem_append_left _ (List.mem_append_left _ (List.mem_append_left _ (List.mem_append_left _ (List.mem_of_getElem? (i := 0) rfl))))))))))))))) (fun _ h9 => h9) rfl dX10_passTick_12 ?_
  refine va_get (D := D) (ci := 9) (v := .int ((s_X10_passTick_1 S).1 7)) (C := RX9) (T := TX9) (N := 7) hx hb hts (fun _ h => List.mem_cons_of_mem _ (List.mem_append_left _ (List.mem_append_left _ (List.mem_append_left _ (List.mem_append_left _ (List.mem_append_left _ (List.mem_append_left _ (List.mem_append_left _ (List.mem_append_left _ (List.mem_append_left _ (List.mem_append_right _ (h)))))))))))) hown hK hP1 1 rfl rfl 5 (by decide) (hts (.fieldLink RX10 146 "Phaselock$Transmitter" "value" "I") (List.mem_cons_of_mem _ (List.mem_append_left _ (List.mem_append_left _ (List.mem_append_left _ (List.mem_append_left _ (List.mem_append_left _ (List.mem_append_left _ (List.mem_append_left _ (List.mem_append_left _ (List.mem_append_left _ (List.mem_append_left _ (List.mem_append_left _ (List.mem_append_left _ (List.mem_of_getElem? (i := 2) rfl))))))))))))))) (fun _ h9 => h9) rfl dX10_passTick_15 ?_
  refine va_callv (va_runV (As := [.int ((s_X10_passTick_1 S).1 7)]) (rest := []) ⟨hx, hb, hml, hown, hts⟩ (k_X3_remember l D a cZ cI (s_X10_passTick_1 S) H1.size ((s_X10_passTick_1 S).1 7)) (cwV 1 hts gX10_passTick_X3_remember rfl rfl rfl (by decide +kernel) ⟨Nat.le_of_ble_eq_true rfl, Nat.le_of_ble_eq_true rfl⟩) ⟨blW okN_P, va_recv hK hP1 (ci := 3) (q0 := 2) rfl rfl, preW hP1 hK hD1 okN_P hN⟩ rfl rfl hl0.1 rfl (lv_room (Nat.le_of_ble_eq_true rfl)) dX10_passTick_18 ⟨Nat.zero_le _, Nat.zero_le _⟩) hS1 (aA_in hAc) (aA_free hAc hA hS1) (fun u2 t2 H2 L2 ht2 hvm2 hw2 hB2 _ _ hS2 => ?_)
  obtain ⟨hP2, hD2⟩ := backW hB2 ht2 (aA_free hAc hA hS1)
  clear hB2 ht2 hvm2 t2
  have hu2 : u2 = _ := hw2
  clear hw2; subst u2
  replace hP2 : va_P D vwCl (wP a cZ cI (s_X10_passTick_2 S)) H2 := hP2
  replace hD2 : va_D A (wP a cZ cI (s_X10_passTick_2 S)) := hD2
  clear hP1 hD1 hS1
  refine lv_aload_n hx hb dX10_passTick_21 rfl (lv_at hl0 0 rfl) ?_
  refine va_get (D := D) (ci := 10) (v := .ref (a 3)) (C := RX10) (T := TX10) (N := 10) hx hb hts (fun _ h => List.mem_cons_of_mem _ (List.mem_append_left _ (List.mem_append_left _ (List.mem_append_left _ (List.mem_append_left _ (List.mem_append_left _ (List.mem_append_left _ (List.mem_append_left _ (List.mem_append_left _ (List.mem_append_left _ (List.mem_append_left _ (List.mem_append_right _ (h))))))))))))) hown hK hP2 0 rfl rfl 2 (by decide) (hts (.fieldLink RX10 26 "Phaselock" "edges" "LPhaselock$EdgeLog;") (List.mem_cons_of_mem _ (List.mem_append_left _ (List.mem_append_left _ (List.mem_append_left _ (List.mem_append_left _ (List.mem_append_left _ (List.mem_append_left _ (List.mem_append_left _ (List.mem_append_left _ (List.mem_append_left _ (List.mem_append_left _ (List.mem_append_left _ (List.mem_append_left _ (List.mem_of_getElem? (i := 3) rfl))))))))))))))) (fun _ h9 => h9) rfl dX10_passTick_22 ?_
  refine lv_aload_n hx hb dX10_passTick_25 rfl (lv_at hl0 0 rfl) ?_
  refine va_get (D := D) (ci := 10) (v := .ref (a 2)) (C := RX10) (T := TX10) (N := 10) hx hb hts (fun _ h => List.mem_cons_of_mem _ (List.mem_append_left _ (List.mem_append_left _ (List.mem_append_left _ (List.mem_append_left _ (List.mem_append_left _ (List.mem_append_left _ (List.mem_append_left _ (List.mem_append_left _ (List.mem_append_left _ (List.mem_append_left _ (List.mem_append_right _ (h))))))))))))) hown hK hP2 0 rfl rfl 1 (by decide) (hts (.fieldLink RX10 19 "Phaselock" "memory" "LPhaselock$LineMemory;") (List.mem_cons_of_mem _ (List.mem_append_left _ (List.mem_append_left _ (List.mem_append_left _ (List.mem_append_left _ (List.mem_append_left _ (List.mem_append_left _ (List.mem_append_left _ (List.mem_append_left _ (List.mem_append_left _ (List.mem_append_left _ (List.mem_append_left _ (List.mem_append_left _ (List.mem_of_getElem? (i := 1) rfl))))))))))))))) (fun _ h9 => h9) rfl dX10_passTick_26 ?_
  refine lv_iconst (v := 1) hx hb dX10_passTick_29 (by decide) ?_
  refine va_calli (va_runV (As := [.int 1]) (rest := [.ref (a 3)]) ⟨hx, hb, hml, hown, hts⟩ (k_X3_hasChangedSince l D a cZ cI (s_X10_passTick_2 S) H2.size 1) (cwV 1 hts gX10_passTick_X3_hasChangedSince rfl rfl rfl (by decide +kernel) ⟨Nat.le_of_ble_eq_true rfl, Nat.le_of_ble_eq_true rfl⟩) ⟨blW okN_P, va_recv hK hP2 (ci := 3) (q0 := 2) rfl rfl, preW hP2 hK hD2 okN_P hN⟩ rfl rfl hl0.1 rfl (lv_room (Nat.le_of_ble_eq_true rfl)) dX10_passTick_30 ⟨Nat.zero_le _, Nat.zero_le _⟩) hS2 (aA_in hAc) (aA_free hAc hA hS2) (fun r3 u3 t3 H3 L3 ht3 hvm3 hw3 hB3 _ _ hS3 => ?_)
  obtain ⟨hP3, hD3⟩ := backW hB3 ht3 (aA_free hAc hA hS2)
  clear hB3 ht3 hvm3 t3
  obtain ⟨hu3, hr3⟩ := hw3
  subst u3; subst r3
  clear hP2 hD2 hS2
  refine lv_asi (y := (v_X10_passTick_3 S)) rfl ?_
  refine va_callv (va_runV (As := [.int (v_X10_passTick_3 S)]) (rest := []) ⟨hx, hb, hml, hown, hts⟩ (k_X2_add l D a cZ cI (s_X10_passTick_2 S) H3.size (v_X10_passTick_3 S)) (cwV 1 hts gX10_passTick_X2_add rfl rfl rfl (by decide +kernel) ⟨Nat.le_of_ble_eq_true rfl, Nat.le_of_ble_eq_true rfl⟩) ⟨blW okN_P, va_recv hK hP3 (ci := 2) (q0 := 3) rfl rfl, preW hP3 hK hD3 okN_P hN⟩ rfl rfl hl0.1 rfl (lv_room (Nat.le_of_ble_eq_true rfl)) dX10_passTick_33 ⟨Nat.zero_le _, Nat.zero_le _⟩) hS3 (aA_in hAc) (aA_free hAc hA hS3) (fun u4 t4 H4 L4 ht4 hvm4 hw4 hB4 _ _ hS4 => ?_)
  obtain ⟨hP4, hD4⟩ := backW hB4 ht4 (aA_free hAc hA hS3)
  clear hB4 ht4 hvm4 t4
  have hu4 : u4 = _ := hw4
  clear hw4; subst u4
  replace hP4 : va_P D vwCl (wP a cZ cI (s_X10_passTick_4 S)) H4 := hP4
  replace hD4 : va_D A (wP a cZ cI (s_X10_passTick_4 S)) := hD4
  clear hP3 hD3 hS3
  refine lv_aload_n hx hb dX10_passTick_36 rfl (lv_at hl0 0 rfl) ?_
  refine va_get (D := D) (ci := 10) (v := .ref (a 5)) (C := RX10) (T := TX10) (N := 10) hx hb hts (fun _ h => List.mem_cons_of_mem _ (List.mem_append_left _ (List.mem_append_left _ (List.mem_append_left _ (List.mem_append_left _ (List.mem_append_left _ (List.mem_append_left _ (List.mem_append_left _ (List.mem_append_left _ (List.mem_append_left _ (List.mem_append_left _ (List.mem_append_right _ (h))))))))))))) hown hK hP4 0 rfl rfl 4 (by decide) (hts (.fieldLink RX10 40 "Phaselock" "detector" "LPhaselock$PhaseDetector;") (List.mem_cons_of_mem _ (List.mem_append_left _ (List.mem_append_left _ (List.mem_append_left _ (List.mem_append_left _ (List.mem_append_left _ (List.mem_append_left _ (List.mem_append_left _ (List.mem_append_left _ (List.mem_append_left _ (List.mem_append_left _ (List.mem_append_left _ (List.mem_append_left _ (List.mem_of_getElem? (i := 4) rfl))))))))))))))) (fun _ h9 => h9) rfl dX10_passTick_37 ?_
  refine lv_aload_n hx hb dX10_passTick_40 rfl (lv_at hl0 0 rfl) ?_
  refine va_get (D := D) (ci := 10) (v := .ref (a 2)) (C := RX10) (T := TX10) (N := 10) hx hb hts (fun _ h => List.mem_cons_of_mem _ (List.mem_append_left _ (List.mem_append_left _ (List.mem_append_left _ (List.mem_append_left _ (List.mem_append_left _ (List.mem_append_left _ (List.mem_append_left _ (List.mem_append_left _ (List.mem_append_left _ (List.mem_append_left _ (List.mem_append_right _ (h))))))))))))) hown hK hP4 0 rfl rfl 1 (by decide) (hts (.fieldLink RX10 19 "Phaselock" "memory" "LPhaselock$LineMemory;") (List.mem_cons_of_mem _ (List.mem_append_left _ (List.mem_append_left _ (List.mem_append_left _ (List.mem_append_left _ (List.mem_append_left _ (List.mem_append_left _ (List.mem_append_left _ (List.mem_append_left _ (List.mem_append_left _ (List.mem_append_left _ (List.mem_append_left _ (List.mem_append_left _ (List.mem_of_getElem? (i := 1) rfl))))))))))))))) (fun _ h9 => h9) rfl dX10_passTick_41 ?_
  refine lv_aload_n hx hb dX10_passTick_44 rfl (lv_at hl0 0 rfl) ?_
  refine va_get (D := D) (ci := 10) (v := .ref (a 4)) (C := RX10) (T := TX10) (N := 10) hx hb hts (fun _ h => List.mem_cons_of_mem _ (List.mem_append_left _ (List.mem_append_left _ (List.mem_append_left _ (List.mem_append_left _ (List.mem_append_left _ (List.mem_append_left _ (List.mem_append_left _ (List.mem_append_left _ (List.mem_append_left _ (List.mem_append_left _ (List.mem_append_right _ (h))))))))))))) hown hK hP4 0 rfl rfl 3 (by decide) (hts (.fieldLink RX10 33 "Phaselock" "oscillator" "LPhaselock$Oscillator;") (List.mem_cons_of_mem _ (List.mem_append_left _ (List.mem_append_left _ (List.mem_append_left _ (List.mem_append_left _ (List.mem_append_left _ (List.mem_append_left _ (List.mem_append_left _ (List.mem_append_left _ (List.mem_append_left _ (List.mem_append_left _ (List.mem_append_left _ (List.mem_append_left _ (List.mem_of_getElem? (i := 5) rfl))))))))))))))) (fun _ h9 => h9) rfl dX10_passTick_45 ?_
  refine va_get (D := D) (ci := 5) (v := .int ((s_X10_passTick_4 S).1 11)) (C := RX5) (T := TX5) (N := 1) hx hb hts (fun _ h => List.mem_cons_of_mem _ (List.mem_append_left _ (List.mem_append_left _ (List.mem_append_left _ (List.mem_append_left _ (List.mem_append_left _ (List.mem_append_left _ (List.mem_append_left _ (List.mem_append_left _ (List.mem_append_right _ (h))))))))))) hown hK hP4 4 rfl rfl 0 (by decide) (hts (.fieldLink RX10 123 "Phaselock$Oscillator" "phase" "I") (List.mem_cons_of_mem _ (List.mem_append_left _ (List.mem_append_left _ (List.mem_append_left _ (List.mem_append_left _ (List.mem_append_left _ (List.mem_append_left _ (List.mem_append_left _ (List.mem_append_left _ (List.mem_append_left _ (List.mem_append_left _ (List.mem_append_left _ (List.mem_append_left _ (List.mem_of_getElem? (i := 6) rfl))))))))))))))) (fun _ h9 => h9) rfl dX10_passTick_48 ?_
  refine va_callv (va_runV (As := [.ref (a 2), .int ((s_X10_passTick_4 S).1 11)]) (rest := []) ⟨hx, hb, hml, hown, hts⟩ (k_X6_watchLine l D a cZ cI (s_X10_passTick_4 S) H4.size ((s_X10_passTick_4 S).1 11)) (cwV 2 hts gX10_passTick_X6_watchLine rfl rfl rfl (by decide +kernel) ⟨Nat.le_of_ble_eq_true rfl, Nat.le_of_ble_eq_true rfl⟩) ⟨blW okN_P, va_recv hK hP4 (ci := 6) (q0 := 5) rfl rfl, preW hP4 hK hD4 okN_P hN⟩ rfl rfl hl0.1 rfl (lv_room (Nat.le_of_ble_eq_true rfl)) dX10_passTick_51 ⟨Nat.zero_le _, Nat.zero_le _⟩) hS4 (aA_in hAc) (aA_free hAc hA hS4) (fun u5 t5 H5 L5 ht5 hvm5 hw5 hB5 _ _ hS5 => ?_)
  obtain ⟨hP5, hD5⟩ := backW hB5 ht5 (aA_free hAc hA hS4)
  clear hB5 ht5 hvm5 t5
  have hu5 : u5 = _ := hw5
  clear hw5; subst u5
  replace hP5 : va_P D vwCl (wP a cZ cI (s_X10_passTick_5 S)) H5 := hP5
  replace hD5 : va_D A (wP a cZ cI (s_X10_passTick_5 S)) := hD5
  clear hP4 hD4 hS4
  refine lv_aload_n hx hb dX10_passTick_54 rfl (lv_at hl0 0 rfl) ?_
  refine lv_aload_n hx hb dX10_passTick_55 rfl (lv_at hl0 0 rfl) ?_
  refine va_get (D := D) (ci := 10) (v := .ref (a 4)) (C := RX10) (T := TX10) (N := 10) hx hb hts (fun _ h => List.mem_cons_of_mem _ (List.mem_append_left _ (List.mem_append_left _ (List.mem_append_left _ (List.mem_append_left _ (List.mem_append_left _ (List.mem_append_left _ (List.mem_append_left _ (List.mem_append_left _ (List.mem_append_left _ (List.mem_append_left _ (List.mem_append_right _ (h))))))))))))) hown hK hP5 0 rfl rfl 3 (by decide) (hts (.fieldLink RX10 33 "Phaselock" "oscillator" "LPhaselock$Oscillator;") (List.mem_cons_of_mem _ (List.mem_append_left _ (List.mem_append_left _ (List.mem_append_left _ (List.mem_append_left _ (List.mem_append_left _ (List.mem_append_left _ (List.mem_append_left _ (List.mem_append_left _ (List.mem_append_left _ (List.mem_append_left _ (List.mem_append_left _ (List.mem_append_left _ (List.mem_of_getElem? (i := 5) rfl))))))))))))))) (fun _ h9 => h9) rfl dX10_passTick_56 ?_
  refine lv_aload_n hx hb dX10_passTick_59 rfl (lv_at hl0 0 rfl) ?_
  refine va_get (D := D) (ci := 10) (v := .ref (a 6)) (C := RX10) (T := TX10) (N := 10) hx hb hts (fun _ h => List.mem_cons_of_mem _ (List.mem_append_left _ (List.mem_append_left _ (List.mem_append_left _ (List.mem_append_left _ (List.mem_append_left _ (List.mem_append_left _ (List.mem_append_left _ (List.mem_append_left _ (List.mem_append_left _ (List.mem_append_left _ (List.mem_append_right _ (h))))))))))))) hown hK hP5 0 rfl rfl 5 (by decide) (hts (.fieldLink RX10 47 "Phaselock" "filter" "LPhaselock$LoopFilter;") (List.mem_cons_of_mem _ (List.mem_append_left _ (List.mem_append_left _ (List.mem_append_left _ (List.mem_append_left _ (List.mem_append_left _ (List.mem_append_left _ (List.mem_append_left _ (List.mem_append_left _ (List.mem_append_left _ (List.mem_append_left _ (List.mem_append_left _ (List.mem_append_left _ (List.mem_of_getElem? (i := 7) rfl))))))))))))))) (fun _ h9 => h9) rfl dX10_passTick_60 ?_
  refine va_get (D := D) (ci := 4) (v := .int ((s_X10_passTick_5 S).1 12)) (C := RX4) (T := TX4) (N := 5) hx hb hts (fun _ h => List.mem_cons_of_mem _ (List.mem_append_left _ (List.mem_append_left _ (List.mem_append_left _ (List.mem_append_left _ (List.mem_append_left _ (List.mem_append_left _ (List.mem_append_left _ (List.mem_append_right _ (h)))))))))) hown hK hP5 6 rfl rfl 4 (by decide) (hts (.fieldLink RX10 129 "Phaselock$LoopFilter" "control" "I") (List.mem_cons_of_mem _ (List.mem_append_left _ (List.mem_append_left _ (List.mem_append_left _ (List.mem_append_left _ (List.mem_append_left _ (List.mem_append_left _ (List.mem_append_left _ (List.mem_append_left _ (List.mem_append_left _ (List.mem_append_left _ (List.mem_append_left _ (List.mem_append_left _ (List.mem_of_getElem? (i := 8) rfl))))))))))))))) (fun _ h9 => h9) rfl dX10_passTick_63 ?_
  refine va_calli (va_runV (As := [.int ((s_X10_passTick_5 S).1 12)]) (rest := [.ref (a 0)]) ⟨hx, hb, hml, hown, hts⟩ (k_X5_advance l D a cZ cI (s_X10_passTick_5 S) H5.size ((s_X10_passTick_5 S).1 12)) (cwV 1 hts gX10_passTick_X5_advance rfl rfl rfl (by decide +kernel) ⟨Nat.le_of_ble_eq_true rfl, Nat.le_of_ble_eq_true rfl⟩) ⟨blW okN_P, va_recv hK hP5 (ci := 5) (q0 := 4) rfl rfl, preW hP5 hK hD5 okN_P hN⟩ rfl rfl hl0.1 rfl (lv_room (Nat.le_of_ble_eq_true rfl)) dX10_passTick_66 ⟨Nat.zero_le _, Nat.zero_le _⟩) hS5 (aA_in hAc) (aA_free hAc hA hS5) (fun r6 u6 t6 H6 L6 ht6 hvm6 hw6 hB6 _ _ hS6 => ?_)
  obtain ⟨hP6, hD6⟩ := backW hB6 ht6 (aA_free hAc hA hS5)
  clear hB6 ht6 hvm6 t6
  obtain ⟨hu6, hr6⟩ := hw6
  subst u6; subst r6
  replace hP6 : va_P D vwCl (wP a cZ cI (s_X10_passTick_6 S)) H6 := hP6
  replace hD6 : va_D A (wP a cZ cI (s_X10_passTick_6 S)) := hD6
  clear hP5 hD5 hS5
  refine lv_asi (y := (v_X10_passTick_7 S)) rfl ?_
  refine va_callv (va_runV (As := [.int (v_X10_passTick_7 S)]) (rest := []) ⟨hx, hb, hml, hown, hts⟩ (k_X10_actOnStrobe l D a cZ cI (s_X10_passTick_6 S) H6.size (v_X10_passTick_7 S)) (cwV 1 hts gX10_passTick_X10_actOnStrobe rfl rfl rfl (by decide +kernel) ⟨Nat.le_of_ble_eq_true rfl, Nat.le_of_ble_eq_true rfl⟩) ⟨blW okN_P, va_recv hK hP6 (ci := 10) (q0 := 0) rfl rfl, preW hP6 hK hD6 okN_P hN⟩ rfl rfl hl0.1 rfl (lv_room (Nat.le_of_ble_eq_true rfl)) dX10_passTick_69 ⟨Nat.zero_le _, Nat.zero_le _⟩) hS6 (aA_in hAc) (aA_free hAc hA hS6) (fun u7 t7 H7 L7 ht7 hvm7 hw7 hB7 _ _ hS7 => ?_)
  obtain ⟨hP7, hD7⟩ := backW hB7 ht7 (aA_free hAc hA hS6)
  clear hB7 ht7 hvm7 t7
  have hu7 : u7 = _ := hw7
  clear hw7; subst u7
  replace hP7 : va_P D vwCl (wP a cZ cI (s_X10_passTick_8 S)) H7 := hP7
  replace hD7 : va_D A (wP a cZ cI (s_X10_passTick_8 S)) := hD7
  clear hP6 hD6 hS6
  subst hQ; exact W.vret hx hb hr (fun t ht hW => ⟨⟨(s_X10_passTick_8 S), rfl, (show (s_X10_passTick_8 S) = s_X10_passTick S from rfl), endW hP7 hK hD7 ht hW⟩, hS7.F ht⟩) hS7.2.2 dX10_passTick_72
