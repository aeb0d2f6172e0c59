def v_X5_hasPassed_1 (S : St) (p0 : Int32) (p1 : Int32) : Int32 := if p1 ≤ p0 then 0 else if (S.1 11) < p1 then 0 else 1
def r_X5_hasPassed (S : St) (p0 : Int32) (p1 : Int32) : Int32 := (v_X5_hasPassed_1 S p0 p1)
def rm_X5_hasPassed : Room := { frames := 0, cells := 0, slots := 0, locals := 0 }
set_option maxRecDepth 100000 in
set_option maxHeartbeats 4000000 in
theorem k_X5_hasPassed (l : Launch) (D : va_G) (a : Nat → Nat) (cZ cI : ClassId) (S : St) (sz : Nat) (p0 : Int32) (p1 : Int32) : Met l yX5_hasPassed wsX5_hasPassed rm_X5_hasPassed (va_Pc [.ref (a 4), .int p0, .int p1] (pW D (tyZI cZ cI) (wP a cZ cI S) sz nP)) (va_Qi (fun (r : Int32) (u : St) => u = S ∧ r = r_X5_hasPassed S p0 p1) (fun u t => oW D (tyZI cZ cI) (wP a cZ cI u) (aA (adP a) sz) t) (aA (adP a) sz)) 0 0 (aA (adP a) sz) := by
  refine Met.ofW (cc := cX5_hasPassed) (maxL := 3) (ret := (some .boolean)) (by decide +kernel) rfl ?_
  intro p e s m args below meth c s₁ B hml hv
  obtain ⟨rfl, hsz, hP0, hK, hD9, hN⟩ := hv
  have hx := B.exec
  have hb := B.bytes
  have hr := B.returns
  have hts := atoms_spec (ws := wsX5_hasPassed) B.pre
  have hown : s.vm.findClass RX5 = some m.cls := findClass_of_methodNamed B.named
  have hlocks := B.notSynchronized
  subst hsz
  have hD0 := aA_self (sz := s.heap.size) (as := adP a) hD9 rfl
  generalize hAe : aA (adP a) s.heap.size = A at hD0 ⊢
  have hA : ∀ q : Nat, s.heap.size ≤ q → A q := fun q h => by rw [← hAe]; exact Or.inr h
  have hAc : ∀ q : Nat, q ∈ adP a → A q := fun q h => by rw [← hAe]; exact Or.inl h
  have hS0 : va_S A s.heap s.heap [] := va_S.rf
  have hl0 := lv_entry ([.ref (a 4), .int p0, .int p1]) (n := 3) (Nat.le_of_ble_eq_true rfl)
  rw [lg_entry_eq]
  generalize (lg_sl ([.ref (a 4), .int p0, .int p1]) ++ List.replicate (3 - (lg_sl ([.ref (a 4), .int p0, .int p1])).length) Slot.unset).toArray = ls0 at hl0 ⊢
  have hl0 : lv_has ls0 3 [(0, .ref (a 4)), (1, .int p0), (2, .int p1)] := hl0
  generalize hQ : MQ below _ _ s _ _ _ = Q
  clear hD9 B
  refine lv_iload_n hx hb dX5_hasPassed_0 rfl (lv_at hl0 1 rfl) ?_
  refine lv_iload_n hx hb dX5_hasPassed_1 rfl (lv_at hl0 2 rfl) ?_
  have J1_2 : W p l e (headSpec wsX5_hasPassed rm_X5_hasPassed).room s m ([.ref (a 4), .int p0, .int p1] : List Value).toArray below meth c s.heap [] 0 0 Q (F0 m 18 ls0 [.int (v_X5_hasPassed_1 S p0 p1)]) := by
    subst hQ; exact W.zret (v := (v_X5_hasPassed_1 S p0 p1)) hx hb hr (by unfold v_X5_hasPassed_1; (repeat' split) <;> decide) (fun t ht hW => ⟨⟨(v_X5_hasPassed_1 S p0 p1), S, rfl, ⟨rfl, (show (v_X5_hasPassed_1 S p0 p1) = r_X5_hasPassed S p0 p1 from rfl)⟩, endW hP0 hK hD0 ht hW⟩, hS0.F ht⟩) hS0.2.2 dX5_hasPassed_18
  refine lv_icmp_ge (tgt := 17) hx hb dX5_hasPassed_2 (by decide) (fun c1_2 => ?_) (fun c1_2 => ?_)
  · refine lv_iconst (v := 0) hx hb dX5_hasPassed_17 (by decide) ?_
    refine lv_asi (y := (v_X5_hasPassed_1 S p0 p1)) (show (v_X5_hasPassed_1 S p0 p1) = 0 from (if_pos c1_2)).symm ?_
    exact J1_2
  · refine lv_aload_n hx hb dX5_hasPassed_5 rfl (lv_at hl0 0 rfl) ?_
    refine va_get (D := D) (ci := 5) (v := .int (S.1 11)) (C := RX5) (T := TX5) (N := 1) hx hb hts (fun _ h => List.mem_cons_of_mem _ (List.mem_append_right _ (h))) hown hK hP0 4 rfl rfl 0 (by decide) (hts (.fieldLink RX5 9 "Phaselock$Oscillator" "phase" "I") (List.mem_cons_of_mem _ (List.mem_append_left _ (List.mem_of_getElem? (i := 0) rfl)))) (fun _ h9 => h9) rfl dX5_hasPassed_6 ?_
    refine lv_iload_n hx hb dX5_hasPassed_9 rfl (lv_at hl0 2 rfl) ?_
    refine lv_icmp_lt (tgt := 17) hx hb dX5_hasPassed_10 (by decide) (fun c2_10 => ?_) (fun c2_10 => ?_)
    · refine lv_iconst (v := 0) hx hb dX5_hasPassed_17 (by decide) ?_
      refine lv_asi (y := (v_X5_hasPassed_1 S p0 p1)) (show (v_X5_hasPassed_1 S p0 p1) = 0 from ((if_neg c1_2).trans (if_pos c2_10))).symm ?_
      exact J1_2
    · refine lv_iconst (v := 1) hx hb dX5_hasPassed_13 (by decide) ?_
      refine lv_goto (tgt := 18) hx hb dX5_hasPassed_14 (by decide) ?_
      refine lv_asi (y := (v_X5_hasPassed_1 S p0 p1)) (show (v_X5_hasPassed_1 S p0 p1) = 1 from ((if_neg c1_2).trans (if_neg c2_10))).symm ?_
      exact J1_2
theorem z_X5_hasPassed (S : St) (p0 : Int32) (p1 : Int32) : narrow .boolean (.int (r_X5_hasPassed S p0 p1)) = .int (r_X5_hasPassed S p0 p1) := by
  unfold r_X5_hasPassed
  first
    | ((repeat' split) <;> decide)
    | (simp only [v_X5_hasPassed_1]; (repeat' split) <;> decide)

def v_X5_advance_1 (S : St) (p0 : Int32) : Int32 := 4096 + p0
def v_X5_advance_2 (S : St) (p0 : Int32) : Int32 := (S.1 11) + (v_X5_advance_1 S p0)
def s_X5_advance_3 (S : St) (p0 : Int32) : St := si S 11 (v_X5_advance_2 S p0)
def v_X5_advance_4 (S : St) (p0 : Int32) : Int32 := r_X5_hasPassed (s_X5_advance_3 S p0) (S.1 11) 49152
def v_X5_advance_5 (S : St) (p0 : Int32) : Int32 := r_X5_hasPassed (s_X5_advance_3 S p0) (S.1 11) 32768
def v_X5_advance_6 (S : St) (p0 : Int32) : Int32 := r_X5_hasPassed (s_X5_advance_3 S p0) (S.1 11) 16384
def v_X5_advance_7 (S : St) (p0 : Int32) : Int32 := if (v_X5_advance_6 S p0) = 0 then 0 else 1
def v_X5_advance_11 (S : St) (p0 : Int32) : Int32 := ((s_X5_advance_3 S p0).1 11) - 65536
def s_X5_advance_12 (S : St) (p0 : Int32) : St := si (s_X5_advance_3 S p0) 11 (v_X5_advance_11 S p0)
def s_X5_advance (S : St) (p0 : Int32) : St := if ((s_X5_advance_3 S p0).1 11) < 65536 then if (v_X5_advance_4 S p0) = 0 then if (v_X5_advance_5 S p0) = 0 then (s_X5_advance_3 S p0) else (s_X5_advance_3 S p0) else (s_X5_advance_3 S p0) else (s_X5_advance_12 S p0)
def r_X5_advance (S : St) (p0 : Int32) : Int32 := if ((s_X5_advance_3 S p0).1 11) < 65536 then if (v_X5_advance_4 S p0) = 0 then if (v_X5_advance_5 S p0) = 0 then (v_X5_advance_7 S p0) else 2 else 3 else 4
def rm_X5_advance : Room := { frames := 1, cells := 0, slots := 0, locals := 22 }
set_option maxRecDepth 100000 in
set_option maxHeartbeats 4000000 in
theorem k_X5_advance (l : Launch) (D : va_G) (a : Nat → Nat) (cZ cI : ClassId) (S : St) (sz : Nat) (p0 : Int32) : Met l yX5_advance wsX5_advance rm_X5_advance (va_Pc [.ref (a 4), .int p0] (pW D (tyZI cZ cI) (wP a cZ cI S) sz nP)) (va_Qi (fun (r : Int32) (u : St) => u = s_X5_advance S p0 ∧ r = r_X5_advance S p0) (fun u t => oW D (tyZI cZ cI) (wP a cZ cI u) (aA (adP a) sz) t) (aA (adP a) sz)) 0 0 (aA (adP a) sz) := by
  refine Met.ofW (cc := cX5_advance) (maxL := 3) (ret := (some .int)) (by decide +kernel) rfl ?_
  intro p e s m args below meth c s₁ B hml hv
  obtain ⟨rfl, hsz, hP0, hK, hD9, hN⟩ := hv
  have hx := B.exec
  have hb := B.bytes
  have hr := B.returns
  have hts := atoms_spec (ws := wsX5_advance) B.pre
  have hown : s.vm.findClass RX5 = some m.cls := findClass_of_methodNamed B.named
  have hlocks := B.notSynchronized
  subst hsz
  have hD0 := aA_self (sz := s.heap.size) (as := adP a) hD9 rfl
  generalize hAe : aA (adP a) s.heap.size = A at hD0 ⊢
  have hA : ∀ q : Nat, s.heap.size ≤ q → A q := fun q h => by rw [← hAe]; exact Or.inr h
  have hAc : ∀ q : Nat, q ∈ adP a → A q := fun q h => by rw [← hAe]; exact Or.inl h
  have hS0 : va_S A s.heap s.heap [] := va_S.rf
  have hl0 := lv_entry ([.ref (a 4), .int p0]) (n := 3) (Nat.le_of_ble_eq_true rfl)
  rw [lg_entry_eq]
  generalize (lg_sl ([.ref (a 4), .int p0]) ++ List.replicate (3 - (lg_sl ([.ref (a 4), .int p0])).length) Slot.unset).toArray = ls0 at hl0 ⊢
  have hl0 : lv_has ls0 3 [(0, .ref (a 4)), (1, .int p0)] := hl0
  generalize hQ : MQ below _ _ s _ _ _ = Q
  clear hD9 B
  refine lv_aload_n hx hb dX5_advance_0 rfl (lv_at hl0 0 rfl) ?_
  refine va_get (D := D) (ci := 5) (v := .int (S.1 11)) (C := RX5) (T := TX5) (N := 1) hx hb hts (fun _ h => List.mem_cons_of_mem _ (List.mem_append_right _ (h))) hown hK hP0 4 rfl rfl 0 (by decide) (hts (.fieldLink RX5 9 "Phaselock$Oscillator" "phase" "I") (List.mem_cons_of_mem _ (List.mem_append_left _ (List.mem_of_getElem? (i := 0) rfl)))) (fun _ h9 => h9) rfl dX5_advance_1 ?_
  refine lv_istore_n (lv' := [(2, .int (S.1 11)), (0, .ref (a 4)), (1, .int p0)]) hx hb dX5_advance_4 rfl hl0 (by decide) rfl (fun ls1 hl1 => ?_)
  clear hl0
  refine lv_aload_n hx hb dX5_advance_5 rfl (lv_at hl1 1 rfl) ?_
  refine lv_dup hx hb dX5_advance_6 rfl ?_
  refine va_get (D := D) (ci := 5) (v := .int (S.1 11)) (C := RX5) (T := TX5) (N := 1) hx hb hts (fun _ h => List.mem_cons_of_mem _ (List.mem_append_right _ (h))) hown hK hP0 4 rfl rfl 0 (by decide) (hts (.fieldLink RX5 9 "Phaselock$Oscillator" "phase" "I") (List.mem_cons_of_mem _ (List.mem_append_left _ (List.mem_of_getElem? (i := 0) rfl)))) (fun _ h9 => h9) rfl dX5_advance_7 ?_
  refine lv_sipush (v := 4096) hx hb dX5_advance_10 (by decide) ?_
  refine lv_iload_n hx hb dX5_advance_13 rfl (lv_at hl1 2 rfl) ?_
  refine lv_iadd hx hb dX5_advance_14 ?_
  refine lv_asi (y := (v_X5_advance_1 S p0)) rfl ?_
  refine lv_iadd hx hb dX5_advance_15 ?_
  refine lv_asi (y := (v_X5_advance_2 S p0)) rfl ?_
  refine va_put (D := D) (ci := 5) (v := .int (v_X5_advance_2 S p0)) (ty := .int) (C := RX5) (T := TX5) (N := 1) hx hb hts (fun _ h => List.mem_cons_of_mem _ (List.mem_append_right _ (h))) tyX5 tyX5_ok nmX5 hown hK hP0 hD0 hS0 4 rfl rfl 0 (by decide) (hts (.fieldLink RX5 9 "Phaselock$Oscillator" "phase" "I") (List.mem_cons_of_mem _ (List.mem_append_left _ (List.mem_of_getElem? (i := 0) rfl)))) (fun _ h9 => h9) rfl (by decide +kernel) rfl rfl (Nat.le_of_ble_eq_true rfl) dX5_advance_16 (fun H1 L1 hP1 hD1 hS1 => ?_)
  replace hP1 : va_P D vwCl (wP a cZ cI (s_X5_advance_3 S p0)) H1 := cvP (wP_s11 a cZ cI S (v_X5_advance_2 S p0)) hP1
  replace hD1 : va_D A (wP a cZ cI (s_X5_advance_3 S p0)) := cvD (wP_s11 a cZ cI S (v_X5_advance_2 S p0)) hD1
  clear hP0 hD0 hS0
  refine lv_aload_n hx hb dX5_advance_19 rfl (lv_at hl1 1 rfl) ?_
  refine va_get (D := D) (ci := 5) (v := .int ((s_X5_advance_3 S p0).1 11)) (C := RX5) (T := TX5) (N := 1) hx hb hts (fun _ h => List.mem_cons_of_mem _ (List.mem_append_right _ (h))) hown hK hP1 4 rfl rfl 0 (by decide) (hts (.fieldLink RX5 9 "Phaselock$Oscillator" "phase" "I") (List.mem_cons_of_mem _ (List.mem_append_left _ (List.mem_of_getElem? (i := 0) rfl)))) (fun _ h9 => h9) rfl dX5_advance_20 ?_
  refine lv_ldc (v := 65536) hx hb hown (hts (.constant RX5 15 (65536)) (List.mem_cons_of_mem _ (List.mem_append_left _ (List.mem_of_getElem? (i := 1) rfl)))) dX5_advance_23 ?_
  refine lv_icmp_lt (tgt := 41) hx hb dX5_advance_25 (by decide) (fun c1_25 => ?_) (fun c1_25 => ?_)
  · refine lv_aload_n hx hb dX5_advance_41 rfl (lv_at hl1 1 rfl) ?_
    refine lv_iload_n hx hb dX5_advance_42 rfl (lv_at hl1 0 rfl) ?_
    refine lv_ldc (v := 49152) hx hb hown (hts (.constant RX5 16 (49152)) (List.mem_cons_of_mem _ (List.mem_append_left _ (List.mem_of_getElem? (i := 2) rfl)))) dX5_advance_43 ?_
    refine va_calli (va_runV (As := [.int (S.1 11), .int 49152]) (rest := []) ⟨hx, hb, hml, hown, hts⟩ (k_X5_hasPassed l D a cZ cI (s_X5_advance_3 S p0) H1.size (S.1 11) 49152) (cwV 2 hts gX5_advance_X5_hasPassed rfl rfl rfl (by decide +kernel) ⟨Nat.le_of_ble_eq_true rfl, Nat.le_of_ble_eq_true rfl⟩) ⟨blW okN_P, va_recv hK hP1 (ci := 5) (q0 := 4) rfl rfl, preW hP1 hK hD1 okN_P hN⟩ rfl rfl hl1.1 rfl (lv_room (Nat.le_of_ble_eq_true rfl)) dX5_advance_45 ⟨Nat.zero_le _, Nat.zero_le _⟩) hS1 (aA_in hAc) (aA_free hAc hA hS1) (fun r2 u2 t2 H2 L2 ht2 hvm2 hw2 hB2 _ _ hS2 => ?_)
    obtain ⟨hP2, hD2⟩ := backW hB2 ht2 (aA_free hAc hA hS1)
    clear hB2 ht2 hvm2 t2
    obtain ⟨hu2, hr2⟩ := hw2
    subst u2; subst r2
    clear hP1 hD1 hS1
    refine lv_asi (y := (v_X5_advance_4 S p0)) rfl ?_
    refine lv_if_eq (tgt := 53) hx hb dX5_advance_48 (by decide) (fun c2_48 => ?_) (fun c2_48 => ?_)
    · refine lv_aload_n hx hb dX5_advance_53 rfl (lv_at hl1 1 rfl) ?_
      refine lv_iload_n hx hb dX5_advance_54 rfl (lv_at hl1 0 rfl) ?_
      refine lv_ldc (v := 32768) hx hb hown (hts (.constant RX5 21 (32768)) (List.mem_cons_of_mem _ (List.mem_append_left _ (List.mem_of_getElem? (i := 3) rfl)))) dX5_advance_55 ?_
      refine va_calli (va_runV (As := [.int (S.1 11), .int 32768]) (rest := []) ⟨hx, hb, hml, hown, hts⟩ (k_X5_hasPassed l D a cZ cI (s_X5_advance_3 S p0) H2.size (S.1 11) 32768) (cwV 2 hts gX5_advance_X5_hasPassed rfl rfl rfl (by decide +kernel) ⟨Nat.le_of_ble_eq_true rfl, Nat.le_of_ble_eq_true rfl⟩) ⟨blW okN_P, va_recv hK hP2 (ci := 5) (q0 := 4) rfl rfl, preW hP2 hK hD2 okN_P hN⟩ rfl rfl hl1.1 rfl (lv_room (Nat.le_of_ble_eq_true rfl)) dX5_advance_57 ⟨Nat.zero_le _, Nat.zero_le _⟩) hS2 (aA_in hAc) (aA_free hAc hA hS2) (fun r3 u3 t3 H3 L3 ht3 hvm3 hw3 hB3 _ _ hS3 => ?_)
      obtain ⟨hP3, hD3⟩ := backW hB3 ht3 (aA_free hAc hA hS2)
      clear hB3 ht3 hvm3 t3
      obtain ⟨hu3, hr3⟩ := hw3
      subst u3; subst r3
      clear hP2 hD2 hS2
      refine lv_asi (y := (v_X5_advance_5 S p0)) rfl ?_
      refine lv_if_eq (tgt := 65) hx hb dX5_advance_60 (by decide) (fun c3_60 => ?_) (fun c3_60 => ?_)
      · refine lv_aload_n hx hb dX5_advance_65 rfl (lv_at hl1 1 rfl) ?_
        refine lv_iload_n hx hb dX5_advance_66 rfl (lv_at hl1 0 rfl) ?_
        refine lv_sipush (v := 16384) hx hb dX5_advance_67 (by decide) ?_
        refine va_calli (va_runV (As := [.int (S.1 11), .int 16384]) (rest := []) ⟨hx, hb, hml, hown, hts⟩ (k_X5_hasPassed l D a cZ cI (s_X5_advance_3 S p0) H3.size (S.1 11) 16384) (cwV 2 hts gX5_advance_X5_hasPassed rfl rfl rfl (by decide +kernel) ⟨Nat.le_of_ble_eq_true rfl, Nat.le_of_ble_eq_true rfl⟩) ⟨blW okN_P, va_recv hK hP3 (ci := 5) (q0 := 4) rfl rfl, preW hP3 hK hD3 okN_P hN⟩ rfl rfl hl1.1 rfl (lv_room (Nat.le_of_ble_eq_true rfl)) dX5_advance_70 ⟨Nat.zero_le _, Nat.zero_le _⟩) hS3 (aA_in hAc) (aA_free hAc hA hS3) (fun r4 u4 t4 H4 L4 ht4 hvm4 hw4 hB4 _ _ hS4 => ?_)
        obtain ⟨hP4, hD4⟩ := backW hB4 ht4 (aA_free hAc hA hS3)
        clear hB4 ht4 hvm4 t4
        obtain ⟨hu4, hr4⟩ := hw4
        subst u4; subst r4
        clear hP3 hD3 hS3
        refine lv_asi (y := (v_X5_advance_6 S p0)) rfl ?_
        have J1_73 : W p l e (headSpec wsX5_advance rm_X5_advance).room s m ([.ref (a 4), .int p0] : List Value).toArray below meth c H4 L4 0 0 Q (F0 m 81 ls1 [.int (v_X5_advance_7 S p0)]) := by
          subst hQ; exact W.iret (v := (v_X5_advance_7 S p0)) hx hb hr (fun t ht hW => ⟨⟨(v_X5_advance_7 S p0), (s_X5_advance_3 S p0), rfl, ⟨(show (s_X5_advance_3 S p0) = s_X5_advance S p0 from ((if_pos c1_25).trans ((if_pos c2_48).trans (if_pos c3_60))).symm), (show (v_X5_advance_7 S p0) = r_X5_advance S p0 from ((if_pos c1_25).trans ((if_pos c2_48).trans (if_pos c3_60))).symm)⟩, endW hP4 hK hD4 ht hW⟩, hS4.F ht⟩) hS4.2.2 dX5_advance_81
        refine lv_if_eq (tgt := 80) hx hb dX5_advance_73 (by decide) (fun c4_73 => ?_) (fun c4_73 => ?_)
        · refine lv_iconst (v := 0) hx hb dX5_advance_80 (by decide) ?_
          refine lv_asi (y := (v_X5_advance_7 S p0)) (show (v_X5_advance_7 S p0) = 0 from (if_pos c4_73)).symm ?_
          exact J1_73
        · refine lv_iconst (v := 1) hx hb dX5_advance_76 (by decide) ?_
          refine lv_goto (tgt := 81) hx hb dX5_advance_77 (by decide) ?_
          refine lv_asi (y := (v_X5_advance_7 S p0)) (show (v_X5_advance_7 S p0) = 1 from (if_neg c4_73)).symm ?_
          exact J1_73
      · refine lv_iconst (v := 2) hx hb dX5_advance_63 (by decide) ?_
        subst hQ; exact W.iret (v := 2) hx hb hr (fun t ht hW => ⟨⟨2, (s_X5_advance_3 S p0), rfl, ⟨(show (s_X5_advance_3 S p0) = s_X5_advance S p0 from ((if_pos c1_25).trans ((if_pos c2_48).trans (if_neg c3_60))).symm), (show 2 = r_X5_advance S p0 from ((if_pos c1_25).trans ((if_pos c2_48).trans (if_neg c3_60))).symm)⟩, endW hP3 hK hD3 ht hW⟩, hS3.F ht⟩) hS3.2.2 dX5_advance_64
    · refine lv_iconst (v := 3) hx hb dX5_advance_51 (by decide) ?_
      subst hQ; exact W.iret (v := 3) hx hb hr (fun t ht hW => ⟨⟨3, (s_X5_advance_3 S p0), rfl, ⟨(show (s_X5_advance_3 S p0) = s_X5_advance S p0 from ((if_pos c1_25).trans (if_neg c2_48)).symm), (show 3 = r_X5_advance S p0 from ((if_pos c1_25).trans (if_neg c2_48)).symm)⟩, endW hP2 hK hD2 ht hW⟩, hS2.F ht⟩) hS2.2.2 dX5_advance_52
  · refine lv_aload_n hx hb dX5_advance_28 rfl (lv_at hl1 1 rfl) ?_
    refine lv_dup hx hb dX5_advance_29 rfl ?_
    refine va_get (D := D) (ci := 5) (v := .int ((s_X5_advance_3 S p0).1 11)) (C := RX5) (T := TX5) (N := 1) hx hb hts (fun _ h => List.mem_cons_of_mem _ (List.mem_append_right _ (h))) hown hK hP1 4 rfl rfl 0 (by decide) (hts (.fieldLink RX5 9 "Phaselock$Oscillator" "phase" "I") (List.mem_cons_of_mem _ (List.mem_append_left _ (List.mem_of_getElem? (i := 0) rfl)))) (fun _ h9 => h9) rfl dX5_advance_30 ?_
    refine lv_ldc (v := 65536) hx hb hown (hts (.constant RX5 15 (65536)) (List.mem_cons_of_mem _ (List.mem_append_left _ (List.mem_of_getElem? (i := 1) rfl)))) dX5_advance_33 ?_
    refine lv_isub hx hb dX5_advance_35 ?_
    refine lv_asi (y := (v_X5_advance_11 S p0)) rfl ?_
    refine va_put (D := D) (ci := 5) (v := .int (v_X5_advance_11 S p0)) (ty := .int) (C := RX5) (T := TX5) (N := 1) hx hb hts (fun _ h => List.mem_cons_of_mem _ (List.mem_append_right _ (h))) tyX5 tyX5_ok nmX5 hown hK hP1 hD1 hS1 4 rfl rfl 0 (by decide) (hts (.fieldLink RX5 9 "Phaselock$Oscillator" "phase" "I") (List.mem_cons_of_mem _ (List.mem_append_left _ (List.mem_of_getElem? (i := 0) rfl)))) (fun _ h9 => h9) rfl (by decide +kernel) rfl rfl (Nat.le_of_ble_eq_true rfl) dX5_advance_36 (fun H2 L2 hP2 hD2 hS2 => ?_)
    replace hP2 : va_P D vwCl (wP a cZ cI (s_X5_advance_12 S p0)) H2 := cvP (wP_s11 a cZ cI (s_X5_advance_3 S p0) (v_X5_advance_11 S p0)) hP2
    replace hD2 : va_D A (wP a cZ cI (s_X5_advance_12 S p0)) := cvD (wP_s11 a cZ cI (s_X5_advance_3 S p0) (v_X5_advance_11 S p0)) hD2
    clear hP1 hD1 hS1
    refine lv_iconst (v := 4) hx hb dX5_advance_39 (by decide) ?_
    subst hQ; exact W.iret (v := 4) hx hb hr (fun t ht hW => ⟨⟨4, (s_X5_advance_12 S p0), rfl, ⟨(show (s_X5_advance_12 S p0) = s_X5_advance S p0 from (if_neg c1_25).symm), (show 4 = r_X5_advance S p0 from (if_neg c1_25).symm)⟩, endW hP2 hK hD2 ht hW⟩, hS2.F ht⟩) hS2.2.2 dX5_advance_40

def v_X6_watchLine_1 (S : St) (p1 : Int32) : Int32 := r_X3_hasChangedSince S 1
def v_X6_watchLine_2 (S : St) (p1 : Int32) : Int32 := 32768 - p1
def v_X6_watchLine_3 (S : St) (p1 : Int32) : Int32 := (v_X6_watchLine_2 S p1) / 256
def s_X6_watchLine_4 (S : St) (p1 : Int32) : St := si S 18 (v_X6_watchLine_3 S p1)
def s_X6_watchLine_5 (S : St) (p1 : Int32) : St := if (v_X6_watchLine_1 S p1) = 0 then S else (s_X6_watchLine_4 S p1)
def v_X6_watchLine_6 (S : St) (p1 : Int32) : Int32 := r_X3_hasChangedSince (s_X6_watchLine_5 S p1) 8
def v_X6_watchLine_7 (S : St) (p1 : Int32) : Int32 := r_X10_isWithin (s_X6_watchLine_5 S p1) p1 16384 49151
def v_X6_watchLine_8 (S : St) (p1 : Int32) : Int32 := if (v_X6_watchLine_7 S p1) = 0 then (-1) else 1
def v_X6_watchLine_9 (S : St) (p1 : Int32) : Int32 := ((s_X6_watchLine_5 S p1).1 19) + (v_X6_watchLine_8 S p1)
def s_X6_watchLine_10 (S : St) (p1 : Int32) : St := si (s_X6_watchLine_5 S p1) 19 (v_X6_watchLine_9 S p1)
def s_X6_watchLine_11 (S : St) (p1 : Int32) : St := if (v_X6_watchLine_6 S p1) = 0 then (s_X6_watchLine_5 S p1) else (s_X6_watchLine_10 S p1)
def s_X6_watchLine (S : St) (p1 : Int32) : St := (s_X6_watchLine_11 S p1)
def rm_X6_watchLine : Room := { frames := 1, cells := 0, slots := 0, locals := 22 }
set_option maxRecDepth 100000 in
set_option maxHeartbeats 4000000 in
theorem k_X6_watchLine (l : Launch) (D : va_G) (a : Nat → Nat) (cZ cI : ClassId) (S : St) (sz : Nat) (p1 : Int32) : Met l yX6_watchLine wsX6_watchLine rm_X6_watchLine (va_Pc [.ref (a 5), .ref (a 2), .int p1] (pW D (tyZI cZ cI) (wP a cZ cI S) sz nP)) (va_Qv (fun u : St => u = s_X6_watchLine S p1) (fun u t => oW D (tyZI cZ cI) (wP a cZ cI u) (aA (adP a) sz) t) (aA (adP a) sz)) 0 0 (aA (adP a) sz) := by
  refine Met.ofW (cc := cX6_watchLine) (maxL := 3) (ret := none) (by decide +kernel) rfl ?_
  intro p e s m args below meth c s₁ B hml hv
  obtain ⟨rfl, hsz, hP0, hK, hD9, hN⟩ := hv
  have hx := B.exec
  have hb := B.bytes
  have hr := B.returns
  have hts := atoms_spec (ws := wsX6_watchLine) B.pre
  have hown : s.vm.findClass RX6 = some m.cls := findClass_of_methodNamed B.named
  have hlocks := B.notSynchronized
  subst hsz
  have hD0 := aA_self (sz := s.heap.size) (as := adP a) hD9 rfl
  generalize hAe : aA (adP a) s.heap.size = A at hD0 ⊢
  have hA : ∀ q : Nat, s.heap.size ≤ q → A q := fun q h => by rw [← hAe]; exact Or.inr h
  have hAc : ∀ q : Nat, q ∈ adP a → A q := fun q h => by rw [← hAe]; exact Or.inl h
  have hS0 : va_S A s.heap s.heap [] := va_S.rf
  have hl0 := lv_entry ([.ref (a 5), .ref (a 2), .int p1]) (n := 3) (Nat.le_of_ble_eq_true rfl)
  rw [lg_entry_eq]
  generalize (lg_sl ([.ref (a 5), .ref (a 2), .int p1]) ++ List.replicate (3 - (lg_sl ([.ref (a 5), .ref (a 2), .int p1])).length) Slot.unset).toArray = ls0 at hl0 ⊢
  have hl0 : lv_has ls0 3 [(0, .ref (a 5)), (1, .ref (a 2)), (2, .int p1)] := hl0
  generalize hQ : MQ below _ _ s _ _ _ = Q
  clear hD9 B
  refine lv_aload_n hx hb dX6_watchLine_0 rfl (lv_at hl0 1 rfl) ?_
  refine lv_iconst (v := 1) hx hb dX6_watchLine_1 (by decide) ?_
  refine va_calli (va_runV (As := [.int 1]) (rest := []) ⟨hx, hb, hml, hown, hts⟩ (k_X3_hasChangedSince l D a cZ cI S s.heap.size 1) (cwV 1 hts gX6_watchLine_X3_hasChangedSince rfl rfl rfl (by decide +kernel) ⟨Nat.le_of_ble_eq_true rfl, Nat.le_of_ble_eq_true rfl⟩) ⟨blW okN_P, va_recv hK hP0 (ci := 3) (q0 := 2) rfl rfl, preW hP0 hK hD0 okN_P hN⟩ rfl rfl hl0.1 rfl (lv_room (Nat.le_of_ble_eq_true rfl)) dX6_watchLine_2 ⟨Nat.zero_le _, Nat.zero_le _⟩) hS0 (aA_in hAc) (aA_free hAc hA hS0) (fun r1 u1 t1 H1 L1 ht1 hvm1 hw1 hB1 _ _ hS1 => ?_)
  obtain ⟨hP1, hD1⟩ := backW hB1 ht1 (aA_free hAc hA hS0)
  clear hB1 ht1 hvm1 t1
  obtain ⟨hu1, hr1⟩ := hw1
  subst u1; subst r1
  clear hP0 hD0 hS0
  refine lv_asi (y := (v_X6_watchLine_1 S p1)) rfl ?_
  have J1_5 : ∀ (H3 : Heap) (L3 : List Loc), va_P D vwCl (wP a cZ cI (s_X6_watchLine_5 S p1)) H3 → va_D A (wP a cZ cI (s_X6_watchLine_5 S p1)) → va_S A s.heap H3 L3 → W p l e (headSpec wsX6_watchLine rm_X6_watchLine).room s m ([.ref (a 5), .ref (a 2), .int p1] : List Value).toArray below meth c H3 L3 0 0 Q (F0 m 20 ls0 []) := by
    intro H3 L3 hP3 hD3 hS3
    clear hP1 hD1 hS1
    refine lv_aload_n hx hb dX6_watchLine_20 rfl (lv_at hl0 1 rfl) ?_
    refine lv_bipush (v := 8) hx hb dX6_watchLine_21 (by decide) ?_
    refine va_calli (va_runV (As := [.int 8]) (rest := []) ⟨hx, hb, hml, hown, hts⟩ (k_X3_hasChangedSince l D a cZ cI (s_X6_watchLine_5 S p1) H3.size 8) (cwV 1 hts gX6_watchLine_X3_hasChangedSince rfl rfl rfl (by decide +kernel) ⟨Nat.le_of_ble_eq_true rfl, Nat.le_of_ble_eq_true rfl⟩) ⟨blW okN_P, va_recv hK hP3 (ci := 3) (q0 := 2) rfl rfl, preW hP3 hK hD3 okN_P hN⟩ rfl rfl hl0.1 rfl (lv_room (Nat.le_of_ble_eq_true rfl)) dX6_watchLine_23 ⟨Nat.zero_le _, Nat.zero_le _⟩) hS3 (aA_in hAc) (aA_free hAc hA hS3) (fun r4 u4 t4 H4 L4 ht4 hvm4 hw4 hB4 _ _ hS4 => ?_)
    obtain ⟨hP4, hD4⟩ := backW hB4 ht4 (aA_free hAc hA hS3)
    clear hB4 ht4 hvm4 t4
    obtain ⟨hu4, hr4⟩ := hw4
    subst u4; subst r4
    clear hP3 hD3 hS3
    refine lv_asi (y := (v_X6_watchLine_6 S p1)) rfl ?_
    have J3_26 : ∀ (H7 : Heap) (L7 : List Loc), va_P D vwCl (wP a cZ cI (s_X6_watchLine_11 S p1)) H7 → va_D A (wP a cZ cI (s_X6_watchLine_11 S p1)) → va_S A s.heap H7 L7 → W p l e (headSpec wsX6_watchLine rm_X6_watchLine).room s m ([.ref (a 5), .ref (a 2), .int p1] : List Value).toArray below meth c H7 L7 0 0 Q (F0 m 55 ls0 []) := by
      intro H7 L7 hP7 hD7 hS7
      clear hP4 hD4 hS4
      subst hQ; exact W.vret hx hb hr (fun t ht hW => ⟨⟨(s_X6_watchLine_11 S p1), rfl, (show (s_X6_watchLine_11 S p1) = s_X6_watchLine S p1 from rfl), endW hP7 hK hD7 ht hW⟩, hS7.F ht⟩) hS7.2.2 dX6_watchLine_55
    refine lv_if_eq (tgt := 55) hx hb dX6_watchLine_26 (by decide) (fun c2_26 => ?_) (fun c2_26 => ?_)
    · exact J3_26 _ _ (va_asS (P := fun u => va_P D vwCl (wP a cZ cI u) H4) (show (s_X6_watchLine_11 S p1) = (s_X6_watchLine_5 S p1) from (if_pos c2_26)) hP4) (va_asS (P := fun u => va_D A (wP a cZ cI u)) (show (s_X6_watchLine_11 S p1) = (s_X6_watchLine_5 S p1) from (if_pos c2_26)) hD4) hS4
    · refine lv_aload_n hx hb dX6_watchLine_29 rfl (lv_at hl0 0 rfl) ?_
      refine lv_dup hx hb dX6_watchLine_30 rfl ?_
      refine va_get (D := D) (ci := 6) (v := .int ((s_X6_watchLine_5 S p1).1 19)) (C := RX6) (T := TX6) (N := 7) hx hb hts (fun _ h => List.mem_cons_of_mem _ (List.mem_append_left _ (List.mem_append_right _ (h)))) hown hK hP4 5 rfl rfl 2 (by decide) (hts (.fieldLink RX6 18 "Phaselock$PhaseDetector" "product" "I") (List.mem_cons_of_mem _ (List.mem_append_left _ (List.mem_append_left _ (List.mem_of_getElem? (i := 2) rfl))))) (fun _ h9 => h9) rfl dX6_watchLine_31 ?_
      refine lv_iload_n hx hb dX6_watchLine_34 rfl (lv_at hl0 2 rfl) ?_
      refine lv_sipush (v := 16384) hx hb dX6_watchLine_35 (by decide) ?_
      refine lv_ldc (v := 49151) hx hb hown (hts (.constant RX6 40 (49151)) (List.mem_cons_of_mem _ (List.mem_append_left _ (List.mem_append_left _ (List.mem_of_getElem? (i := 3) rfl))))) dX6_watchLine_38 ?_
      refine va_calli (va_runSN (As := [.int p1, .int 16384, .int 49151]) (rest := [.int ((s_X6_watchLine_5 S p1).1 19), .ref (a 5)]) ⟨hx, hb, hml, hown, hts⟩ (k_X10_isWithin l D a cZ cI (s_X6_watchLine_5 S p1) H4.size p1 16384 49151) ⟨va_cnB 3 hts gX6_watchLine_X10_isWithin_n41 rfl rfl rfl hN.1 (hts (.initialized RX10) (List.mem_cons_of_mem _ (List.mem_append_left _ (List.mem_append_left _ (List.mem_of_getElem? (i := 11) rfl))))) (by decide +kernel) ⟨Nat.le_of_ble_eq_true rfl, Nat.le_of_ble_eq_true rfl⟩, (hts (.static yX10_isWithin) (List.mem_cons_of_mem _ (List.mem_append_left _ (List.mem_append_left _ (List.mem_of_getElem? (i := 10) rfl))))), trivial⟩ ⟨blW okN_P, preW hP4 hK hD4 okN_P hN⟩ rfl rfl hl0.1 rfl (lv_room (Nat.le_of_ble_eq_true rfl)) dX6_watchLine_40 ⟨Nat.zero_le _, Nat.zero_le _⟩) hS4 (aA_in hAc) (aA_free hAc hA hS4) (fun r5 u5 t5 H5 L5 ht5 hvm5 hw5 hB5 _ _ hS5 => ?_)
      obtain ⟨hP5, hD5⟩ := backW hB5 ht5 (aA_free hAc hA hS4)
      clear hB5 ht5 hvm5 t5
      obtain ⟨hu5, hr5⟩ := hw5
      subst u5; subst r5
      clear hP4 hD4 hS4
      refine lv_asi (y := (v_X6_watchLine_7 S p1)) rfl ?_
      have J2_43 : W p l e (headSpec wsX6_watchLine rm_X6_watchLine).room s m ([.ref (a 5), .ref (a 2), .int p1] : List Value).toArray below meth c H5 L5 0 0 Q (F0 m 51 ls0 [.int (v_X6_watchLine_8 S p1), .int ((s_X6_watchLine_5 S p1).1 19), .ref (a 5)]) := by
        refine lv_iadd hx hb dX6_watchLine_51 ?_
        refine lv_asi (y := (v_X6_watchLine_9 S p1)) rfl ?_
        refine va_put (D := D) (ci := 6) (v := .int (v_X6_watchLine_9 S p1)) (ty := .int) (C := RX6) (T := TX6) (N := 7) hx hb hts (fun _ h => List.mem_cons_of_mem _ (List.mem_append_left _ (List.mem_append_right _ (h)))) tyX6 tyX6_ok nmX6 hown hK hP5 hD5 hS5 5 rfl rfl 2 (by decide) (hts (.fieldLink RX6 18 "Phaselock$PhaseDetector" "product" "I") (List.mem_cons_of_mem _ (List.mem_append_left _ (List.mem_append_left _ (List.mem_of_getElem? (i := 2) rfl))))) (fun _ h9 => h9) rfl (by decide +kernel) rfl rfl (Nat.le_of_ble_eq_true rfl) dX6_watchLine_52 (fun H6 L6 hP6 hD6 hS6 => ?_)
        replace hP6 : va_P D vwCl (wP a cZ cI (s_X6_watchLine_10 S p1)) H6 := cvP (wP_s19 a cZ cI (s_X6_watchLine_5 S p1) (v_X6_watchLine_9 S p1)) hP6
        replace hD6 : va_D A (wP a cZ cI (s_X6_watchLine_10 S p1)) := cvD (wP_s19 a cZ cI (s_X6_watchLine_5 S p1) (v_X6_watchLine_9 S p1)) hD6
        clear hP5 hD5 hS5
        exact J3_26 _ _ (va_asS (P := fun u => va_P D vwCl (wP a cZ cI u) H6) (show (s_X6_watchLine_11 S p1) = (s_X6_watchLine_10 S p1) from (if_neg c2_26)) hP6) (va_asS (P := fun u => va_D A (wP a cZ cI u)) (show (s_X6_watchLine_11 S p1) = (s_X6_watchLine_10 S p1) from (if_neg c2_26)) hD6) hS6
      refine lv_if_eq (tgt := 50) hx hb dX6_watchLine_43 (by decide) (fun c3_43 => ?_) (fun c3_43 => ?_)
      · refine lv_iconst (v := (-1)) hx hb dX6_watchLine_50 (by decide) ?_
        refine lv_asi (y := (v_X6_watchLine_8 S p1)) (show (v_X6_watchLine_8 S p1) = (-1) from (if_pos c3_43)).symm ?_
        exact J2_43
      · refine lv_iconst (v := 1) hx hb dX6_watchLine_46 (by decide) ?_
        refine lv_goto (tgt := 51) hx hb dX6_watchLine_47 (by decide) ?_
        refine lv_asi (y := (v_X6_watchLine_8 S p1)) (show (v_X6_watchLine_8 S p1) = 1 from (if_neg c3_43)).symm ?_
        exact J2_43
  refine lv_if_eq (tgt := 20) hx hb dX6_watchLine_5 (by decide) (fun c1_5 => ?_) (fun c1_5 => ?_)
  · exact J1_5 _ _ (va_asS (P := fun u => va_P D vwCl (wP a cZ cI u) H1) (show (s_X6_watchLine_5 S p1) = S from (if_pos c1_5)) hP1) (va_asS (P := fun u => va_D A (wP a cZ cI u)) (show (s_X6_watchLine_5 S p1) = S from (if_pos c1_5)) hD1) hS1
  · refine lv_aload_n hx hb dX6_watchLine_8 rfl (lv_at hl0 0 rfl) ?_
    refine lv_ldc (v := 32768) hx hb hown (hts (.constant RX6 39 (32768)) (List.mem_cons_of_mem _ (List.mem_append_left _ (List.mem_append_left _ (List.mem_of_getElem? (i := 0) rfl))))) dX6_watchLine_9 ?_
    refine lv_iload_n hx hb dX6_watchLine_11 rfl (lv_at hl0 2 rfl) ?_
    refine lv_isub hx hb dX6_watchLine_12 ?_
    refine lv_asi (y := (v_X6_watchLine_2 S p1)) rfl ?_
    refine lv_sipush (v := 256) hx hb dX6_watchLine_13 (by decide) ?_
    refine lv_idiv hx hb dX6_watchLine_16 (by decide) ?_
    refine lv_asi (y := (v_X6_watchLine_3 S p1)) rfl ?_
    refine va_put (D := D) (ci := 6) (v := .int (v_X6_watchLine_3 S p1)) (ty := .int) (C := RX6) (T := TX6) (N := 7) hx hb hts (fun _ h => List.mem_cons_of_mem _ (List.mem_append_left _ (List.mem_append_right _ (h)))) tyX6 tyX6_ok nmX6 hown hK hP1 hD1 hS1 5 rfl rfl 1 (by decide) (hts (.fieldLink RX6 15 "Phaselock$PhaseDetector" "edgeError" "I") (List.mem_cons_of_mem _ (List.mem_append_left _ (List.mem_append_left _ (List.mem_of_getElem? (i := 1) rfl))))) (fun _ h9 => h9) rfl (by decide +kernel) rfl rfl (Nat.le_of_ble_eq_true rfl) dX6_watchLine_17 (fun H2 L2 hP2 hD2 hS2 => ?_)
    replace hP2 : va_P D vwCl (wP a cZ cI (s_X6_watchLine_4 S p1)) H2 := cvP (wP_s18 a cZ cI S (v_X6_watchLine_3 S p1)) hP2
    replace hD2 : va_D A (wP a cZ cI (s_X6_watchLine_4 S p1)) := cvD (wP_s18 a cZ cI S (v_X6_watchLine_3 S p1)) hD2
    clear hP1 hD1 hS1
    exact J1_5 _ _ (va_asS (P := fun u => va_P D vwCl (wP a cZ cI u) H2) (show (s_X6_watchLine_5 S p1) = (s_X6_watchLine_4 S p1) from (if_neg c1_5)) hP2) (va_asS (P := fun u => va_D A (wP a cZ cI u)) (show (s_X6_watchLine_5 S p1) = (s_X6_watchLine_4 S p1) from (if_neg c1_5)) hD2) hS2

def v_X6_keepEarly_1 (S : St) (p0 : Int32) : Int32 := if 0 ≤ p0 then p0 else 0 - p0
def s_X6_keepEarly_2 (S : St) (p0 : Int32) : St := si S 20 (v_X6_keepEarly_1 S p0)
def s_X6_keepEarly (S : St) (p0 : Int32) : St := (s_X6_keepEarly_2 S p0)
def rm_X6_keepEarly : Room := { frames := 1, cells := 0, slots := 0, locals := 21 }
set_option maxRecDepth 100000 in
set_option maxHeartbeats 4000000 in
theorem k_X6_keepEarly (l : Launch) (D : va_G) (a : Nat → Nat) (cZ cI : ClassId) (S : St) (sz : Nat) (p0 : Int32) : Met l yX6_keepEarly wsX6_keepEarly rm_X6_keepEarly (va_Pc [.ref (a 5), .int p0] (pW D (tyZI cZ cI) (wP a cZ cI S) sz nP)) (va_Qv (fun u : St => u = s_X6_keepEarly S p0) (fun u t => oW D (tyZI cZ cI) (wP a cZ cI u) (aA (adP a) sz) t) (aA (adP a) sz)) 0 0 (aA (adP a) sz) := by
  refine Met.ofW (cc := cX6_keepEarly) (maxL := 2) (ret := none) (by decide +kernel) rfl ?_
  intro p e s m args below meth c s₁ B hml hv
  obtain ⟨rfl, hsz, hP0, hK, hD9, hN⟩ := hv
  have hx := B.exec
  have hb := B.bytes
  have hr := B.returns
  have hts := atoms_spec (ws := wsX6_keepEarly) B.pre
  have hown : s.vm.findClass RX6 = some m.cls := findClass_of_methodNamed B.named
  have hlocks := B.notSynchronized
  subst hsz
  have hD0 := aA_self (sz := s.heap.size) (as := adP a) hD9 rfl
  generalize hAe : aA (adP a) s.heap.size = A at hD0 ⊢
  have hA : ∀ q : Nat, s.heap.size ≤ q → A q := fun q h => by rw [← hAe]; exact Or.inr h
  have hAc : ∀ q : Nat, q ∈ adP a → A q := fun q h => by rw [← hAe]; exact Or.inl h
  have hS0 : va_S A s.heap s.heap [] := va_S.rf
  have hl0 := lv_entry ([.ref (a 5), .int p0]) (n := 2) (Nat.le_of_ble_eq_true rfl)
  rw [lg_entry_eq]
  generalize (lg_sl ([.ref (a 5), .int p0]) ++ List.replicate (2 - (lg_sl ([.ref (a 5), .int p0])).length) Slot.unset).toArray = ls0 at hl0 ⊢
  have hl0 : lv_has ls0 2 [(0, .ref (a 5)), (1, .int p0)] := hl0
  generalize hQ : MQ below _ _ s _ _ _ = Q
  clear hD9 B
  refine lv_aload_n hx hb dX6_keepEarly_0 rfl (lv_at hl0 0 rfl) ?_
  refine lv_iload_n hx hb dX6_keepEarly_1 rfl (lv_at hl0 1 rfl) ?_
  refine va_mabs hx hb (hml.trans hl0.1.symm) hown (hts (.methodLink RX6 45 Lib.Math.abs.name) (List.mem_cons_of_mem _ (List.mem_append_left _ (List.mem_of_getElem? (i := 0) rfl)))) (hts (.static Lib.Math.abs.name) (List.mem_cons_of_mem _ (List.mem_append_left _ (List.mem_of_getElem? (i := 1) rfl)))) (hts (.initialized "java/lang/Math") (List.mem_cons_of_mem _ (List.mem_append_left _ (List.mem_of_getElem? (i := 2) rfl)))) (hts (.code Lib.Math.abs.name Lib.Math.abs.code 1 (some .int)) (List.mem_cons_of_mem _ (List.mem_append_left _ (List.mem_of_getElem? (i := 3) rfl)))) (Nat.le_of_ble_eq_true rfl) (Nat.le_of_ble_eq_true rfl) (Nat.le_refl 0) (Nat.le_refl 0) dX6_keepEarly_2 ?_
  refine lv_asi (y := (v_X6_keepEarly_1 S p0)) rfl ?_
  refine va_put (D := D) (ci := 6) (v := .int (v_X6_keepEarly_1 S p0)) (ty := .int) (C := RX6) (T := TX6) (N := 7) hx hb hts (fun _ h => List.mem_cons_of_mem _ (List.mem_append_right _ (h))) tyX6 tyX6_ok nmX6 hown hK hP0 hD0 hS0 5 rfl rfl 3 (by decide) (hts (.fieldLink RX6 21 "Phaselock$PhaseDetector" "earlyValue" "I") (List.mem_cons_of_mem _ (List.mem_append_left _ (List.mem_of_getElem? (i := 4) rfl)))) (fun _ h9 => h9) rfl (by decide +kernel) rfl rfl (Nat.le_of_ble_eq_true rfl) dX6_keepEarly_5 (fun H1 L1 hP1 hD1 hS1 => ?_)
  replace hP1 : va_P D vwCl (wP a cZ cI (s_X6_keepEarly_2 S p0)) H1 := cvP (wP_s20 a cZ cI S (v_X6_keepEarly_1 S p0)) hP1
  replace hD1 : va_D A (wP a cZ cI (s_X6_keepEarly_2 S p0)) := cvD (wP_s20 a cZ cI S (v_X6_keepEarly_1 S p0)) hD1
  clear hP0 hD0 hS0
  subst hQ; exact W.vret hx hb hr (fun t ht hW => ⟨⟨(s_X6_keepEarly_2 S p0), rfl, (show (s_X6_keepEarly_2 S p0) = s_X6_keepEarly S p0 from rfl), endW hP1 hK hD1 ht hW⟩, hS1.F ht⟩) hS1.2.2 dX6_keepEarly_8

def s_X6_keepMiddle_1 (S : St) (p0 : Int32) (p1 : Int32) : St := si S 21 p0
def s_X6_keepMiddle_2 (S : St) (p0 : Int32) (p1 : Int32) : St := si (s_X6_keepMiddle_1 S p0 p1) 22 p1
def s_X6_keepMiddle (S : St) (p0 : Int32) (p1 : Int32) : St := (s_X6_keepMiddle_2 S p0 p1)
def rm_X6_keepMiddle : Room := { frames := 0, cells := 0, slots := 0, locals := 0 }
set_option maxRecDepth 100000 in
set_option maxHeartbeats 4000000 in
theorem k_X6_keepMiddle (l : Launch) (D : va_G) (a : Nat → Nat) (cZ cI : ClassId) (S : St) (sz : Nat) (p0 : Int32) (p1 : Int32) : Met l yX6_keepMiddle wsX6_keepMiddle rm_X6_keepMiddle (va_Pc [.ref (a 5), .int p0, .int p1] (pW D (tyZI cZ cI) (wP a cZ cI S) sz nP)) (va_Qv (fun u : St => u = s_X6_keepMiddle S p0 p1) (fun u t => oW D (tyZI cZ cI) (wP a cZ cI u) (aA (adP a) sz) t) (aA (adP a) sz)) 0 0 (aA (adP a) sz) := by
  refine Met.ofW (cc := cX6_keepMiddle) (maxL := 3) (ret := none) (by decide +kernel) rfl ?_
  intro p e s m args below meth c s₁ B hml hv
  obtain ⟨rfl, hsz, hP0, hK, hD9, hN⟩ := hv
  have hx := B.exec
  have hb := B.bytes
  have hr := B.returns
  have hts := atoms_spec (ws := wsX6_keepMiddle) B.pre
  have hown : s.vm.findClass RX6 = some m.cls := findClass_of_methodNamed B.named
  have hlocks := B.notSynchronized
  subst hsz
  have hD0 := aA_self (sz := s.heap.size) (as := adP a) hD9 rfl
  generalize hAe : aA (adP a) s.heap.size = A at hD0 ⊢
  have hA : ∀ q : Nat, s.heap.size ≤ q → A q := fun q h => by rw [← hAe]; exact Or.inr h
  have hAc : ∀ q : Nat, q ∈ adP a → A q := fun q h => by rw [← hAe]; exact Or.inl h
  have hS0 : va_S A s.heap s.heap [] := va_S.rf
  have hl0 := lv_entry ([.ref (a 5), .int p0, .int p1]) (n := 3) (Nat.le_of_ble_eq_true rfl)
  rw [lg_entry_eq]
  generalize (lg_sl ([.ref (a 5), .int p0, .int p1]) ++ List.replicate (3 - (lg_sl ([.ref (a 5), .int p0, .int p1])).length) Slot.unset).toArray = ls0 at hl0 ⊢
  have hl0 : lv_has ls0 3 [(0, .ref (a 5)), (1, .int p0), (2, .int p1)] := hl0
  generalize hQ : MQ below _ _ s _ _ _ = Q
  clear hD9 B
  refine lv_aload_n hx hb dX6_keepMiddle_0 rfl (lv_at hl0 0 rfl) ?_
  refine lv_iload_n hx hb dX6_keepMiddle_1 rfl (lv_at hl0 1 rfl) ?_
  refine va_put (D := D) (ci := 6) (v := .int p0) (ty := .int) (C := RX6) (T := TX6) (N := 7) hx hb hts (fun _ h => List.mem_cons_of_mem _ (List.mem_append_right _ (h))) tyX6 tyX6_ok nmX6 hown hK hP0 hD0 hS0 5 rfl rfl 4 (by decide) (hts (.fieldLink RX6 24 "Phaselock$PhaseDetector" "middleValue" "I") (List.mem_cons_of_mem _ (List.mem_append_left _ (List.mem_of_getElem? (i := 0) rfl)))) (fun _ h9 => h9) rfl (by decide +kernel) rfl rfl (Nat.le_of_ble_eq_true rfl) dX6_keepMiddle_2 (fun H1 L1 hP1 hD1 hS1 => ?_)
  replace hP1 : va_P D vwCl (wP a cZ cI (s_X6_keepMiddle_1 S p0 p1)) H1 := cvP (wP_s21 a cZ cI S p0) hP1
  replace hD1 : va_D A (wP a cZ cI (s_X6_keepMiddle_1 S p0 p1)) := cvD (wP_s21 a cZ cI S p0) hD1
  clear hP0 hD0 hS0
  refine lv_aload_n hx hb dX6_keepMiddle_5 rfl (lv_at hl0 0 rfl) ?_
  refine lv_iload_n hx hb dX6_keepMiddle_6 rfl (lv_at hl0 2 rfl) ?_
  refine va_put (D := D) (ci := 6) (v := .int p1) (ty := .int) (C := RX6) (T := TX6) (N := 7) hx hb hts (fun _ h => List.mem_cons_of_mem _ (List.mem_append_right _ (h))) tyX6 tyX6_ok nmX6 hown hK hP1 hD1 hS1 5 rfl rfl 5 (by decide) (hts (.fieldLink RX6 27 "Phaselock$PhaseDetector" "middleLevel" "I") (List.mem_cons_of_mem _ (List.mem_append_left _ (List.mem_of_getElem? (i := 1) rfl)))) (fun _ h9 => h9) rfl (by decide +kernel) rfl rfl (Nat.le_of_ble_eq_true rfl) dX6_keepMiddle_7 (fun H2 L2 hP2 hD2 hS2 => ?_)
  replace hP2 : va_P D vwCl (wP a cZ cI (s_X6_keepMiddle_2 S p0 p1)) H2 := cvP (wP_s22 a cZ cI (s_X6_keepMiddle_1 S p0 p1) p1) hP2
  replace hD2 : va_D A (wP a cZ cI (s_X6_keepMiddle_2 S p0 p1)) := cvD (wP_s22 a cZ cI (s_X6_keepMiddle_1 S p0 p1) p1) hD2
  clear hP1 hD1 hS1
  subst hQ; exact W.vret hx hb hr (fun t ht hW => ⟨⟨(s_X6_keepMiddle_2 S p0 p1), rfl, (show (s_X6_keepMiddle_2 S p0 p1) = s_X6_keepMiddle S p0 p1 from rfl), endW hP2 hK hD2 ht hW⟩, hS2.F ht⟩) hS2.2.2 dX6_keepMiddle_10

def v_X6_measureLate_1 (S : St) (p0 : Int32) : Int32 := if 0 ≤ p0 then p0 else 0 - p0
def v_X6_measureLate_2 (S : St) (p0 : Int32) : Int32 := (S.1 20) - (v_X6_measureLate_1 S p0)
def r_X6_measureLate (S : St) (p0 : Int32) : Int32 := (v_X6_measureLate_2 S p0)
def rm_X6_measureLate : Room := { frames := 1, cells := 0, slots := 0, locals := 21 }
set_option maxRecDepth 100000 in
set_option maxHeartbeats 4000000 in
theorem k_X6_measureLate (l : Launch) (D : va_G) (a : Nat → Nat) (cZ cI : ClassId) (S : St) (sz : Nat) (p0 : Int32) : Met l yX6_measureLate wsX6_measureLate rm_X6_measureLate (va_Pc [.ref (a 5), .int p0] (pW D (tyZI cZ cI) (wP a cZ cI S) sz nP)) (va_Qi (fun (r : Int32) (u : St) => u = S ∧ r = r_X6_measureLate S p0) (fun u t => oW D (tyZI cZ cI) (wP a cZ cI u) (aA (adP a) sz) t) (aA (adP a) sz)) 0 0 (aA (adP a) sz) := by
  refine Met.ofW (cc := cX6_measureLate) (maxL := 2) (ret := (some .int)) (by decide +kernel) rfl ?_
  intro p e s m args below meth c s₁ B hml hv
  obtain ⟨rfl, hsz, hP0, hK, hD9, hN⟩ := hv
  have hx := B.exec
  have hb := B.bytes
  have hr := B.returns
  have hts := atoms_spec (ws := wsX6_measureLate) B.pre
  have hown : s.vm.findClass RX6 = some m.cls := findClass_of_methodNamed B.named
  have hlocks := B.notSynchronized
  subst hsz
  have hD0 := aA_self (sz := s.heap.size) (as := adP a) hD9 rfl
  generalize hAe : aA (adP a) s.heap.size = A at hD0 ⊢
  have hA : ∀ q : Nat, s.heap.size ≤ q → A q := fun q h => by rw [← hAe]; exact Or.inr h
  have hAc : ∀ q : Nat, q ∈ adP a → A q := fun q h => by rw [← hAe]; exact Or.inl h
  have hS0 : va_S A s.heap s.heap [] := va_S.rf
  have hl0 := lv_entry ([.ref (a 5), .int p0]) (n := 2) (Nat.le_of_ble_eq_true rfl)
  rw [lg_entry_eq]
  generalize (lg_sl ([.ref (a 5), .int p0]) ++ List.replicate (2 - (lg_sl ([.ref (a 5), .int p0])).length) Slot.unset).toArray = ls0 at hl0 ⊢
  have hl0 : lv_has ls0 2 [(0, .ref (a 5)), (1, .int p0)] := hl0
  generalize hQ : MQ below _ _ s _ _ _ = Q
  clear hD9 B
  refine lv_aload_n hx hb dX6_measureLate_0 rfl (lv_at hl0 0 rfl) ?_
  refine va_get (D := D) (ci := 6) (v := .int (S.1 20)) (C := RX6) (T := TX6) (N := 7) hx hb hts (fun _ h => List.mem_cons_of_mem _ (List.mem_append_right _ (h))) hown hK hP0 5 rfl rfl 3 (by decide) (hts (.fieldLink RX6 21 "Phaselock$PhaseDetector" "earlyValue" "I") (List.mem_cons_of_mem _ (List.mem_append_left _ (List.mem_of_getElem? (i := 0) rfl)))) (fun _ h9 => h9) rfl dX6_measureLate_1 ?_
  refine lv_iload_n hx hb dX6_measureLate_4 rfl (lv_at hl0 1 rfl) ?_
  refine va_mabs hx hb (hml.trans hl0.1.symm) hown (hts (.methodLink RX6 45 Lib.Math.abs.name) (List.mem_cons_of_mem _ (List.mem_append_left _ (List.mem_of_getElem? (i := 1) rfl)))) (hts (.static Lib.Math.abs.name) (List.mem_cons_of_mem _ (List.mem_append_left _ (List.mem_of_getElem? (i := 2) rfl)))) (hts (.initialized "java/lang/Math") (List.mem_cons_of_mem _ (List.mem_append_left _ (List.mem_of_getElem? (i := 3) rfl)))) (hts (.code Lib.Math.abs.name Lib.Math.abs.code 1 (some .int)) (List.mem_cons_of_mem _ (List.mem_append_left _ (List.mem_of_getElem? (i := 4) rfl)))) (Nat.le_of_ble_eq_true rfl) (Nat.le_of_ble_eq_true rfl) (Nat.le_refl 0) (Nat.le_refl 0) dX6_measureLate_5 ?_
  refine lv_asi (y := (v_X6_measureLate_1 S p0)) rfl ?_
  refine lv_isub hx hb dX6_measureLate_8 ?_
  refine lv_asi (y := (v_X6_measureLate_2 S p0)) rfl ?_
  subst hQ; exact W.iret (v := (v_X6_measureLate_2 S p0)) hx hb hr (fun t ht hW => ⟨⟨(v_X6_measureLate_2 S p0), S, rfl, ⟨rfl, (show (v_X6_measureLate_2 S p0) = r_X6_measureLate S p0 from rfl)⟩, endW hP0 hK hD0 ht hW⟩, hS0.F ht⟩) hS0.2.2 dX6_measureLate_9

def v_X6_measureBangBang_1 (S : St) (p0 : Int32) : Int32 := r_X1_findBit S 1
def v_X6_measureBangBang_2 (S : St) (p0 : Int32) : Int32 := if (S.1 21) = (v_X6_measureBangBang_1 S p0) then (-1) else 1
def r_X6_measureBangBang (S : St) (p0 : Int32) : Int32 := if (S.1 24) = 0 then 0 else if p0 = (v_X6_measureBangBang_1 S p0) then 0 else (v_X6_measureBangBang_2 S p0)
def rm_X6_measureBangBang : Room := { frames := 1, cells := 0, slots := 0, locals := 21 }
set_option maxRecDepth 100000 in
set_option maxHeartbeats 4000000 in
theorem k_X6_measureBangBang (l : Launch) (D : va_G) (a : Nat → Nat) (cZ cI : ClassId) (S : St) (sz : Nat) (p0 : Int32) : Met l yX6_measureBangBang wsX6_measureBangBang rm_X6_measureBangBang (va_Pc [.ref (a 5), .int p0, .ref (a 7)] (pW D (tyZI cZ cI) (wP a cZ cI S) sz nP)) (va_Qi (fun (r : Int32) (u : St) => u = S ∧ r = r_X6_measureBangBang S p0) (fun u t => oW D (tyZI cZ cI) (wP a cZ cI u) (aA (adP a) sz) t) (aA (adP a) sz)) 0 0 (aA (adP a) sz) := by
  refine Met.ofW (cc := cX6_measureBangBang) (maxL := 4) (ret := (some .int)) (by decide +kernel) rfl ?_
  intro p e s m args below meth c s₁ B hml hv
  obtain ⟨rfl, hsz, hP0, hK, hD9, hN⟩ := hv
  have hx := B.exec
  have hb := B.bytes
  have hr := B.returns
  have hts := atoms_spec (ws := wsX6_measureBangBang) B.pre
  have hown : s.vm.findClass RX6 = some m.cls := findClass_of_methodNamed B.named
  have hlocks := B.notSynchronized
  subst hsz
  have hD0 := aA_self (sz := s.heap.size) (as := adP a) hD9 rfl
  generalize hAe : aA (adP a) s.heap.size = A at hD0 ⊢
  have hA : ∀ q : Nat, s.heap.size ≤ q → A q := fun q h => by rw [← hAe]; exact Or.inr h
  have hAc : ∀ q : Nat, q ∈ adP a → A q := fun q h => by rw [← hAe]; exact Or.inl h
  have hS0 : va_S A s.heap s.heap [] := va_S.rf
  have hl0 := lv_entry ([.ref (a 5), .int p0, .ref (a 7)]) (n := 4) (Nat.le_of_ble_eq_true rfl)
  rw [lg_entry_eq]
  generalize (lg_sl ([.ref (a 5), .int p0, .ref (a 7)]) ++ List.replicate (4 - (lg_sl ([.ref (a 5), .int p0, .ref (a 7)])).length) Slot.unset).toArray = ls0 at hl0 ⊢
  have hl0 : lv_has ls0 4 [(0, .ref (a 5)), (1, .int p0), (2, .ref (a 7))] := hl0
  generalize hQ : MQ below _ _ s _ _ _ = Q
  clear hD9 B
  refine lv_aload_n hx hb dX6_measureBangBang_0 rfl (lv_at hl0 2 rfl) ?_
  refine va_get (D := D) (ci := 1) (v := .int (S.1 24)) (C := RX1) (T := TX1) (N := 2) hx hb hts (fun _ h => List.mem_cons_of_mem _ (List.mem_append_left _ (List.mem_append_right _ (h)))) hown hK hP0 7 rfl rfl 0 (by decide) (hts (.fieldLink RX6 55 "Phaselock$BitLog" "count" "I") (List.mem_cons_of_mem _ (List.mem_append_left _ (List.mem_append_left _ (List.mem_of_getElem? (i := 0) rfl))))) (fun _ h9 => h9) rfl dX6_measureBangBang_1 ?_
  refine lv_if_ne (tgt := 9) hx hb dX6_measureBangBang_4 (by decide) (fun c1_4 => ?_) (fun c1_4 => ?_)
  · refine lv_aload_n hx hb dX6_measureBangBang_9 rfl (lv_at hl0 2 rfl) ?_
    refine lv_iconst (v := 1) hx hb dX6_measureBangBang_10 (by decide) ?_
    refine va_calli (va_runV (As := [.int 1]) (rest := []) ⟨hx, hb, hml, hown, hts⟩ (k_X1_findBit l D a cZ cI S s.heap.size 1) (cwV 1 hts gX6_measureBangBang_X1_findBit rfl rfl rfl (by decide +kernel) ⟨Nat.le_of_ble_eq_true rfl, Nat.le_of_ble_eq_true rfl⟩) ⟨blW okN_P, va_recv hK hP0 (ci := 1) (q0 := 7) rfl rfl, preW hP0 hK hD0 okN_P hN⟩ rfl rfl hl0.1 rfl (lv_room (Nat.le_of_ble_eq_true rfl)) dX6_measureBangBang_11 ⟨Nat.zero_le _, Nat.zero_le _⟩) hS0 (aA_in hAc) (aA_free hAc hA hS0) (fun r1 u1 t1 H1 L1 ht1 hvm1 hw1 hB1 _ _ hS1 => ?_)
    obtain ⟨hP1, hD1⟩ := backW hB1 ht1 (aA_free hAc hA hS0)
    clear hB1 ht1 hvm1 t1
    obtain ⟨hu1, hr1⟩ := hw1
    subst u1; subst r1
    clear hP0 hD0 hS0
    refine lv_asi (y := (v_X6_measureBangBang_1 S p0)) rfl ?_
    refine lv_istore_n (lv' := [(3, .int (v_X6_measureBangBang_1 S p0)), (0, .ref (a 5)), (1, .int p0), (2, .ref (a 7))]) hx hb dX6_measureBangBang_14 rfl hl0 (by decide) rfl (fun ls1 hl1 => ?_)
    clear hl0
    refine lv_iload_n hx hb dX6_measureBangBang_15 rfl (lv_at hl1 2 rfl) ?_
    refine lv_iload_n hx hb dX6_measureBangBang_16 rfl (lv_at hl1 0 rfl) ?_
    refine lv_icmp_ne (tgt := 22) hx hb dX6_measureBangBang_17 (by decide) (fun c2_17 => ?_) (fun c2_17 => ?_)
    · refine lv_aload_n hx hb dX6_measureBangBang_22 rfl (lv_at hl1 1 rfl) ?_
      refine va_get (D := D) (ci := 6) (v := .int (S.1 21)) (C := RX6) (T := TX6) (N := 7) hx hb hts (fun _ h => List.mem_cons_of_mem _ (List.mem_append_right _ (h))) hown hK hP1 5 rfl rfl 4 (by decide) (hts (.fieldLink RX6 24 "Phaselock$PhaseDetector" "middleValue" "I") (List.mem_cons_of_mem _ (List.mem_append_left _ (List.mem_append_left _ (List.mem_of_getElem? (i := 1) rfl))))) (fun _ h9 => h9) rfl dX6_measureBangBang_23 ?_
      refine lv_iload_n hx hb dX6_measureBangBang_26 rfl (lv_at hl1 0 rfl) ?_
      have J1_27 : W p l e (headSpec wsX6_measureBangBang rm_X6_measureBangBang).room s m ([.ref (a 5), .int p0, .ref (a 7)] : List Value).toArray below meth c H1 L1 0 0 Q (F0 m 35 ls1 [.int (v_X6_measureBangBang_2 S p0)]) := by
        subst hQ; exact W.iret (v := (v_X6_measureBangBang_2 S p0)) hx hb hr (fun t ht hW => ⟨⟨(v_X6_measureBangBang_2 S p0), S, rfl, ⟨rfl, (show (v_X6_measureBangBang_2 S p0) = r_X6_measureBangBang S p0 from ((if_neg c1_4).trans (if_neg c2_17)).symm)⟩, endW hP1 hK hD1 ht hW⟩, hS1.F ht⟩) hS1.2.2 dX6_measureBangBang_35
      refine lv_icmp_ne (tgt := 34) hx hb dX6_measureBangBang_27 (by decide) (fun c3_27 => ?_) (fun c3_27 => ?_)
      · refine lv_iconst (v := 1) hx hb dX6_measureBangBang_34 (by decide) ?_
        refine lv_asi (y := (v_X6_measureBangBang_2 S p0)) (show (v_X6_measureBangBang_2 S p0) = 1 from (if_neg c3_27)).symm ?_
        exact J1_27
      · refine lv_iconst (v := (-1)) hx hb dX6_measureBangBang_30 (by decide) ?_
        refine lv_goto (tgt := 35) hx hb dX6_measureBangBang_31 (by decide) ?_
        refine lv_asi (y := (v_X6_measureBangBang_2 S p0)) (show (v_X6_measureBangBang_2 S p0) = (-1) from (if_pos c3_27)).symm ?_
        exact J1_27
    · refine lv_iconst (v := 0) hx hb dX6_measureBangBang_20 (by decide) ?_
      subst hQ; exact W.iret (v := 0) hx hb hr (fun t ht hW => ⟨⟨0, S, rfl, ⟨rfl, (show 0 = r_X6_measureBangBang S p0 from ((if_neg c1_4).trans (if_pos c2_17)).symm)⟩, endW hP1 hK hD1 ht hW⟩, hS1.F ht⟩) hS1.2.2 dX6_measureBangBang_21
  · refine lv_iconst (v := 0) hx hb dX6_measureBangBang_7 (by decide) ?_
    subst hQ; exact W.iret (v := 0) hx hb hr (fun t ht hW => ⟨⟨0, S, rfl, ⟨rfl, (show 0 = r_X6_measureBangBang S p0 from (if_pos c1_4).symm)⟩, endW hP0 hK hD0 ht hW⟩, hS0.F ht⟩) hS0.2.2 dX6_measureBangBang_8

def v_X6_measureAtData_3 (S : St) (p0 : Int32) (p1 : Int32) : Int32 := p1 - (S.1 23)
def v_X6_measureAtData_4 (S : St) (p0 : Int32) (p1 : Int32) : Int32 := (S.1 22) * (v_X6_measureAtData_3 S p0 p1)
def v_X6_measureAtData_6 (S : St) (p0 : Int32) (p1 : Int32) : Int32 := r_X6_measureBangBang S p0
def r_X6_measureAtData (S : St) (p0 : Int32) (p1 : Int32) : Int32 := if (S.1 15) = 1 then (S.1 18) else if (S.1 15) = 2 then (S.1 19) else if (S.1 15) = 3 then (v_X6_measureAtData_4 S p0 p1) else (v_X6_measureAtData_6 S p0 p1)
def rm_X6_measureAtData : Room := { frames := 2, cells := 0, slots := 0, locals := 44 }
set_option maxRecDepth 100000 in
set_option maxHeartbeats 4000000 in
theorem k_X6_measureAtData (l : Launch) (D : va_G) (a : Nat → Nat) (cZ cI : ClassId) (S : St) (sz : Nat) (p0 : Int32) (p1 : Int32) : Met l yX6_measureAtData wsX6_measureAtData rm_X6_measureAtData (va_Pc [.ref (a 5), .int p0, .int p1, .ref (a 7)] (pW D (tyZI cZ cI) (wP a cZ cI S) sz nP)) (va_Qi (fun (r : Int32) (u : St) => u = S ∧ r = r_X6_measureAtData S p0 p1) (fun u t => oW D (tyZI cZ cI) (wP a cZ cI u) (aA (adP a) sz) t) (aA (adP a) sz)) 0 0 (aA (adP a) sz) := by
  refine Met.ofW (cc := cX6_measureAtData) (maxL := 4) (ret := (some .int)) (by decide +kernel) rfl ?_
  intro p e s m args below meth c s₁ B hml hv
  obtain ⟨rfl, hsz, hP0, hK, hD9, hN⟩ := hv
  have hx := B.exec
  have hb := B.bytes
  have hr := B.returns
  have hts := atoms_spec (ws := wsX6_measureAtData) B.pre
  have hown : s.vm.findClass RX6 = some m.cls := findClass_of_methodNamed B.named
  have hlocks := B.notSynchronized
  subst hsz
  have hD0 := aA_self (sz := s.heap.size) (as := adP a) hD9 rfl
  generalize hAe : aA (adP a) s.heap.size = A at hD0 ⊢
  have hA : ∀ q : Nat, s.heap.size ≤ q → A q := fun q h => by rw [← hAe]; exact Or.inr h
  have hAc : ∀ q : Nat, q ∈ adP a → A q := fun q h => by rw [← hAe]; exact Or.inl h
  have hS0 : va_S A s.heap s.heap [] := va_S.rf
  have hl0 := lv_entry ([.ref (a 5), .int p0, .int p1, .ref (a 7)]) (n := 4) (Nat.le_of_ble_eq_true rfl)
  rw [lg_entry_eq]
  generalize (lg_sl ([.ref (a 5), .int p0, .int p1, .ref (a 7)]) ++ List.replicate (4 - (lg_sl ([.ref (a 5), .int p0, .int p1, .ref (a 7)])).length) Slot.unset).toArray = ls0 at hl0 ⊢
  have hl0 : lv_has ls0 4 [(0, .ref (a 5)), (1, .int p0), (2, .int p1), (3, .ref (a 7))] := hl0
  generalize hQ : MQ below _ _ s _ _ _ = Q
  clear hD9 B
  refine lv_aload_n hx hb dX6_measureAtData_0 rfl (lv_at hl0 0 rfl) ?_
  refine va_get (D := D) (ci := 6) (v := .int (S.1 15)) (C := RX6) (T := TX6) (N := 7) hx hb hts (fun _ h => List.mem_cons_of_mem _ (List.mem_append_left _ (List.mem_append_right _ (h)))) hown hK hP0 5 rfl rfl 0 (by decide) (hts (.fieldLink RX6 9 "Phaselock$PhaseDetector" "kind" "I") (List.mem_cons_of_mem _ (List.mem_append_left _ (List.mem_append_left _ (List.mem_of_getElem? (i := 0) rfl))))) (fun _ h9 => h9) rfl dX6_measureAtData_1 ?_
  by_cases c1_4 : (S.1 15) = 1
  · refine lv_tableIn (off := 28) (tgt := 32) hx hb dX6_measureAtData_4 (by rw [c1_4]; decide) (by rw [c1_4]; decide) (by rw [c1_4]; rfl) (by decide) ?_
    refine lv_aload_n hx hb dX6_measureAtData_32 rfl (lv_at hl0 0 rfl) ?_
    refine va_get (D := D) (ci := 6) (v := .int (S.1 18)) (C := RX6) (T := TX6) (N := 7) hx hb hts (fun _ h => List.mem_cons_of_mem _ (List.mem_append_left _ (List.mem_append_right _ (h)))) hown hK hP0 5 rfl rfl 1 (by decide) (hts (.fieldLink RX6 15 "Phaselock$PhaseDetector" "edgeError" "I") (List.mem_cons_of_mem _ (List.mem_append_left _ (List.mem_append_left _ (List.mem_of_getElem? (i := 1) rfl))))) (fun _ h9 => h9) rfl dX6_measureAtData_33 ?_
    subst hQ; exact W.iret (v := (S.1 18)) hx hb hr (fun t ht hW => ⟨⟨(S.1 18), S, rfl, ⟨rfl, (show (S.1 18) = r_X6_measureAtData S p0 p1 from (if_pos c1_4).symm)⟩, endW hP0 hK hD0 ht hW⟩, hS0.F ht⟩) hS0.2.2 dX6_measureAtData_36
  · by_cases c2_4 : (S.1 15) = 2
    · refine lv_tableIn (off := 33) (tgt := 37) hx hb dX6_measureAtData_4 (by rw [c2_4]; decide) (by rw [c2_4]; decide) (by rw [c2_4]; rfl) (by decide) ?_
      refine lv_aload_n hx hb dX6_measureAtData_37 rfl (lv_at hl0 0 rfl) ?_
      refine va_get (D := D) (ci := 6) (v := .int (S.1 19)) (C := RX6) (T := TX6) (N := 7) hx hb hts (fun _ h => List.mem_cons_of_mem _ (List.mem_append_left _ (List.mem_append_right _ (h)))) hown hK hP0 5 rfl rfl 2 (by decide) (hts (.fieldLink RX6 18 "Phaselock$PhaseDetector" "product" "I") (List.mem_cons_of_mem _ (List.mem_append_left _ (List.mem_append_left _ (List.mem_of_getElem? (i := 2) rfl))))) (fun _ h9 => h9) rfl dX6_measureAtData_38 ?_
      subst hQ; exact W.iret (v := (S.1 19)) hx hb hr (fun t ht hW => ⟨⟨(S.1 19), S, rfl, ⟨rfl, (show (S.1 19) = r_X6_measureAtData S p0 p1 from ((if_neg c1_4).trans (if_pos c2_4)).symm)⟩, endW hP0 hK hD0 ht hW⟩, hS0.F ht⟩) hS0.2.2 dX6_measureAtData_41
    · by_cases c3_4 : (S.1 15) = 3
      · refine lv_tableIn (off := 38) (tgt := 42) hx hb dX6_measureAtData_4 (by rw [c3_4]; decide) (by rw [c3_4]; decide) (by rw [c3_4]; rfl) (by decide) ?_
        refine lv_aload_n hx hb dX6_measureAtData_42 rfl (lv_at hl0 0 rfl) ?_
        refine va_get (D := D) (ci := 6) (v := .int (S.1 22)) (C := RX6) (T := TX6) (N := 7) hx hb hts (fun _ h => List.mem_cons_of_mem _ (List.mem_append_left _ (List.mem_append_right _ (h)))) hown hK hP0 5 rfl rfl 5 (by decide) (hts (.fieldLink RX6 27 "Phaselock$PhaseDetector" "middleLevel" "I") (List.mem_cons_of_mem _ (List.mem_append_left _ (List.mem_append_left _ (List.mem_of_getElem? (i := 3) rfl))))) (fun _ h9 => h9) rfl dX6_measureAtData_43 ?_
        refine lv_iload_n hx hb dX6_measureAtData_46 rfl (lv_at hl0 2 rfl) ?_
        refine lv_aload_n hx hb dX6_measureAtData_47 rfl (lv_at hl0 0 rfl) ?_
        refine va_get (D := D) (ci := 6) (v := .int (S.1 23)) (C := RX6) (T := TX6) (N := 7) hx hb hts (fun _ h => List.mem_cons_of_mem _ (List.mem_append_left _ (List.mem_append_right _ (h)))) hown hK hP0 5 rfl rfl 6 (by decide) (hts (.fieldLink RX6 30 "Phaselock$PhaseDetector" "dataLevel" "I") (List.mem_cons_of_mem _ (List.mem_append_left _ (List.mem_append_left _ (List.mem_of_getElem? (i := 4) rfl))))) (fun _ h9 => h9) rfl dX6_measureAtData_48 ?_
        refine lv_isub hx hb dX6_measureAtData_51 ?_
        refine lv_asi (y := (v_X6_measureAtData_3 S p0 p1)) rfl ?_
        refine lv_imul hx hb dX6_measureAtData_52 ?_
        refine lv_asi (y := (v_X6_measureAtData_4 S p0 p1)) rfl ?_
        subst hQ; exact W.iret (v := (v_X6_measureAtData_4 S p0 p1)) hx hb hr (fun t ht hW => ⟨⟨(v_X6_measureAtData_4 S p0 p1), S, rfl, ⟨rfl, (show (v_X6_measureAtData_4 S p0 p1) = r_X6_measureAtData S p0 p1 from ((if_neg c1_4).trans ((if_neg c2_4).trans (if_pos c3_4))).symm)⟩, endW hP0 hK hD0 ht hW⟩, hS0.F ht⟩) hS0.2.2 dX6_measureAtData_53
      · refine lv_tableOut (tgt := 54) hx hb dX6_measureAtData_4 (sw_1_3 c1_4 c2_4 c3_4) (by decide) ?_
        refine lv_aload_n hx hb dX6_measureAtData_54 rfl (lv_at hl0 0 rfl) ?_
        refine lv_iload_n hx hb dX6_measureAtData_55 rfl (lv_at hl0 1 rfl) ?_
        refine lv_aload_n hx hb dX6_measureAtData_56 rfl (lv_at hl0 3 rfl) ?_
        refine va_calli (va_runV (As := [.int p0, .ref (a 7)]) (rest := []) ⟨hx, hb, hml, hown, hts⟩ (k_X6_measureBangBang l D a cZ cI S s.heap.size p0) (cwV 2 hts gX6_measureAtData_X6_measureBangBang rfl rfl rfl (by decide +kernel) ⟨Nat.le_of_ble_eq_true rfl, Nat.le_of_ble_eq_true rfl⟩) ⟨blW okN_P, va_recv hK hP0 (ci := 6) (q0 := 5) rfl rfl, preW hP0 hK hD0 okN_P hN⟩ rfl rfl hl0.1 rfl (lv_room (Nat.le_of_ble_eq_true rfl)) dX6_measureAtData_57 ⟨Nat.zero_le _, Nat.zero_le _⟩) hS0 (aA_in hAc) (aA_free hAc hA hS0) (fun r1 u1 t1 H1 L1 ht1 hvm1 hw1 hB1 _ _ hS1 => ?_)
        obtain ⟨hP1, hD1⟩ := backW hB1 ht1 (aA_free hAc hA hS0)
        clear hB1 ht1 hvm1 t1
        obtain ⟨hu1, hr1⟩ := hw1
        subst u1; subst r1
        clear hP0 hD0 hS0
        refine lv_asi (y := (v_X6_measureAtData_6 S p0 p1)) rfl ?_
        subst hQ; exact W.iret (v := (v_X6_measureAtData_6 S p0 p1)) hx hb hr (fun t ht hW => ⟨⟨(v_X6_measureAtData_6 S p0 p1), S, rfl, ⟨rfl, (show (v_X6_measureAtData_6 S p0 p1) = r_X6_measureAtData S p0 p1 from ((if_neg c1_4).trans ((if_neg c2_4).trans (if_neg c3_4))).symm)⟩, endW hP1 hK hD1 ht hW⟩, hS1.F ht⟩) hS1.2.2 dX6_measureAtData_60

def s_X6_finishBit_1 (S : St) (p0 : Int32) : St := si S 18 0
def s_X6_finishBit_2 (S : St) (p0 : Int32) : St := si (s_X6_finishBit_1 S p0) 19 0
def s_X6_finishBit_3 (S : St) (p0 : Int32) : St := si (s_X6_finishBit_2 S p0) 23 p0
def s_X6_finishBit (S : St) (p0 : Int32) : St := (s_X6_finishBit_3 S p0)
def rm_X6_finishBit : Room := { frames := 0, cells := 0, slots := 0, locals := 0 }
set_option maxRecDepth 100000 in
set_option maxHeartbeats 4000000 in
theorem k_X6_finishBit (l : Launch) (D : va_G) (a : Nat → Nat) (cZ cI : ClassId) (S : St) (sz : Nat) (p0 : Int32) : Met l yX6_finishBit wsX6_finishBit rm_X6_finishBit (va_Pc [.ref (a 5), .int p0] (pW D (tyZI cZ cI) (wP a cZ cI S) sz nP)) (va_Qv (fun u : St => u = s_X6_finishBit S p0) (fun u t => oW D (tyZI cZ cI) (wP a cZ cI u) (aA (adP a) sz) t) (aA (adP a) sz)) 0 0 (aA (adP a) sz) := by
  refine Met.ofW (cc := cX6_finishBit) (maxL := 2) (ret := none) (by decide +kernel) rfl ?_
  intro p e s m args below meth c s₁ B hml hv
  obtain ⟨rfl, hsz, hP0, hK, hD9, hN⟩ := hv
  have hx := B.exec
  have hb := B.bytes
  have hr := B.returns
  have hts := atoms_spec (ws := wsX6_finishBit) B.pre
  have hown : s.vm.findClass RX6 = some m.cls := findClass_of_methodNamed B.named
  have hlocks := B.notSynchronized
  subst hsz
  have hD0 := aA_self (sz := s.heap.size) (as := adP a) hD9 rfl
  generalize hAe : aA (adP a) s.heap.size = A at hD0 ⊢
  have hA : ∀ q : Nat, s.heap.size ≤ q → A q := fun q h => by rw [← hAe]; exact Or.inr h
  have hAc : ∀ q : Nat, q ∈ adP a → A q := fun q h => by rw [← hAe]; exact Or.inl h
  have hS0 : va_S A s.heap s.heap [] := va_S.rf
  have hl0 := lv_entry ([.ref (a 5), .int p0]) (n := 2) (Nat.le_of_ble_eq_true rfl)
  rw [lg_entry_eq]
  generalize (lg_sl ([.ref (a 5), .int p0]) ++ List.replicate (2 - (lg_sl ([.ref (a 5), .int p0])).length) Slot.unset).toArray = ls0 at hl0 ⊢
  have hl0 : lv_has ls0 2 [(0, .ref (a 5)), (1, .int p0)] := hl0
  generalize hQ : MQ below _ _ s _ _ _ = Q
  clear hD9 B
  refine lv_aload_n hx hb dX6_finishBit_0 rfl (lv_at hl0 0 rfl) ?_
  refine lv_iconst (v := 0) hx hb dX6_finishBit_1 (by decide) ?_
  refine va_put (D := D) (ci := 6) (v := .int 0) (ty := .int) (C := RX6) (T := TX6) (N := 7) hx hb hts (fun _ h => List.mem_cons_of_mem _ (List.mem_append_right _ (h))) tyX6 tyX6_ok nmX6 hown hK hP0 hD0 hS0 5 rfl rfl 1 (by decide) (hts (.fieldLink RX6 15 "Phaselock$PhaseDetector" "edgeError" "I") (List.mem_cons_of_mem _ (List.mem_append_left _ (List.mem_of_getElem? (i := 0) rfl)))) (fun _ h9 => h9) rfl (by decide +kernel) rfl rfl (Nat.le_of_ble_eq_true rfl) dX6_finishBit_2 (fun H1 L1 hP1 hD1 hS1 => ?_)
  replace hP1 : va_P D vwCl (wP a cZ cI (s_X6_finishBit_1 S p0)) H1 := cvP (wP_s18 a cZ cI S 0) hP1
  replace hD1 : va_D A (wP a cZ cI (s_X6_finishBit_1 S p0)) := cvD (wP_s18 a cZ cI S 0) hD1
  clear hP0 hD0 hS0
  refine lv_aload_n hx hb dX6_finishBit_5 rfl (lv_at hl0 0 rfl) ?_
  refine lv_iconst (v := 0) hx hb dX6_finishBit_6 (by decide) ?_
  refine va_put (D := D) (ci := 6) (v := .int 0) (ty := .int) (C := RX6) (T := TX6) (N := 7) hx hb hts (fun _ h => List.mem_cons_of_mem _ (List.mem_append_right _ (h))) tyX6 tyX6_ok nmX6 hown hK hP1 hD1 hS1 5 rfl rfl 2 (by decide) (hts (.fieldLink RX6 18 "Phaselock$PhaseDetector" "product" "I") (List.mem_cons_of_mem _ (List.mem_append_left _ (List.mem_of_getElem? (i := 1) rfl)))) (fun _ h9 => h9) rfl (by decide +kernel) rfl rfl (Nat.le_of_ble_eq_true rfl) dX6_finishBit_7 (fun H2 L2 hP2 hD2 hS2 => ?_)
  replace hP2 : va_P D vwCl (wP a cZ cI (s_X6_finishBit_2 S p0)) H2 := cvP (wP_s19 a cZ cI (s_X6_finishBit_1 S p0) 0) hP2
  replace hD2 : va_D A (wP a cZ cI (s_X6_finishBit_2 S p0)) := cvD (wP_s19 a cZ cI (s_X6_finishBit_1 S p0) 0) hD2
  clear hP1 hD1 hS1
  refine lv_aload_n hx hb dX6_finishBit_10 rfl (lv_at hl0 0 rfl) ?_
  refine lv_iload_n hx hb dX6_finishBit_11 rfl (lv_at hl0 1 rfl) ?_
  refine va_put (D := D) (ci := 6) (v := .int p0) (ty := .int) (C := RX6) (T := TX6) (N := 7) hx hb hts (fun _ h => List.mem_cons_of_mem _ (List.mem_append_right _ (h))) tyX6 tyX6_ok nmX6 hown hK hP2 hD2 hS2 5 rfl rfl 6 (by decide) (hts (.fieldLink RX6 30 "Phaselock$PhaseDetector" "dataLevel" "I") (List.mem_cons_of_mem _ (List.mem_append_left _ (List.mem_of_getElem? (i := 2) rfl)))) (fun _ h9 => h9) rfl (by decide +kernel) rfl rfl (Nat.le_of_ble_eq_true rfl) dX6_finishBit_12 (fun H3 L3 hP3 hD3 hS3 => ?_)
  replace hP3 : va_P D vwCl (wP a cZ cI (s_X6_finishBit_3 S p0)) H3 := cvP (wP_s23 a cZ cI (s_X6_finishBit_2 S p0) p0) hP3
  replace hD3 : va_D A (wP a cZ cI (s_X6_finishBit_3 S p0)) := cvD (wP_s23 a cZ cI (s_X6_finishBit_2 S p0) p0) hD3
  clear hP2 hD2 hS2
  subst hQ; exact W.vret hx hb hr (fun t ht hW => ⟨⟨(s_X6_finishBit_3 S p0), rfl, (show (s_X6_finishBit_3 S p0) = s_X6_finishBit S p0 from rfl), endW hP3 hK hD3 ht hW⟩, hS3.F ht⟩) hS3.2.2 dX6_finishBit_15
