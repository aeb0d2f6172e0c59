def v_X7_add_1 (S : St) (p0 : Int32) (p1 : Int32) : Int32 := (S.1 41) &&& 31
def s_X7_add_2 (S : St) (p0 : Int32) (p1 : Int32) : St := sf S ((v_X7_add_1 S p0 p1)).toNatClampNeg p0
def v_X7_add_3 (S : St) (p0 : Int32) (p1 : Int32) : Int32 := ((s_X7_add_2 S p0 p1).1 41) + 1
def s_X7_add_4 (S : St) (p0 : Int32) (p1 : Int32) : St := si (s_X7_add_2 S p0 p1) 41 (v_X7_add_3 S p0 p1)
def s_X7_add_5 (S : St) (p0 : Int32) (p1 : Int32) : St := si (s_X7_add_4 S p0 p1) 42 p0
def v_X7_add_6 (S : St) (p0 : Int32) (p1 : Int32) : Int32 := r_X10_isWithin (s_X7_add_5 S p0 p1) p0 (-16384) 16383
def v_X7_add_7 (S : St) (p0 : Int32) (p1 : Int32) : Int32 := if p1 = 0 then if (v_X7_add_6 S p0 p1) = 0 then 0 else 1 else 0
def v_X7_add_8 (S : St) (p0 : Int32) (p1 : Int32) : Int32 := ((s_X7_add_5 S p0 p1).1 43) + 1
def v_X7_add_9 (S : St) (p0 : Int32) (p1 : Int32) : Int32 := if (v_X7_add_7 S p0 p1) = 0 then 0 else (v_X7_add_8 S p0 p1)
def s_X7_add_10 (S : St) (p0 : Int32) (p1 : Int32) : St := si (s_X7_add_5 S p0 p1) 43 (v_X7_add_9 S p0 p1)
def s_X7_add (S : St) (p0 : Int32) (p1 : Int32) : St := (s_X7_add_10 S p0 p1)
def rm_X7_add : Room := { frames := 1, cells := 0, slots := 0, locals := 22 }
set_option maxRecDepth 100000 in
set_option maxHeartbeats 4000000 in
theorem k_X7_add (l : Launch) (D : va_G) (a : Nat → Nat) (cZ cI : ClassId) (S : St) (sz : Nat) (p0 : Int32) (p1 : Int32) : Met l yX7_add wsX7_add rm_X7_add (va_Pc [.ref (a 9), .int p0, .int p1] (pW D (tyZI cZ cI) (wP a cZ cI S) sz nP)) (va_Qv (fun u : St => u = s_X7_add S p0 p1) (fun u t => oW D (tyZI cZ cI) (wP a cZ cI u) (aA (adP a) sz) t) (aA (adP a) sz)) 0 0 (aA (adP a) sz) := by
  refine Met.ofW (cc := cX7_add) (maxL := 4) (ret := none) (by decide +kernel) rfl ?_
  intro p e s m args below meth c s₁ B hml hv
  obtain ⟨rfl, hsz, hP0, hK, hD9, hN⟩ := hv
  have hx := B.exec
  have hb := B.bytes
  have hr := B.returns
  have hts := atoms_spec (ws := wsX7_add) B.pre
  have hown : s.vm.findClass RX7 = some m.cls := findClass_of_methodNamed B.named
  have hlocks := B.notSynchronized
  subst hsz
  have hD0 := aA_self (sz := s.heap.size) (as := adP a) hD9 rfl
  generalize hAe : aA (adP a) s.heap.size = A at hD0 ⊢
  have hA : ∀ q : Nat, s.heap.size ≤ q → A q := fun q h => by rw [← hAe]; exact Or.inr h
  have hAc : ∀ q : Nat, q ∈ adP a → A q := fun q h => by rw [← hAe]; exact Or.inl h
  have hS0 : va_S A s.heap s.heap [] := va_S.rf
  have hl0 := lv_entry ([.ref (a 9), .int p0, .int p1]) (n := 4) (Nat.le_of_ble_eq_true rfl)
  rw [lg_entry_eq]
  generalize (lg_sl ([.ref (a 9), .int p0, .int p1]) ++ List.replicate (4 - (lg_sl ([.ref (a 9), .int p0, .int p1])).length) Slot.unset).toArray = ls0 at hl0 ⊢
  have hl0 : lv_has ls0 4 [(0, .ref (a 9)), (1, .int p0), (2, .int p1)] := hl0
  generalize hQ : MQ below _ _ s _ _ _ = Q
  clear hD9 B
  refine lv_aload_n hx hb dX7_add_0 rfl (lv_at hl0 0 rfl) ?_
  refine va_get (D := D) (ci := 7) (v := .ref (a 12)) (C := RX7) (T := TX7) (N := 4) hx hb hts (fun _ h => List.mem_cons_of_mem _ (List.mem_append_right _ (h))) hown hK hP0 9 rfl rfl 3 (by decide) (hts (.fieldLink RX7 21 "Phaselock$PhaseLog" "window" "[I") (List.mem_cons_of_mem _ (List.mem_append_left _ (List.mem_of_getElem? (i := 0) rfl)))) (fun _ h9 => h9) rfl dX7_add_1 ?_
  refine lv_aload_n hx hb dX7_add_4 rfl (lv_at hl0 0 rfl) ?_
  refine va_get (D := D) (ci := 7) (v := .int (S.1 41)) (C := RX7) (T := TX7) (N := 4) hx hb hts (fun _ h => List.mem_cons_of_mem _ (List.mem_append_right _ (h))) hown hK hP0 9 rfl rfl 0 (by decide) (hts (.fieldLink RX7 9 "Phaselock$PhaseLog" "count" "I") (List.mem_cons_of_mem _ (List.mem_append_left _ (List.mem_of_getElem? (i := 1) rfl)))) (fun _ h9 => h9) rfl dX7_add_5 ?_
  refine lv_bipush (v := 31) hx hb dX7_add_8 (by decide) ?_
  refine lv_iand hx hb dX7_add_10 ?_
  refine lv_asi (y := (v_X7_add_1 S p0 p1)) rfl ?_
  refine lv_iload_n hx hb dX7_add_11 rfl (lv_at hl0 1 rfl) ?_
  refine va_iast (D := D) hx hb hK hP0 hD0 hS0 12 1 rfl rfl (by exact pk_andIn _ 5 rfl (by decide)) dX7_add_12 (fun H1 L1 hP1 hD1 hS1 => ?_)
  replace hP1 : va_P D vwCl (wP a cZ cI (s_X7_add_2 S p0 p1)) H1 := cvP (wP_f a cZ cI S ((v_X7_add_1 S p0 p1)).toNatClampNeg p0) hP1
  replace hD1 : va_D A (wP a cZ cI (s_X7_add_2 S p0 p1)) := cvD (wP_f a cZ cI S ((v_X7_add_1 S p0 p1)).toNatClampNeg p0) hD1
  clear hP0 hD0 hS0
  refine lv_aload_n hx hb dX7_add_13 rfl (lv_at hl0 0 rfl) ?_
  refine lv_dup hx hb dX7_add_14 rfl ?_
  refine va_get (D := D) (ci := 7) (v := .int ((s_X7_add_2 S p0 p1).1 41)) (C := RX7) (T := TX7) (N := 4) hx hb hts (fun _ h => List.mem_cons_of_mem _ (List.mem_append_right _ (h))) hown hK hP1 9 rfl rfl 0 (by decide) (hts (.fieldLink RX7 9 "Phaselock$PhaseLog" "count" "I") (List.mem_cons_of_mem _ (List.mem_append_left _ (List.mem_of_getElem? (i := 1) rfl)))) (fun _ h9 => h9) rfl dX7_add_15 ?_
  refine lv_iconst (v := 1) hx hb dX7_add_18 (by decide) ?_
  refine lv_iadd hx hb dX7_add_19 ?_
  refine lv_asi (y := (v_X7_add_3 S p0 p1)) rfl ?_
  refine va_put (D := D) (ci := 7) (v := .int (v_X7_add_3 S p0 p1)) (ty := .int) (C := RX7) (T := TX7) (N := 4) hx hb hts (fun _ h => List.mem_cons_of_mem _ (List.mem_append_right _ (h))) tyX7 tyX7_ok nmX7 hown hK hP1 hD1 hS1 9 rfl rfl 0 (by decide) (hts (.fieldLink RX7 9 "Phaselock$PhaseLog" "count" "I") (List.mem_cons_of_mem _ (List.mem_append_left _ (List.mem_of_getElem? (i := 1) rfl)))) (fun _ h9 => h9) rfl (by decide +kernel) rfl rfl (Nat.le_of_ble_eq_true rfl) dX7_add_20 (fun H2 L2 hP2 hD2 hS2 => ?_)
  replace hP2 : va_P D vwCl (wP a cZ cI (s_X7_add_4 S p0 p1)) H2 := cvP (wP_s41 a cZ cI (s_X7_add_2 S p0 p1) (v_X7_add_3 S p0 p1)) hP2
  replace hD2 : va_D A (wP a cZ cI (s_X7_add_4 S p0 p1)) := cvD (wP_s41 a cZ cI (s_X7_add_2 S p0 p1) (v_X7_add_3 S p0 p1)) hD2
  clear hP1 hD1 hS1
  refine lv_aload_n hx hb dX7_add_23 rfl (lv_at hl0 0 rfl) ?_
  refine lv_iload_n hx hb dX7_add_24 rfl (lv_at hl0 1 rfl) ?_
  refine va_put (D := D) (ci := 7) (v := .int p0) (ty := .int) (C := RX7) (T := TX7) (N := 4) hx hb hts (fun _ h => List.mem_cons_of_mem _ (List.mem_append_right _ (h))) tyX7 tyX7_ok nmX7 hown hK hP2 hD2 hS2 9 rfl rfl 1 (by decide) (hts (.fieldLink RX7 15 "Phaselock$PhaseLog" "latest" "I") (List.mem_cons_of_mem _ (List.mem_append_left _ (List.mem_of_getElem? (i := 2) rfl)))) (fun _ h9 => h9) rfl (by decide +kernel) rfl rfl (Nat.le_of_ble_eq_true rfl) dX7_add_25 (fun H3 L3 hP3 hD3 hS3 => ?_)
  replace hP3 : va_P D vwCl (wP a cZ cI (s_X7_add_5 S p0 p1)) H3 := cvP (wP_s42 a cZ cI (s_X7_add_4 S p0 p1) p0) hP3
  replace hD3 : va_D A (wP a cZ cI (s_X7_add_5 S p0 p1)) := cvD (wP_s42 a cZ cI (s_X7_add_4 S p0 p1) p0) hD3
  clear hP2 hD2 hS2
  refine lv_iload_n hx hb dX7_add_28 rfl (lv_at hl0 2 rfl) ?_
  have J1_29 : ∀ (H5 : Heap) (L5 : List Loc), va_P D vwCl (wP a cZ cI (s_X7_add_5 S p0 p1)) H5 → va_D A (wP a cZ cI (s_X7_add_5 S p0 p1)) → va_S A s.heap H5 L5 → W p l e (headSpec wsX7_add rm_X7_add).room s m ([.ref (a 9), .int p0, .int p1] : List Value).toArray below meth c H5 L5 0 0 Q (F0 m 50 ls0 [.int (v_X7_add_7 S p0 p1)]) := by
    intro H5 L5 hP5 hD5 hS5
    clear hP3 hD3 hS3
    refine lv_istore_n (lv' := [(3, .int (v_X7_add_7 S p0 p1)), (0, .ref (a 9)), (1, .int p0), (2, .int p1)]) hx hb dX7_add_50 rfl hl0 (by decide) rfl (fun ls1 hl1 => ?_)
    clear hl0
    refine lv_aload_n hx hb dX7_add_51 rfl (lv_at hl1 1 rfl) ?_
    refine lv_iload_n hx hb dX7_add_52 rfl (lv_at hl1 0 rfl) ?_
    have J2_53 : W p l e (headSpec wsX7_add rm_X7_add).room s m ([.ref (a 9), .int p0, .int p1] : List Value).toArray below meth c H5 L5 0 0 Q (F0 m 66 ls1 [.int (v_X7_add_9 S p0 p1), .ref (a 9)]) := by
      refine va_put (D := D) (ci := 7) (v := .int (v_X7_add_9 S p0 p1)) (ty := .int) (C := RX7) (T := TX7) (N := 4) hx hb hts (fun _ h => List.mem_cons_of_mem _ (List.mem_append_right _ (h))) tyX7 tyX7_ok nmX7 hown hK hP5 hD5 hS5 9 rfl rfl 2 (by decide) (hts (.fieldLink RX7 18 "Phaselock$PhaseLog" "steadyCount" "I") (List.mem_cons_of_mem _ (List.mem_append_left _ (List.mem_of_getElem? (i := 3) rfl)))) (fun _ h9 => h9) rfl (by decide +kernel) rfl rfl (Nat.le_of_ble_eq_true rfl) dX7_add_66 (fun H6 L6 hP6 hD6 hS6 => ?_)
      replace hP6 : va_P D vwCl (wP a cZ cI (s_X7_add_10 S p0 p1)) H6 := cvP (wP_s43 a cZ cI (s_X7_add_5 S p0 p1) (v_X7_add_9 S p0 p1)) hP6
      replace hD6 : va_D A (wP a cZ cI (s_X7_add_10 S p0 p1)) := cvD (wP_s43 a cZ cI (s_X7_add_5 S p0 p1) (v_X7_add_9 S p0 p1)) hD6
      clear hP5 hD5 hS5
      subst hQ; exact W.vret hx hb hr (fun t ht hW => ⟨⟨(s_X7_add_10 S p0 p1), rfl, (show (s_X7_add_10 S p0 p1) = s_X7_add S p0 p1 from rfl), endW hP6 hK hD6 ht hW⟩, hS6.F ht⟩) hS6.2.2 dX7_add_69
    refine lv_if_eq (tgt := 65) hx hb dX7_add_53 (by decide) (fun c3_53 => ?_) (fun c3_53 => ?_)
    · refine lv_iconst (v := 0) hx hb dX7_add_65 (by decide) ?_
      refine lv_asi (y := (v_X7_add_9 S p0 p1)) (show (v_X7_add_9 S p0 p1) = 0 from (if_pos c3_53)).symm ?_
      exact J2_53
    · refine lv_aload_n hx hb dX7_add_56 rfl (lv_at hl1 1 rfl) ?_
      refine va_get (D := D) (ci := 7) (v := .int ((s_X7_add_5 S p0 p1).1 43)) (C := RX7) (T := TX7) (N := 4) hx hb hts (fun _ h => List.mem_cons_of_mem _ (List.mem_append_right _ (h))) hown hK hP5 9 rfl rfl 2 (by decide) (hts (.fieldLink RX7 18 "Phaselock$PhaseLog" "steadyCount" "I") (List.mem_cons_of_mem _ (List.mem_append_left _ (List.mem_of_getElem? (i := 3) rfl)))) (fun _ h9 => h9) rfl dX7_add_57 ?_
      refine lv_iconst (v := 1) hx hb dX7_add_60 (by decide) ?_
      refine lv_iadd hx hb dX7_add_61 ?_
      refine lv_asi (y := (v_X7_add_8 S p0 p1)) rfl ?_
      refine lv_goto (tgt := 66) hx hb dX7_add_62 (by decide) ?_
      refine lv_asi (y := (v_X7_add_9 S p0 p1)) (show (v_X7_add_9 S p0 p1) = (v_X7_add_8 S p0 p1) from (if_neg c3_53)).symm ?_
      exact J2_53
  refine lv_if_ne (tgt := 49) hx hb dX7_add_29 (by decide) (fun c1_29 => ?_) (fun c1_29 => ?_)
  · refine lv_iconst (v := 0) hx hb dX7_add_49 (by decide) ?_
    refine lv_asi (y := (v_X7_add_7 S p0 p1)) (show (v_X7_add_7 S p0 p1) = 0 from (if_neg c1_29)).symm ?_
    exact J1_29 _ _ hP3 hD3 hS3
  · refine lv_iload_n hx hb dX7_add_32 rfl (lv_at hl0 1 rfl) ?_
    refine lv_sipush (v := (-16384)) hx hb dX7_add_33 (by decide) ?_
    refine lv_sipush (v := 16383) hx hb dX7_add_36 (by decide) ?_
    refine va_calli (va_runSN (As := [.int p0, .int (-16384), .int 16383]) (rest := []) ⟨hx, hb, hml, hown, hts⟩ (k_X10_isWithin l D a cZ cI (s_X7_add_5 S p0 p1) H3.size p0 (-16384) 16383) ⟨va_cnB 3 hts gX7_add_X10_isWithin_n25 rfl rfl rfl hN.2.1 (hts (.initialized RX10) (List.mem_cons_of_mem _ (List.mem_append_left _ (List.mem_of_getElem? (i := 5) rfl)))) (by decide +kernel) ⟨Nat.le_of_ble_eq_true rfl, Nat.le_of_ble_eq_true rfl⟩, (hts (.static yX10_isWithin) (List.mem_cons_of_mem _ (List.mem_append_left _ (List.mem_of_getElem? (i := 4) rfl)))), trivial⟩ ⟨blW okN_P, preW hP3 hK hD3 okN_P hN⟩ rfl rfl hl0.1 rfl (lv_room (Nat.le_of_ble_eq_true rfl)) dX7_add_39 ⟨Nat.zero_le _, Nat.zero_le _⟩) hS3 (aA_in hAc) (aA_free hAc hA hS3) (fun r4 u4 t4 H4 L4 ht4 hvm4 hw4 hB4 _ _ hS4 => ?_)
    obtain ⟨hP4, hD4⟩ := backW hB4 ht4 (aA_free hAc hA hS3)
    clear hB4 ht4 hvm4 t4
    obtain ⟨hu4, hr4⟩ := hw4
    subst u4; subst r4
    clear hP3 hD3 hS3
    refine lv_asi (y := (v_X7_add_6 S p0 p1)) rfl ?_
    refine lv_if_eq (tgt := 49) hx hb dX7_add_42 (by decide) (fun c2_42 => ?_) (fun c2_42 => ?_)
    · refine lv_iconst (v := 0) hx hb dX7_add_49 (by decide) ?_
      refine lv_asi (y := (v_X7_add_7 S p0 p1)) (show (v_X7_add_7 S p0 p1) = 0 from ((if_pos c1_29).trans (if_pos c2_42))).symm ?_
      exact J1_29 _ _ hP4 hD4 hS4
    · refine lv_iconst (v := 1) hx hb dX7_add_45 (by decide) ?_
      refine lv_goto (tgt := 50) hx hb dX7_add_46 (by decide) ?_
      refine lv_asi (y := (v_X7_add_7 S p0 p1)) (show (v_X7_add_7 S p0 p1) = 1 from ((if_pos c1_29).trans (if_neg c2_42))).symm ?_
      exact J1_29 _ _ hP4 hD4 hS4

def v_X7_isSteady_1 (S : St) : Int32 := if (S.1 43) < 32 then 0 else 1
def r_X7_isSteady (S : St) : Int32 := (v_X7_isSteady_1 S)
def rm_X7_isSteady : Room := { frames := 0, cells := 0, slots := 0, locals := 0 }
set_option maxRecDepth 100000 in
set_option maxHeartbeats 4000000 in
theorem k_X7_isSteady (l : Launch) (D : va_G) (a : Nat → Nat) (cZ cI : ClassId) (S : St) (sz : Nat) : Met l yX7_isSteady wsX7_isSteady rm_X7_isSteady (va_Pc [.ref (a 9)] (pW D (tyZI cZ cI) (wP a cZ cI S) sz nP)) (va_Qi (fun (r : Int32) (u : St) => u = S ∧ r = r_X7_isSteady S) (fun u t => oW D (tyZI cZ cI) (wP a cZ cI u) (aA (adP a) sz) t) (aA (adP a) sz)) 0 0 (aA (adP a) sz) := by
  refine Met.ofW (cc := cX7_isSteady) (maxL := 1) (ret := (some .boolean)) (by decide +kernel) rfl ?_
  intro p e s m args below meth c s₁ B hml hv
  obtain ⟨rfl, hsz, hP0, hK, hD9, hN⟩ := hv
  have hx := B.exec
  have hb := B.bytes
  have hr := B.returns
  have hts := atoms_spec (ws := wsX7_isSteady) B.pre
  have hown : s.vm.findClass RX7 = some m.cls := findClass_of_methodNamed B.named
  have hlocks := B.notSynchronized
  subst hsz
  have hD0 := aA_self (sz := s.heap.size) (as := adP a) hD9 rfl
  generalize hAe : aA (adP a) s.heap.size = A at hD0 ⊢
  have hA : ∀ q : Nat, s.heap.size ≤ q → A q := fun q h => by rw [← hAe]; exact Or.inr h
  have hAc : ∀ q : Nat, q ∈ adP a → A q := fun q h => by rw [← hAe]; exact Or.inl h
  have hS0 : va_S A s.heap s.heap [] := va_S.rf
  have hl0 := lv_entry ([.ref (a 9)]) (n := 1) (Nat.le_of_ble_eq_true rfl)
  rw [lg_entry_eq]
  generalize (lg_sl ([.ref (a 9)]) ++ List.replicate (1 - (lg_sl ([.ref (a 9)])).length) Slot.unset).toArray = ls0 at hl0 ⊢
  have hl0 : lv_has ls0 1 [(0, .ref (a 9))] := hl0
  generalize hQ : MQ below _ _ s _ _ _ = Q
  clear hD9 B
  refine lv_aload_n hx hb dX7_isSteady_0 rfl (lv_at hl0 0 rfl) ?_
  refine va_get (D := D) (ci := 7) (v := .int (S.1 43)) (C := RX7) (T := TX7) (N := 4) hx hb hts (fun _ h => List.mem_cons_of_mem _ (List.mem_append_right _ (h))) hown hK hP0 9 rfl rfl 2 (by decide) (hts (.fieldLink RX7 18 "Phaselock$PhaseLog" "steadyCount" "I") (List.mem_cons_of_mem _ (List.mem_append_left _ (List.mem_of_getElem? (i := 0) rfl)))) (fun _ h9 => h9) rfl dX7_isSteady_1 ?_
  refine lv_bipush (v := 32) hx hb dX7_isSteady_4 (by decide) ?_
  have J1_6 : W p l e (headSpec wsX7_isSteady rm_X7_isSteady).room s m ([.ref (a 9)] : List Value).toArray below meth c s.heap [] 0 0 Q (F0 m 14 ls0 [.int (v_X7_isSteady_1 S)]) := by
    subst hQ; exact W.zret (v := (v_X7_isSteady_1 S)) hx hb hr (by unfold v_X7_isSteady_1; (repeat' split) <;> decide) (fun t ht hW => ⟨⟨(v_X7_isSteady_1 S), S, rfl, ⟨rfl, (show (v_X7_isSteady_1 S) = r_X7_isSteady S from rfl)⟩, endW hP0 hK hD0 ht hW⟩, hS0.F ht⟩) hS0.2.2 dX7_isSteady_14
  refine lv_icmp_lt (tgt := 13) hx hb dX7_isSteady_6 (by decide) (fun c1_6 => ?_) (fun c1_6 => ?_)
  · refine lv_iconst (v := 0) hx hb dX7_isSteady_13 (by decide) ?_
    refine lv_asi (y := (v_X7_isSteady_1 S)) (show (v_X7_isSteady_1 S) = 0 from (if_pos c1_6)).symm ?_
    exact J1_6
  · refine lv_iconst (v := 1) hx hb dX7_isSteady_9 (by decide) ?_
    refine lv_goto (tgt := 14) hx hb dX7_isSteady_10 (by decide) ?_
    refine lv_asi (y := (v_X7_isSteady_1 S)) (show (v_X7_isSteady_1 S) = 1 from (if_neg c1_6)).symm ?_
    exact J1_6
theorem z_X7_isSteady (S : St) : narrow .boolean (.int (r_X7_isSteady S)) = .int (r_X7_isSteady S) := by
  unfold r_X7_isSteady
  first
    | ((repeat' split) <;> decide)
    | (simp only [v_X7_isSteady_1]; (repeat' split) <;> decide)

def sabs (S : St) : Nat → Int32
  | 0 => 0
  | i + 1 => sabs S i + (if 0 ≤ S.2.2.2 (nI i).toNatClampNeg then S.2.2.2 (nI i).toNatClampNeg else 0 - S.2.2.2 (nI i).toNatClampNeg)
def v_X7_sumAbsolutes_2 (S : St) (i : Nat) : Int32 := S.2.2.2 ((nI i)).toNatClampNeg
def v_X7_sumAbsolutes_3 (S : St) (i : Nat) : Int32 := if 0 ≤ (v_X7_sumAbsolutes_2 S i) then (v_X7_sumAbsolutes_2 S i) else 0 - (v_X7_sumAbsolutes_2 S i)
def v_X7_sumAbsolutes_4 (S : St) (i : Nat) : Int32 := (sabs S i) + (v_X7_sumAbsolutes_3 S i)
def v_X7_sumAbsolutes_5 (S : St) (i : Nat) : Int32 := (nI i) + 1
def r_X7_sumAbsolutes (S : St) : Int32 := (sabs S 32)
def rm_X7_sumAbsolutes : Room := { frames := 1, cells := 0, slots := 0, locals := 21 }
set_option maxRecDepth 100000 in
set_option maxHeartbeats 4000000 in
theorem k_X7_sumAbsolutes (l : Launch) (D : va_G) (a : Nat → Nat) (cZ cI : ClassId) (S : St) (sz : Nat) : Met l yX7_sumAbsolutes wsX7_sumAbsolutes rm_X7_sumAbsolutes (va_Pc [.ref (a 9)] (pW D (tyZI cZ cI) (wP a cZ cI S) sz nP)) (va_Qi (fun (r : Int32) (u : St) => u = S ∧ r = r_X7_sumAbsolutes S) (fun u t => oW D (tyZI cZ cI) (wP a cZ cI u) (aA (adP a) sz) t) (aA (adP a) sz)) 0 0 (aA (adP a) sz) := by
  refine Met.ofW (cc := cX7_sumAbsolutes) (maxL := 3) (ret := (some .int)) (by decide +kernel) rfl ?_
  intro p e s m args below meth c s₁ B hml hv
  obtain ⟨rfl, hsz, hP0, hK, hD9, hN⟩ := hv
  have hx := B.exec
  have hb := B.bytes
  have hr := B.returns
  have hts := atoms_spec (ws := wsX7_sumAbsolutes) B.pre
  have hown : s.vm.findClass RX7 = some m.cls := findClass_of_methodNamed B.named
  have hlocks := B.notSynchronized
  subst hsz
  have hD0 := aA_self (sz := s.heap.size) (as := adP a) hD9 rfl
  generalize hAe : aA (adP a) s.heap.size = A at hD0 ⊢
  have hA : ∀ q : Nat, s.heap.size ≤ q → A q := fun q h => by rw [← hAe]; exact Or.inr h
  have hAc : ∀ q : Nat, q ∈ adP a → A q := fun q h => by rw [← hAe]; exact Or.inl h
  have hS0 : va_S A s.heap s.heap [] := va_S.rf
  have hl0 := lv_entry ([.ref (a 9)]) (n := 3) (Nat.le_of_ble_eq_true rfl)
  rw [lg_entry_eq]
  generalize (lg_sl ([.ref (a 9)]) ++ List.replicate (3 - (lg_sl ([.ref (a 9)])).length) Slot.unset).toArray = ls0 at hl0 ⊢
  have hl0 : lv_has ls0 3 [(0, .ref (a 9))] := hl0
  generalize hQ : MQ below _ _ s _ _ _ = Q
  clear hD9 B
  refine lv_iconst (v := 0) hx hb dX7_sumAbsolutes_0 (by decide) ?_
  refine lv_istore_n (lv' := [(1, .int 0), (0, .ref (a 9))]) hx hb dX7_sumAbsolutes_1 rfl hl0 (by decide) rfl (fun ls1 hl1 => ?_)
  clear hl0
  refine lv_iconst (v := 0) hx hb dX7_sumAbsolutes_2 (by decide) ?_
  refine lv_istore_n (lv' := [(2, .int 0), (1, .int 0), (0, .ref (a 9))]) hx hb dX7_sumAbsolutes_3 rfl hl1 (by decide) rfl (fun ls2 hl2 => ?_)
  clear hl1
  have LOOP : ∀ (n i : Nat), i ≤ 32 → 32 < i + n → ∀ (H1 : Heap) (L1 : List Loc), va_P D vwCl (wP a cZ cI S) H1 → va_D A (wP a cZ cI S) → va_S A s.heap H1 L1 → ∀ ls3 : Array Slot, lv_has ls3 3 [(2, .int (nI i)), (1, .int (sabs S i)), (0, .ref (a 9))] → W p l e (headSpec wsX7_sumAbsolutes rm_X7_sumAbsolutes).room s m ([.ref (a 9)] : List Value).toArray below meth c H1 L1 0 0 Q (F0 m 4 ls3 []) := by
    clear hP0 hD0 hS0 hl2
    intro n
    induction n with
    | zero => exact fun i h1 h2 => absurd h2 (by omega)
    | succ n ih =>
      intro i hi hin H1 L1 hP1 hD1 hS1 ls3 hl3
      refine lv_iload_n hx hb dX7_sumAbsolutes_4 rfl (lv_at hl3 0 rfl) ?_
      refine lv_bipush (v := 32) hx hb dX7_sumAbsolutes_5 (by decide) ?_
      refine lv_icmp_ge (tgt := 28) hx hb dX7_sumAbsolutes_7 (by decide) (fun c1_7 => ?_) (fun c1_7 => ?_)
      · have hie : i = 32 := lp_ge (N := 32) (by decide) hi c1_7
        subst hie
        refine lv_iload_n hx hb dX7_sumAbsolutes_28 rfl (lv_at hl3 1 rfl) ?_
        subst hQ; exact W.iret (v := (sabs S 32)) hx hb hr (fun t ht hW => ⟨⟨(sabs S 32), S, rfl, ⟨rfl, (show (sabs S 32) = r_X7_sumAbsolutes S from rfl)⟩, endW hP1 hK hD1 ht hW⟩, hS1.F ht⟩) hS1.2.2 dX7_sumAbsolutes_29
      · have hlt : i < 32 := lp_lt (N := 32) (by decide) hi c1_7
        refine lv_iload_n hx hb dX7_sumAbsolutes_10 rfl (lv_at hl3 1 rfl) ?_
        refine lv_aload_n hx hb dX7_sumAbsolutes_11 rfl (lv_at hl3 2 rfl) ?_
        refine va_get (D := D) (ci := 7) (v := .ref (a 12)) (C := RX7) (T := TX7) (N := 4) hx hb hts (fun _ h => List.mem_cons_of_mem _ (List.mem_append_right _ (h))) hown hK hP1 9 rfl rfl 3 (by decide) (hts (.fieldLink RX7 21 "Phaselock$PhaseLog" "window" "[I") (List.mem_cons_of_mem _ (List.mem_append_left _ (List.mem_of_getElem? (i := 0) rfl)))) (fun _ h9 => h9) rfl dX7_sumAbsolutes_12 ?_
        refine lv_iload_n hx hb dX7_sumAbsolutes_15 rfl (lv_at hl3 0 rfl) ?_
        refine va_iald (D := D) hx hb hK hP1 12 1 rfl rfl (vp_in_nI hlt (by decide)) dX7_sumAbsolutes_16 ?_
        refine lv_asi (y := (v_X7_sumAbsolutes_2 S i)) rfl ?_
        refine va_mabs hx hb (hml.trans hl3.1.symm) hown (hts (.methodLink RX7 29 Lib.Math.abs.name) (List.mem_cons_of_mem _ (List.mem_append_left _ (List.mem_of_getElem? (i := 1) rfl)))) (hts (.static Lib.Math.abs.name) (List.mem_cons_of_mem _ (List.mem_append_left _ (List.mem_of_getElem? (i := 2) rfl)))) (hts (.initialized "java/lang/Math") (List.mem_cons_of_mem _ (List.mem_append_left _ (List.mem_of_getElem? (i := 3) rfl)))) (hts (.code Lib.Math.abs.name Lib.Math.abs.code 1 (some .int)) (List.mem_cons_of_mem _ (List.mem_append_left _ (List.mem_of_getElem? (i := 4) rfl)))) (Nat.le_of_ble_eq_true rfl) (Nat.le_of_ble_eq_true rfl) (Nat.le_refl 0) (Nat.le_refl 0) dX7_sumAbsolutes_17 ?_
        refine lv_asi (y := (v_X7_sumAbsolutes_3 S i)) rfl ?_
        refine lv_iadd hx hb dX7_sumAbsolutes_20 ?_
        refine lv_asi (y := (v_X7_sumAbsolutes_4 S i)) rfl ?_
        refine lv_istore_n (lv' := [(1, .int (v_X7_sumAbsolutes_4 S i)), (2, .int (nI i)), (0, .ref (a 9))]) hx hb dX7_sumAbsolutes_21 rfl hl3 (by decide) rfl (fun ls4 hl4 => ?_)
        clear hl3
        refine lv_iinc (v := (v_X7_sumAbsolutes_5 S i)) (lv' := [(2, .int (v_X7_sumAbsolutes_5 S i)), (1, .int (v_X7_sumAbsolutes_4 S i)), (0, .ref (a 9))]) hx hb dX7_sumAbsolutes_22 hl4 (k := 1) rfl rfl (by decide) rfl (fun ls5 hl5 => ?_)
        clear hl4
        refine lv_goto (tgt := 4) hx hb dX7_sumAbsolutes_25 (by decide) ?_
        exact ih (i + 1) (by omega) (by omega) _ _ hP1 hD1 hS1 _ (by rw [show (nI (i + 1)) = (v_X7_sumAbsolutes_5 S i) from (nI_1 i).symm, show (sabs S (i + 1)) = (v_X7_sumAbsolutes_4 S i) from rfl]; exact lv_sub (l' := [(2, .int (v_X7_sumAbsolutes_5 S i)), (1, .int (v_X7_sumAbsolutes_4 S i)), (0, .ref (a 9))]) hl5 [0, 1, 2] rfl)
  exact LOOP (32 + 1) 0 (Nat.zero_le _) (by omega) _ _ hP0 hD0 hS0 _ (lv_sub (l' := [(2, .int (nI 0)), (1, .int (sabs S 0)), (0, .ref (a 9))]) hl2 [0, 1, 2] rfl)

def v_X8_compare_1 (S : St) (p0 : Int32) : Int32 := p0 - (S.1 26)
def v_X8_compare_2 (S : St) (p0 : Int32) : Int32 := if (S.1 40) = 0 then 1 else (v_X8_compare_1 S p0)
def s_X8_compare_3 (S : St) (p0 : Int32) : St := si S 40 1
def s_X8_compare_4 (S : St) (p0 : Int32) : St := si (s_X8_compare_3 S p0) 26 p0
def v_X8_compare_5 (S : St) (p0 : Int32) : Int32 := (v_X8_compare_2 S p0) - 1
def v_X8_compare_6 (S : St) (p0 : Int32) : Int32 := ((s_X8_compare_4 S p0).1 28) + (v_X8_compare_5 S p0)
def s_X8_compare_7 (S : St) (p0 : Int32) : St := si (s_X8_compare_4 S p0) 28 (v_X8_compare_6 S p0)
def v_X8_compare_8 (S : St) (p0 : Int32) : Int32 := ((s_X8_compare_4 S p0).1 27) + 1
def s_X8_compare_9 (S : St) (p0 : Int32) : St := si (s_X8_compare_4 S p0) 27 (v_X8_compare_8 S p0)
def s_X8_compare_10 (S : St) (p0 : Int32) : St := if (v_X8_compare_2 S p0) = 0 then (s_X8_compare_9 S p0) else if (v_X8_compare_2 S p0) ≤ 1 then (s_X8_compare_4 S p0) else (s_X8_compare_7 S p0)
def v_X8_compare_11 (S : St) (p0 : Int32) : Int32 := if (v_X8_compare_2 S p0) = 1 then 0 else 1
def s_X8_compare (S : St) (p0 : Int32) : St := (s_X8_compare_10 S p0)
def r_X8_compare (S : St) (p0 : Int32) : Int32 := (v_X8_compare_11 S p0)
def rm_X8_compare : Room := { frames := 0, cells := 0, slots := 0, locals := 0 }
set_option maxRecDepth 100000 in
set_option maxHeartbeats 4000000 in
theorem k_X8_compare (l : Launch) (D : va_G) (a : Nat → Nat) (cZ cI : ClassId) (S : St) (sz : Nat) (p0 : Int32) : Met l yX8_compare wsX8_compare rm_X8_compare (va_Pc [.ref (a 8), .int p0] (pW D (tyZI cZ cI) (wP a cZ cI S) sz nP)) (va_Qi (fun (r : Int32) (u : St) => u = s_X8_compare S p0 ∧ r = r_X8_compare S p0) (fun u t => oW D (tyZI cZ cI) (wP a cZ cI u) (aA (adP a) sz) t) (aA (adP a) sz)) 0 0 (aA (adP a) sz) := by
  refine Met.ofW (cc := cX8_compare) (maxL := 3) (ret := (some .boolean)) (by decide +kernel) rfl ?_
  intro p e s m args below meth c s₁ B hml hv
  obtain ⟨rfl, hsz, hP0, hK, hD9, hN⟩ := hv
  have hx := B.exec
  have hb := B.bytes
  have hr := B.returns
  have hts := atoms_spec (ws := wsX8_compare) B.pre
  have hown : s.vm.findClass RX8 = some m.cls := findClass_of_methodNamed B.named
  have hlocks := B.notSynchronized
  subst hsz
  have hD0 := aA_self (sz := s.heap.size) (as := adP a) hD9 rfl
  generalize hAe : aA (adP a) s.heap.size = A at hD0 ⊢
  have hA : ∀ q : Nat, s.heap.size ≤ q → A q := fun q h => by rw [← hAe]; exact Or.inr h
  have hAc : ∀ q : Nat, q ∈ adP a → A q := fun q h => by rw [← hAe]; exact Or.inl h
  have hS0 : va_S A s.heap s.heap [] := va_S.rf
  have hl0 := lv_entry ([.ref (a 8), .int p0]) (n := 3) (Nat.le_of_ble_eq_true rfl)
  rw [lg_entry_eq]
  generalize (lg_sl ([.ref (a 8), .int p0]) ++ List.replicate (3 - (lg_sl ([.ref (a 8), .int p0])).length) Slot.unset).toArray = ls0 at hl0 ⊢
  have hl0 : lv_has ls0 3 [(0, .ref (a 8)), (1, .int p0)] := hl0
  generalize hQ : MQ below _ _ s _ _ _ = Q
  clear hD9 B
  refine lv_aload_n hx hb dX8_compare_0 rfl (lv_at hl0 0 rfl) ?_
  refine va_get (D := D) (ci := 8) (v := .int (S.1 40)) (C := RX8) (T := TX8) (N := 4) hx hb hts (fun _ h => List.mem_cons_of_mem _ (List.mem_append_right _ (h))) hown hK hP0 8 rfl rfl 2 (by decide) (hts (.fieldLink RX8 16 "Phaselock$SlipCounter" "hasStrobed" "Z") (List.mem_cons_of_mem _ (List.mem_append_left _ (List.mem_of_getElem? (i := 0) rfl)))) (fun _ h9 => h9) rfl dX8_compare_1 ?_
  have J1_4 : W p l e (headSpec wsX8_compare rm_X8_compare).room s m ([.ref (a 8), .int p0] : List Value).toArray below meth c s.heap [] 0 0 Q (F0 m 17 ls0 [.int (v_X8_compare_2 S p0)]) := by
    refine lv_istore_n (lv' := [(2, .int (v_X8_compare_2 S p0)), (0, .ref (a 8)), (1, .int p0)]) hx hb dX8_compare_17 rfl hl0 (by decide) rfl (fun ls1 hl1 => ?_)
    clear hl0
    refine lv_aload_n hx hb dX8_compare_18 rfl (lv_at hl1 1 rfl) ?_
    refine lv_iconst (v := 1) hx hb dX8_compare_19 (by decide) ?_
    refine va_put (D := D) (ci := 8) (v := .int 1) (ty := .boolean) (C := RX8) (T := TX8) (N := 4) hx hb hts (fun _ h => List.mem_cons_of_mem _ (List.mem_append_right _ (h))) tyX8 tyX8_ok nmX8 hown hK hP0 hD0 hS0 8 rfl rfl 2 (by decide) (hts (.fieldLink RX8 16 "Phaselock$SlipCounter" "hasStrobed" "Z") (List.mem_cons_of_mem _ (List.mem_append_left _ (List.mem_of_getElem? (i := 0) rfl)))) (fun _ h9 => h9) rfl (by decide +kernel) rfl rfl (Nat.le_of_ble_eq_true rfl) dX8_compare_20 (fun H1 L1 hP1 hD1 hS1 => ?_)
    replace hP1 : va_P D vwCl (wP a cZ cI (s_X8_compare_3 S p0)) H1 := cvP (wP_s40 a cZ cI S 1) hP1
    replace hD1 : va_D A (wP a cZ cI (s_X8_compare_3 S p0)) := cvD (wP_s40 a cZ cI S 1) hD1
    clear hP0 hD0 hS0
    refine lv_aload_n hx hb dX8_compare_23 rfl (lv_at hl1 1 rfl) ?_
    refine lv_iload_n hx hb dX8_compare_24 rfl (lv_at hl1 2 rfl) ?_
    refine va_put (D := D) (ci := 8) (v := .int p0) (ty := .int) (C := RX8) (T := TX8) (N := 4) hx hb hts (fun _ h => List.mem_cons_of_mem _ (List.mem_append_right _ (h))) tyX8 tyX8_ok nmX8 hown hK hP1 hD1 hS1 8 rfl rfl 3 (by decide) (hts (.fieldLink RX8 20 "Phaselock$SlipCounter" "numberBefore" "I") (List.mem_cons_of_mem _ (List.mem_append_left _ (List.mem_of_getElem? (i := 1) rfl)))) (fun _ h9 => h9) rfl (by decide +kernel) rfl rfl (Nat.le_of_ble_eq_true rfl) dX8_compare_25 (fun H2 L2 hP2 hD2 hS2 => ?_)
    replace hP2 : va_P D vwCl (wP a cZ cI (s_X8_compare_4 S p0)) H2 := cvP (wP_s26 a cZ cI (s_X8_compare_3 S p0) p0) hP2
    replace hD2 : va_D A (wP a cZ cI (s_X8_compare_4 S p0)) := cvD (wP_s26 a cZ cI (s_X8_compare_3 S p0) p0) hD2
    clear hP1 hD1 hS1
    refine lv_iload_n hx hb dX8_compare_28 rfl (lv_at hl1 0 rfl) ?_
    have J2_29 : ∀ (H4 : Heap) (L4 : List Loc), va_P D vwCl (wP a cZ cI (s_X8_compare_10 S p0)) H4 → va_D A (wP a cZ cI (s_X8_compare_10 S p0)) → va_S A s.heap H4 L4 → W p l e (headSpec wsX8_compare rm_X8_compare).room s m ([.ref (a 8), .int p0] : List Value).toArray below meth c H4 L4 0 0 Q (F0 m 62 ls1 []) := by
      intro H4 L4 hP4 hD4 hS4
      clear hP2 hD2 hS2
      refine lv_iload_n hx hb dX8_compare_62 rfl (lv_at hl1 0 rfl) ?_
      refine lv_iconst (v := 1) hx hb dX8_compare_63 (by decide) ?_
      have J3_64 : W p l e (headSpec wsX8_compare rm_X8_compare).room s m ([.ref (a 8), .int p0] : List Value).toArray below meth c H4 L4 0 0 Q (F0 m 72 ls1 [.int (v_X8_compare_11 S p0)]) := by
        subst hQ; exact W.zret (v := (v_X8_compare_11 S p0)) hx hb hr (by unfold v_X8_compare_11; (repeat' split) <;> decide) (fun t ht hW => ⟨⟨(v_X8_compare_11 S p0), (s_X8_compare_10 S p0), rfl, ⟨(show (s_X8_compare_10 S p0) = s_X8_compare S p0 from rfl), (show (v_X8_compare_11 S p0) = r_X8_compare S p0 from rfl)⟩, endW hP4 hK hD4 ht hW⟩, hS4.F ht⟩) hS4.2.2 dX8_compare_72
      refine lv_icmp_eq (tgt := 71) hx hb dX8_compare_64 (by decide) (fun c4_64 => ?_) (fun c4_64 => ?_)
      · refine lv_iconst (v := 0) hx hb dX8_compare_71 (by decide) ?_
        refine lv_asi (y := (v_X8_compare_11 S p0)) (show (v_X8_compare_11 S p0) = 0 from (if_pos c4_64)).symm ?_
        exact J3_64
      · refine lv_iconst (v := 1) hx hb dX8_compare_67 (by decide) ?_
        refine lv_goto (tgt := 72) hx hb dX8_compare_68 (by decide) ?_
        refine lv_asi (y := (v_X8_compare_11 S p0)) (show (v_X8_compare_11 S p0) = 1 from (if_neg c4_64)).symm ?_
        exact J3_64
    refine lv_if_ne (tgt := 45) hx hb dX8_compare_29 (by decide) (fun c2_29 => ?_) (fun c2_29 => ?_)
    · refine lv_iload_n hx hb dX8_compare_45 rfl (lv_at hl1 0 rfl) ?_
      refine lv_iconst (v := 1) hx hb dX8_compare_46 (by decide) ?_
      refine lv_icmp_le (tgt := 62) hx hb dX8_compare_47 (by decide) (fun c3_47 => ?_) (fun c3_47 => ?_)
      · exact J2_29 _ _ (va_asS (P := fun u => va_P D vwCl (wP a cZ cI u) H2) (show (s_X8_compare_10 S p0) = (s_X8_compare_4 S p0) from ((if_neg c2_29).trans (if_pos c3_47))) hP2) (va_asS (P := fun u => va_D A (wP a cZ cI u)) (show (s_X8_compare_10 S p0) = (s_X8_compare_4 S p0) from ((if_neg c2_29).trans (if_pos c3_47))) hD2) hS2
      · refine lv_aload_n hx hb dX8_compare_50 rfl (lv_at hl1 1 rfl) ?_
        refine lv_dup hx hb dX8_compare_51 rfl ?_
        refine va_get (D := D) (ci := 8) (v := .int ((s_X8_compare_4 S p0).1 28)) (C := RX8) (T := TX8) (N := 4) hx hb hts (fun _ h => List.mem_cons_of_mem _ (List.mem_append_right _ (h))) hown hK hP2 8 rfl rfl 1 (by decide) (hts (.fieldLink RX8 13 "Phaselock$SlipCounter" "skipped" "I") (List.mem_cons_of_mem _ (List.mem_append_left _ (List.mem_of_getElem? (i := 3) rfl)))) (fun _ h9 => h9) rfl dX8_compare_52 ?_
        refine lv_iload_n hx hb dX8_compare_55 rfl (lv_at hl1 0 rfl) ?_
        refine lv_iconst (v := 1) hx hb dX8_compare_56 (by decide) ?_
        refine lv_isub hx hb dX8_compare_57 ?_
        refine lv_asi (y := (v_X8_compare_5 S p0)) rfl ?_
        refine lv_iadd hx hb dX8_compare_58 ?_
        refine lv_asi (y := (v_X8_compare_6 S p0)) rfl ?_
        refine va_put (D := D) (ci := 8) (v := .int (v_X8_compare_6 S p0)) (ty := .int) (C := RX8) (T := TX8) (N := 4) hx hb hts (fun _ h => List.mem_cons_of_mem _ (List.mem_append_right _ (h))) tyX8 tyX8_ok nmX8 hown hK hP2 hD2 hS2 8 rfl rfl 1 (by decide) (hts (.fieldLink RX8 13 "Phaselock$SlipCounter" "skipped" "I") (List.mem_cons_of_mem _ (List.mem_append_left _ (List.mem_of_getElem? (i := 3) rfl)))) (fun _ h9 => h9) rfl (by decide +kernel) rfl rfl (Nat.le_of_ble_eq_true rfl) dX8_compare_59 (fun H3 L3 hP3 hD3 hS3 => ?_)
        replace hP3 : va_P D vwCl (wP a cZ cI (s_X8_compare_7 S p0)) H3 := cvP (wP_s28 a cZ cI (s_X8_compare_4 S p0) (v_X8_compare_6 S p0)) hP3
        replace hD3 : va_D A (wP a cZ cI (s_X8_compare_7 S p0)) := cvD (wP_s28 a cZ cI (s_X8_compare_4 S p0) (v_X8_compare_6 S p0)) hD3
        clear hP2 hD2 hS2
        exact J2_29 _ _ (va_asS (P := fun u => va_P D vwCl (wP a cZ cI u) H3) (show (s_X8_compare_10 S p0) = (s_X8_compare_7 S p0) from ((if_neg c2_29).trans (if_neg c3_47))) hP3) (va_asS (P := fun u => va_D A (wP a cZ cI u)) (show (s_X8_compare_10 S p0) = (s_X8_compare_7 S p0) from ((if_neg c2_29).trans (if_neg c3_47))) hD3) hS3
    · refine lv_aload_n hx hb dX8_compare_32 rfl (lv_at hl1 1 rfl) ?_
      refine lv_dup hx hb dX8_compare_33 rfl ?_
      refine va_get (D := D) (ci := 8) (v := .int ((s_X8_compare_4 S p0).1 27)) (C := RX8) (T := TX8) (N := 4) hx hb hts (fun _ h => List.mem_cons_of_mem _ (List.mem_append_right _ (h))) hown hK hP2 8 rfl rfl 0 (by decide) (hts (.fieldLink RX8 7 "Phaselock$SlipCounter" "repeated" "I") (List.mem_cons_of_mem _ (List.mem_append_left _ (List.mem_of_getElem? (i := 2) rfl)))) (fun _ h9 => h9) rfl dX8_compare_34 ?_
      refine lv_iconst (v := 1) hx hb dX8_compare_37 (by decide) ?_
      refine lv_iadd hx hb dX8_compare_38 ?_
      refine lv_asi (y := (v_X8_compare_8 S p0)) rfl ?_
      refine va_put (D := D) (ci := 8) (v := .int (v_X8_compare_8 S p0)) (ty := .int) (C := RX8) (T := TX8) (N := 4) hx hb hts (fun _ h => List.mem_cons_of_mem _ (List.mem_append_right _ (h))) tyX8 tyX8_ok nmX8 hown hK hP2 hD2 hS2 8 rfl rfl 0 (by decide) (hts (.fieldLink RX8 7 "Phaselock$SlipCounter" "repeated" "I") (List.mem_cons_of_mem _ (List.mem_append_left _ (List.mem_of_getElem? (i := 2) rfl)))) (fun _ h9 => h9) rfl (by decide +kernel) rfl rfl (Nat.le_of_ble_eq_true rfl) dX8_compare_39 (fun H3 L3 hP3 hD3 hS3 => ?_)
      replace hP3 : va_P D vwCl (wP a cZ cI (s_X8_compare_9 S p0)) H3 := cvP (wP_s27 a cZ cI (s_X8_compare_4 S p0) (v_X8_compare_8 S p0)) hP3
      replace hD3 : va_D A (wP a cZ cI (s_X8_compare_9 S p0)) := cvD (wP_s27 a cZ cI (s_X8_compare_4 S p0) (v_X8_compare_8 S p0)) hD3
      clear hP2 hD2 hS2
      refine lv_goto (tgt := 62) hx hb dX8_compare_42 (by decide) ?_
      exact J2_29 _ _ (va_asS (P := fun u => va_P D vwCl (wP a cZ cI u) H3) (show (s_X8_compare_10 S p0) = (s_X8_compare_9 S p0) from (if_pos c2_29)) hP3) (va_asS (P := fun u => va_D A (wP a cZ cI u)) (show (s_X8_compare_10 S p0) = (s_X8_compare_9 S p0) from (if_pos c2_29)) hD3) hS3
  refine lv_if_eq (tgt := 16) hx hb dX8_compare_4 (by decide) (fun c1_4 => ?_) (fun c1_4 => ?_)
  · refine lv_iconst (v := 1) hx hb dX8_compare_16 (by decide) ?_
    refine lv_asi (y := (v_X8_compare_2 S p0)) (show (v_X8_compare_2 S p0) = 1 from (if_pos c1_4)).symm ?_
    exact J1_4
  · refine lv_iload_n hx hb dX8_compare_7 rfl (lv_at hl0 1 rfl) ?_
    refine lv_aload_n hx hb dX8_compare_8 rfl (lv_at hl0 0 rfl) ?_
    refine va_get (D := D) (ci := 8) (v := .int (S.1 26)) (C := RX8) (T := TX8) (N := 4) hx hb hts (fun _ h => List.mem_cons_of_mem _ (List.mem_append_right _ (h))) hown hK hP0 8 rfl rfl 3 (by decide) (hts (.fieldLink RX8 20 "Phaselock$SlipCounter" "numberBefore" "I") (List.mem_cons_of_mem _ (List.mem_append_left _ (List.mem_of_getElem? (i := 1) rfl)))) (fun _ h9 => h9) rfl dX8_compare_9 ?_
    refine lv_isub hx hb dX8_compare_12 ?_
    refine lv_asi (y := (v_X8_compare_1 S p0)) rfl ?_
    refine lv_goto (tgt := 17) hx hb dX8_compare_13 (by decide) ?_
    refine lv_asi (y := (v_X8_compare_2 S p0)) (show (v_X8_compare_2 S p0) = (v_X8_compare_1 S p0) from (if_neg c1_4)).symm ?_
    exact J1_4
theorem z_X8_compare (S : St) (p0 : Int32) : narrow .boolean (.int (r_X8_compare S p0)) = .int (r_X8_compare S p0) := by
  unfold r_X8_compare
  first
    | ((repeat' split) <;> decide)
    | (simp only [v_X8_compare_2, v_X8_compare_11]; (repeat' split) <;> decide)

def v_X9_shiftRegister_1 (S : St) : Int32 := (S.1 6) &&& 1
def v_X9_shiftRegister_2 (S : St) : Int32 := (S.1 6) >>> (1 &&& 31)
def v_X9_shiftRegister_3 (S : St) : Int32 := (v_X9_shiftRegister_2 S) &&& 1
def v_X9_shiftRegister_4 (S : St) : Int32 := (S.1 6) >>> (1 &&& 31)
def v_X9_shiftRegister_5 (S : St) : Int32 := (v_X9_shiftRegister_1 S) ^^^ (v_X9_shiftRegister_3 S)
def v_X9_shiftRegister_6 (S : St) : Int32 := (v_X9_shiftRegister_5 S) <<< (6 &&& 31)
def v_X9_shiftRegister_7 (S : St) : Int32 := (v_X9_shiftRegister_4 S) ||| (v_X9_shiftRegister_6 S)
def s_X9_shiftRegister_8 (S : St) : St := si S 6 (v_X9_shiftRegister_7 S)
def s_X9_shiftRegister (S : St) : St := (s_X9_shiftRegister_8 S)
def r_X9_shiftRegister (S : St) : Int32 := (v_X9_shiftRegister_1 S)
def rm_X9_shiftRegister : Room := { frames := 0, cells := 0, slots := 0, locals := 0 }
set_option maxRecDepth 100000 in
set_option maxHeartbeats 4000000 in
theorem k_X9_shiftRegister (l : Launch) (D : va_G) (a : Nat → Nat) (cZ cI : ClassId) (S : St) (sz : Nat) : Met l yX9_shiftRegister wsX9_shiftRegister rm_X9_shiftRegister (va_Pc [.ref (a 1)] (pW D (tyZI cZ cI) (wP a cZ cI S) sz nP)) (va_Qi (fun (r : Int32) (u : St) => u = s_X9_shiftRegister S ∧ r = r_X9_shiftRegister S) (fun u t => oW D (tyZI cZ cI) (wP a cZ cI u) (aA (adP a) sz) t) (aA (adP a) sz)) 0 0 (aA (adP a) sz) := by
  refine Met.ofW (cc := cX9_shiftRegister) (maxL := 3) (ret := (some .int)) (by decide +kernel) rfl ?_
  intro p e s m args below meth c s₁ B hml hv
  obtain ⟨rfl, hsz, hP0, hK, hD9, hN⟩ := hv
  have hx := B.exec
  have hb := B.bytes
  have hr := B.returns
  have hts := atoms_spec (ws := wsX9_shiftRegister) B.pre
  have hown : s.vm.findClass RX9 = some m.cls := findClass_of_methodNamed B.named
  have hlocks := B.notSynchronized
  subst hsz
  have hD0 := aA_self (sz := s.heap.size) (as := adP a) hD9 rfl
  generalize hAe : aA (adP a) s.heap.size = A at hD0 ⊢
  have hA : ∀ q : Nat, s.heap.size ≤ q → A q := fun q h => by rw [← hAe]; exact Or.inr h
  have hAc : ∀ q : Nat, q ∈ adP a → A q := fun q h => by rw [← hAe]; exact Or.inl h
  have hS0 : va_S A s.heap s.heap [] := va_S.rf
  have hl0 := lv_entry ([.ref (a 1)]) (n := 3) (Nat.le_of_ble_eq_true rfl)
  rw [lg_entry_eq]
  generalize (lg_sl ([.ref (a 1)]) ++ List.replicate (3 - (lg_sl ([.ref (a 1)])).length) Slot.unset).toArray = ls0 at hl0 ⊢
  have hl0 : lv_has ls0 3 [(0, .ref (a 1))] := hl0
  generalize hQ : MQ below _ _ s _ _ _ = Q
  clear hD9 B
  refine lv_aload_n hx hb dX9_shiftRegister_0 rfl (lv_at hl0 0 rfl) ?_
  refine va_get (D := D) (ci := 9) (v := .int (S.1 6)) (C := RX9) (T := TX9) (N := 7) hx hb hts (fun _ h => List.mem_cons_of_mem _ (List.mem_append_right _ (h))) hown hK hP0 1 rfl rfl 6 (by decide) (hts (.fieldLink RX9 31 "Phaselock$Transmitter" "register" "I") (List.mem_cons_of_mem _ (List.mem_append_left _ (List.mem_of_getElem? (i := 0) rfl)))) (fun _ h9 => h9) rfl dX9_shiftRegister_1 ?_
  refine lv_iconst (v := 1) hx hb dX9_shiftRegister_4 (by decide) ?_
  refine lv_iand hx hb dX9_shiftRegister_5 ?_
  refine lv_asi (y := (v_X9_shiftRegister_1 S)) rfl ?_
  refine lv_istore_n (lv' := [(1, .int (v_X9_shiftRegister_1 S)), (0, .ref (a 1))]) hx hb dX9_shiftRegister_6 rfl hl0 (by decide) rfl (fun ls1 hl1 => ?_)
  clear hl0
  refine lv_aload_n hx hb dX9_shiftRegister_7 rfl (lv_at hl1 1 rfl) ?_
  refine va_get (D := D) (ci := 9) (v := .int (S.1 6)) (C := RX9) (T := TX9) (N := 7) hx hb hts (fun _ h => List.mem_cons_of_mem _ (List.mem_append_right _ (h))) hown hK hP0 1 rfl rfl 6 (by decide) (hts (.fieldLink RX9 31 "Phaselock$Transmitter" "register" "I") (List.mem_cons_of_mem _ (List.mem_append_left _ (List.mem_of_getElem? (i := 0) rfl)))) (fun _ h9 => h9) rfl dX9_shiftRegister_8 ?_
  refine lv_iconst (v := 1) hx hb dX9_shiftRegister_11 (by decide) ?_
  refine lv_ishr hx hb dX9_shiftRegister_12 ?_
  refine lv_asi (y := (v_X9_shiftRegister_2 S)) rfl ?_
  refine lv_iconst (v := 1) hx hb dX9_shiftRegister_13 (by decide) ?_
  refine lv_iand hx hb dX9_shiftRegister_14 ?_
  refine lv_asi (y := (v_X9_shiftRegister_3 S)) rfl ?_
  refine lv_istore_n (lv' := [(2, .int (v_X9_shiftRegister_3 S)), (1, .int (v_X9_shiftRegister_1 S)), (0, .ref (a 1))]) hx hb dX9_shiftRegister_15 rfl hl1 (by decide) rfl (fun ls2 hl2 => ?_)
  clear hl1
  refine lv_aload_n hx hb dX9_shiftRegister_16 rfl (lv_at hl2 2 rfl) ?_
  refine lv_aload_n hx hb dX9_shiftRegister_17 rfl (lv_at hl2 2 rfl) ?_
  refine va_get (D := D) (ci := 9) (v := .int (S.1 6)) (C := RX9) (T := TX9) (N := 7) hx hb hts (fun _ h => List.mem_cons_of_mem _ (List.mem_append_right _ (h))) hown hK hP0 1 rfl rfl 6 (by decide) (hts (.fieldLink RX9 31 "Phaselock$Transmitter" "register" "I") (List.mem_cons_of_mem _ (List.mem_append_left _ (List.mem_of_getElem? (i := 0) rfl)))) (fun _ h9 => h9) rfl dX9_shiftRegister_18 ?_
  refine lv_iconst (v := 1) hx hb dX9_shiftRegister_21 (by decide) ?_
  refine lv_ishr hx hb dX9_shiftRegister_22 ?_
  refine lv_asi (y := (v_X9_shiftRegister_4 S)) rfl ?_
  refine lv_iload_n hx hb dX9_shiftRegister_23 rfl (lv_at hl2 1 rfl) ?_
  refine lv_iload_n hx hb dX9_shiftRegister_24 rfl (lv_at hl2 0 rfl) ?_
  refine lv_ixor hx hb dX9_shiftRegister_25 ?_
  refine lv_asi (y := (v_X9_shiftRegister_5 S)) rfl ?_
  refine lv_bipush (v := 6) hx hb dX9_shiftRegister_26 (by decide) ?_
  refine lv_ishl hx hb dX9_shiftRegister_28 ?_
  refine lv_asi (y := (v_X9_shiftRegister_6 S)) rfl ?_
  refine lv_ior hx hb dX9_shiftRegister_29 ?_
  refine lv_asi (y := (v_X9_shiftRegister_7 S)) rfl ?_
  refine va_put (D := D) (ci := 9) (v := .int (v_X9_shiftRegister_7 S)) (ty := .int) (C := RX9) (T := TX9) (N := 7) hx hb hts (fun _ h => List.mem_cons_of_mem _ (List.mem_append_right _ (h))) tyX9 tyX9_ok nmX9 hown hK hP0 hD0 hS0 1 rfl rfl 6 (by decide) (hts (.fieldLink RX9 31 "Phaselock$Transmitter" "register" "I") (List.mem_cons_of_mem _ (List.mem_append_left _ (List.mem_of_getElem? (i := 0) rfl)))) (fun _ h9 => h9) rfl (by decide +kernel) rfl rfl (Nat.le_of_ble_eq_true rfl) dX9_shiftRegister_30 (fun H1 L1 hP1 hD1 hS1 => ?_)
  replace hP1 : va_P D vwCl (wP a cZ cI (s_X9_shiftRegister_8 S)) H1 := cvP (wP_s6 a cZ cI S (v_X9_shiftRegister_7 S)) hP1
  replace hD1 : va_D A (wP a cZ cI (s_X9_shiftRegister_8 S)) := cvD (wP_s6 a cZ cI S (v_X9_shiftRegister_7 S)) hD1
  clear hP0 hD0 hS0
  refine lv_iload_n hx hb dX9_shiftRegister_33 rfl (lv_at hl2 1 rfl) ?_
  subst hQ; exact W.iret (v := (v_X9_shiftRegister_1 S)) hx hb hr (fun t ht hW => ⟨⟨(v_X9_shiftRegister_1 S), (s_X9_shiftRegister_8 S), rfl, ⟨(show (s_X9_shiftRegister_8 S) = s_X9_shiftRegister S from rfl), (show (v_X9_shiftRegister_1 S) = r_X9_shiftRegister S from rfl)⟩, endW hP1 hK hD1 ht hW⟩, hS1.F ht⟩) hS1.2.2 dX9_shiftRegister_34

def v_X9_sendNextBit_1 (S : St) : Int32 := (S.1 5) + 1
def s_X9_sendNextBit_2 (S : St) : St := si S 5 (v_X9_sendNextBit_1 S)
def v_X9_sendNextBit_3 (S : St) : Int32 := ((s_X9_sendNextBit_2 S).1 5) - ((s_X9_sendNextBit_2 S).1 5) / 24 * 24
def s_X9_sendNextBit_4 (S : St) : St := s_X9_shiftRegister (s_X9_sendNextBit_2 S)
def v_X9_sendNextBit_5 (S : St) : Int32 := r_X9_shiftRegister (s_X9_sendNextBit_2 S)
def s_X9_sendNextBit_6 (S : St) : St := si (s_X9_sendNextBit_4 S) 7 (v_X9_sendNextBit_5 S)
def v_X9_sendNextBit_7 (S : St) : Int32 := 5 - (v_X9_sendNextBit_3 S)
def v_X9_sendNextBit_8 (S : St) : Int32 := 52 >>> ((v_X9_sendNextBit_7 S) &&& 31)
def v_X9_sendNextBit_9 (S : St) : Int32 := (v_X9_sendNextBit_8 S) &&& 1
def s_X9_sendNextBit_10 (S : St) : St := si (s_X9_sendNextBit_2 S) 7 (v_X9_sendNextBit_9 S)
def s_X9_sendNextBit_11 (S : St) : St := if 6 ≤ (v_X9_sendNextBit_3 S) then (s_X9_sendNextBit_6 S) else (s_X9_sendNextBit_10 S)
def s_X9_sendNextBit (S : St) : St := (s_X9_sendNextBit_11 S)
def rm_X9_sendNextBit : Room := { frames := 1, cells := 0, slots := 0, locals := 22 }
set_option maxRecDepth 100000 in
set_option maxHeartbeats 4000000 in
theorem k_X9_sendNextBit (l : Launch) (D : va_G) (a : Nat → Nat) (cZ cI : ClassId) (S : St) (sz : Nat) : Met l yX9_sendNextBit wsX9_sendNextBit rm_X9_sendNextBit (va_Pc [.ref (a 1)] (pW D (tyZI cZ cI) (wP a cZ cI S) sz nP)) (va_Qv (fun u : St => u = s_X9_sendNextBit S) (fun u t => oW D (tyZI cZ cI) (wP a cZ cI u) (aA (adP a) sz) t) (aA (adP a) sz)) 0 0 (aA (adP a) sz) := by
  refine Met.ofW (cc := cX9_sendNextBit) (maxL := 2) (ret := none) (by decide +kernel) rfl ?_
  intro p e s m args below meth c s₁ B hml hv
  obtain ⟨rfl, hsz, hP0, hK, hD9, hN⟩ := hv
  have hx := B.exec
  have hb := B.bytes
  have hr := B.returns
  have hts := atoms_spec (ws := wsX9_sendNextBit) B.pre
  have hown : s.vm.findClass RX9 = some m.cls := findClass_of_methodNamed B.named
  have hlocks := B.notSynchronized
  subst hsz
  have hD0 := aA_self (sz := s.heap.size) (as := adP a) hD9 rfl
  generalize hAe : aA (adP a) s.heap.size = A at hD0 ⊢
  have hA : ∀ q : Nat, s.heap.size ≤ q → A q := fun q h => by rw [← hAe]; exact Or.inr h
  have hAc : ∀ q : Nat, q ∈ adP a → A q := fun q h => by rw [← hAe]; exact Or.inl h
  have hS0 : va_S A s.heap s.heap [] := va_S.rf
  have hl0 := lv_entry ([.ref (a 1)]) (n := 2) (Nat.le_of_ble_eq_true rfl)
  rw [lg_entry_eq]
  generalize (lg_sl ([.ref (a 1)]) ++ List.replicate (2 - (lg_sl ([.ref (a 1)])).length) Slot.unset).toArray = ls0 at hl0 ⊢
  have hl0 : lv_has ls0 2 [(0, .ref (a 1))] := hl0
  generalize hQ : MQ below _ _ s _ _ _ = Q
  clear hD9 B
  refine lv_aload_n hx hb dX9_sendNextBit_0 rfl (lv_at hl0 0 rfl) ?_
  refine lv_dup hx hb dX9_sendNextBit_1 rfl ?_
  refine va_get (D := D) (ci := 9) (v := .int (S.1 5)) (C := RX9) (T := TX9) (N := 7) hx hb hts (fun _ h => List.mem_cons_of_mem _ (List.mem_append_right _ (h))) hown hK hP0 1 rfl rfl 4 (by decide) (hts (.fieldLink RX9 25 "Phaselock$Transmitter" "number" "I") (List.mem_cons_of_mem _ (List.mem_append_left _ (List.mem_of_getElem? (i := 0) rfl)))) (fun _ h9 => h9) rfl dX9_sendNextBit_2 ?_
  refine lv_iconst (v := 1) hx hb dX9_sendNextBit_5 (by decide) ?_
  refine lv_iadd hx hb dX9_sendNextBit_6 ?_
  refine lv_asi (y := (v_X9_sendNextBit_1 S)) rfl ?_
  refine va_put (D := D) (ci := 9) (v := .int (v_X9_sendNextBit_1 S)) (ty := .int) (C := RX9) (T := TX9) (N := 7) hx hb hts (fun _ h => List.mem_cons_of_mem _ (List.mem_append_right _ (h))) tyX9 tyX9_ok nmX9 hown hK hP0 hD0 hS0 1 rfl rfl 4 (by decide) (hts (.fieldLink RX9 25 "Phaselock$Transmitter" "number" "I") (List.mem_cons_of_mem _ (List.mem_append_left _ (List.mem_of_getElem? (i := 0) rfl)))) (fun _ h9 => h9) rfl (by decide +kernel) rfl rfl (Nat.le_of_ble_eq_true rfl) dX9_sendNextBit_7 (fun H1 L1 hP1 hD1 hS1 => ?_)
  replace hP1 : va_P D vwCl (wP a cZ cI (s_X9_sendNextBit_2 S)) H1 := cvP (wP_s5 a cZ cI S (v_X9_sendNextBit_1 S)) hP1
  replace hD1 : va_D A (wP a cZ cI (s_X9_sendNextBit_2 S)) := cvD (wP_s5 a cZ cI S (v_X9_sendNextBit_1 S)) hD1
  clear hP0 hD0 hS0
  refine lv_aload_n hx hb dX9_sendNextBit_10 rfl (lv_at hl0 0 rfl) ?_
  refine va_get (D := D) (ci := 9) (v := .int ((s_X9_sendNextBit_2 S).1 5)) (C := RX9) (T := TX9) (N := 7) hx hb hts (fun _ h => List.mem_cons_of_mem _ (List.mem_append_right _ (h))) hown hK hP1 1 rfl rfl 4 (by decide) (hts (.fieldLink RX9 25 "Phaselock$Transmitter" "number" "I") (List.mem_cons_of_mem _ (List.mem_append_left _ (List.mem_of_getElem? (i := 0) rfl)))) (fun _ h9 => h9) rfl dX9_sendNextBit_11 ?_
  refine lv_bipush (v := 24) hx hb dX9_sendNextBit_14 (by decide) ?_
  refine lv_irem hx hb dX9_sendNextBit_16 (by decide) ?_
  refine lv_asi (y := (v_X9_sendNextBit_3 S)) rfl ?_
  refine lv_istore_n (lv' := [(1, .int (v_X9_sendNextBit_3 S)), (0, .ref (a 1))]) hx hb dX9_sendNextBit_17 rfl hl0 (by decide) rfl (fun ls1 hl1 => ?_)
  clear hl0
  refine lv_iload_n hx hb dX9_sendNextBit_18 rfl (lv_at hl1 0 rfl) ?_
  refine lv_bipush (v := 6) hx hb dX9_sendNextBit_19 (by decide) ?_
  have J1_21 : ∀ (H4 : Heap) (L4 : List Loc), va_P D vwCl (wP a cZ cI (s_X9_sendNextBit_11 S)) H4 → va_D A (wP a cZ cI (s_X9_sendNextBit_11 S)) → va_S A s.heap H4 L4 → W p l e (headSpec wsX9_sendNextBit rm_X9_sendNextBit).room s m ([.ref (a 1)] : List Value).toArray below meth c H4 L4 0 0 Q (F0 m 47 ls1 []) := by
    intro H4 L4 hP4 hD4 hS4
    clear hP1 hD1 hS1
    subst hQ; exact W.vret hx hb hr (fun t ht hW => ⟨⟨(s_X9_sendNextBit_11 S), rfl, (show (s_X9_sendNextBit_11 S) = s_X9_sendNextBit S from rfl), endW hP4 hK hD4 ht hW⟩, hS4.F ht⟩) hS4.2.2 dX9_sendNextBit_47
  refine lv_icmp_ge (tgt := 39) hx hb dX9_sendNextBit_21 (by decide) (fun c1_21 => ?_) (fun c1_21 => ?_)
  · refine lv_aload_n hx hb dX9_sendNextBit_39 rfl (lv_at hl1 1 rfl) ?_
    refine lv_aload_n hx hb dX9_sendNextBit_40 rfl (lv_at hl1 1 rfl) ?_
    refine va_calli (va_runV (As := []) (rest := [.ref (a 1)]) ⟨hx, hb, hml, hown, hts⟩ (k_X9_shiftRegister l D a cZ cI (s_X9_sendNextBit_2 S) H1.size) (cwV 0 hts gX9_sendNextBit_X9_shiftRegister rfl rfl rfl (by decide +kernel) ⟨Nat.le_of_ble_eq_true rfl, Nat.le_of_ble_eq_true rfl⟩) ⟨blW okN_P, va_recv hK hP1 (ci := 9) (q0 := 1) rfl rfl, preW hP1 hK hD1 okN_P hN⟩ rfl rfl hl1.1 rfl (lv_room (Nat.le_of_ble_eq_true rfl)) dX9_sendNextBit_41 ⟨Nat.zero_le _, Nat.zero_le _⟩) hS1 (aA_in hAc) (aA_free hAc hA hS1) (fun r2 u2 t2 H2 L2 ht2 hvm2 hw2 hB2 _ _ hS2 => ?_)
    obtain ⟨hP2, hD2⟩ := backW hB2 ht2 (aA_free hAc hA hS1)
    clear hB2 ht2 hvm2 t2
    obtain ⟨hu2, hr2⟩ := hw2
    subst u2; subst r2
    replace hP2 : va_P D vwCl (wP a cZ cI (s_X9_sendNextBit_4 S)) H2 := hP2
    replace hD2 : va_D A (wP a cZ cI (s_X9_sendNextBit_4 S)) := hD2
    clear hP1 hD1 hS1
    refine lv_asi (y := (v_X9_sendNextBit_5 S)) rfl ?_
    refine va_put (D := D) (ci := 9) (v := .int (v_X9_sendNextBit_5 S)) (ty := .int) (C := RX9) (T := TX9) (N := 7) hx hb hts (fun _ h => List.mem_cons_of_mem _ (List.mem_append_right _ (h))) tyX9 tyX9_ok nmX9 hown hK hP2 hD2 hS2 1 rfl rfl 5 (by decide) (hts (.fieldLink RX9 28 "Phaselock$Transmitter" "value" "I") (List.mem_cons_of_mem _ (List.mem_append_left _ (List.mem_of_getElem? (i := 1) rfl)))) (fun _ h9 => h9) rfl (by decide +kernel) rfl rfl (Nat.le_of_ble_eq_true rfl) dX9_sendNextBit_44 (fun H3 L3 hP3 hD3 hS3 => ?_)
    replace hP3 : va_P D vwCl (wP a cZ cI (s_X9_sendNextBit_6 S)) H3 := cvP (wP_s7 a cZ cI (s_X9_sendNextBit_4 S) (v_X9_sendNextBit_5 S)) hP3
    replace hD3 : va_D A (wP a cZ cI (s_X9_sendNextBit_6 S)) := cvD (wP_s7 a cZ cI (s_X9_sendNextBit_4 S) (v_X9_sendNextBit_5 S)) hD3
    clear hP2 hD2 hS2
    exact J1_21 _ _ (va_asS (P := fun u => va_P D vwCl (wP a cZ cI u) H3) (show (s_X9_sendNextBit_11 S) = (s_X9_sendNextBit_6 S) from (if_pos c1_21)) hP3) (va_asS (P := fun u => va_D A (wP a cZ cI u)) (show (s_X9_sendNextBit_11 S) = (s_X9_sendNextBit_6 S) from (if_pos c1_21)) hD3) hS3
  · refine lv_aload_n hx hb dX9_sendNextBit_24 rfl (lv_at hl1 1 rfl) ?_
    refine lv_bipush (v := 52) hx hb dX9_sendNextBit_25 (by decide) ?_
    refine lv_iconst (v := 5) hx hb dX9_sendNextBit_27 (by decide) ?_
    refine lv_iload_n hx hb dX9_sendNextBit_28 rfl (lv_at hl1 0 rfl) ?_
    refine lv_isub hx hb dX9_sendNextBit_29 ?_
    refine lv_asi (y := (v_X9_sendNextBit_7 S)) rfl ?_
    refine lv_ishr hx hb dX9_sendNextBit_30 ?_
    refine lv_asi (y := (v_X9_sendNextBit_8 S)) rfl ?_
    refine lv_iconst (v := 1) hx hb dX9_sendNextBit_31 (by decide) ?_
    refine lv_iand hx hb dX9_sendNextBit_32 ?_
    refine lv_asi (y := (v_X9_sendNextBit_9 S)) rfl ?_
    refine va_put (D := D) (ci := 9) (v := .int (v_X9_sendNextBit_9 S)) (ty := .int) (C := RX9) (T := TX9) (N := 7) hx hb hts (fun _ h => List.mem_cons_of_mem _ (List.mem_append_right _ (h))) tyX9 tyX9_ok nmX9 hown hK hP1 hD1 hS1 1 rfl rfl 5 (by decide) (hts (.fieldLink RX9 28 "Phaselock$Transmitter" "value" "I") (List.mem_cons_of_mem _ (List.mem_append_left _ (List.mem_of_getElem? (i := 1) rfl)))) (fun _ h9 => h9) rfl (by decide +kernel) rfl rfl (Nat.le_of_ble_eq_true rfl) dX9_sendNextBit_33 (fun H2 L2 hP2 hD2 hS2 => ?_)
    replace hP2 : va_P D vwCl (wP a cZ cI (s_X9_sendNextBit_10 S)) H2 := cvP (wP_s7 a cZ cI (s_X9_sendNextBit_2 S) (v_X9_sendNextBit_9 S)) hP2
    replace hD2 : va_D A (wP a cZ cI (s_X9_sendNextBit_10 S)) := cvD (wP_s7 a cZ cI (s_X9_sendNextBit_2 S) (v_X9_sendNextBit_9 S)) hD2
    clear hP1 hD1 hS1
    refine lv_goto (tgt := 47) hx hb dX9_sendNextBit_36 (by decide) ?_
    exact J1_21 _ _ (va_asS (P := fun u => va_P D vwCl (wP a cZ cI u) H2) (show (s_X9_sendNextBit_11 S) = (s_X9_sendNextBit_10 S) from (if_neg c1_21)) hP2) (va_asS (P := fun u => va_D A (wP a cZ cI u)) (show (s_X9_sendNextBit_11 S) = (s_X9_sendNextBit_10 S) from (if_neg c1_21)) hD2) hS2

def v_X9_drawDeviation_1 (S : St) : Int64 := 1103515245 * (S.2.1)
def v_X9_drawDeviation_2 (S : St) : Int64 := (v_X9_drawDeviation_1 S) + 12345
def v_X9_drawDeviation_3 (S : St) : Int64 := (v_X9_drawDeviation_2 S) - (v_X9_drawDeviation_2 S) / 2147483648 * 2147483648
def s_X9_drawDeviation_4 (S : St) : St := sr S (v_X9_drawDeviation_3 S)
def v_X9_drawDeviation_5 (S : St) : Int64 := ((s_X9_drawDeviation_4 S).2.1) / 65536
def v_X9_drawDeviation_6 (S : St) : Int32 := Int64.toInt32 (v_X9_drawDeviation_5 S)
def v_X9_drawDeviation_7 (S : St) : Int32 := 2 * ((s_X9_drawDeviation_4 S).1 3)
def v_X9_drawDeviation_8 (S : St) : Int32 := (v_X9_drawDeviation_7 S) + 1
def v_X9_drawDeviation_9 (S : St) : Int32 := (v_X9_drawDeviation_6 S) - (v_X9_drawDeviation_6 S) / (v_X9_drawDeviation_8 S) * (v_X9_drawDeviation_8 S)
def v_X9_drawDeviation_10 (S : St) : Int32 := (v_X9_drawDeviation_9 S) - ((s_X9_drawDeviation_4 S).1 3)
def s_X9_drawDeviation (S : St) : St := if (S.1 3) = 0 then S else (s_X9_drawDeviation_4 S)
def r_X9_drawDeviation (S : St) : Int32 := if (S.1 3) = 0 then 0 else (v_X9_drawDeviation_10 S)
def rm_X9_drawDeviation : Room := { frames := 0, cells := 0, slots := 0, locals := 0 }
set_option maxRecDepth 100000 in
set_option maxHeartbeats 4000000 in
theorem k_X9_drawDeviation (l : Launch) (D : va_G) (a : Nat → Nat) (cZ cI : ClassId) (S : St) (sz : Nat) (hj : okJ S) : Met l yX9_drawDeviation wsX9_drawDeviation rm_X9_drawDeviation (va_Pc [.ref (a 1)] (pW D (tyZI cZ cI) (wP a cZ cI S) sz nP)) (va_Qi (fun (r : Int32) (u : St) => u = s_X9_drawDeviation S ∧ r = r_X9_drawDeviation S) (fun u t => oW D (tyZI cZ cI) (wP a cZ cI u) (aA (adP a) sz) t) (aA (adP a) sz)) 0 0 (aA (adP a) sz) := by
  refine Met.ofW (cc := cX9_drawDeviation) (maxL := 2) (ret := (some .int)) (by decide +kernel) rfl ?_
  intro p e s m args below meth c s₁ B hml hv
  obtain ⟨rfl, hsz, hP0, hK, hD9, hN⟩ := hv
  have hx := B.exec
  have hb := B.bytes
  have hr := B.returns
  have hts := atoms_spec (ws := wsX9_drawDeviation) B.pre
  have hown : s.vm.findClass RX9 = some m.cls := findClass_of_methodNamed B.named
  have hlocks := B.notSynchronized
  subst hsz
  have hD0 := aA_self (sz := s.heap.size) (as := adP a) hD9 rfl
  generalize hAe : aA (adP a) s.heap.size = A at hD0 ⊢
  have hA : ∀ q : Nat, s.heap.size ≤ q → A q := fun q h => by rw [← hAe]; exact Or.inr h
  have hAc : ∀ q : Nat, q ∈ adP a → A q := fun q h => by rw [← hAe]; exact Or.inl h
  have hS0 : va_S A s.heap s.heap [] := va_S.rf
  have hl0 := lv_entry ([.ref (a 1)]) (n := 2) (Nat.le_of_ble_eq_true rfl)
  rw [lg_entry_eq]
  generalize (lg_sl ([.ref (a 1)]) ++ List.replicate (2 - (lg_sl ([.ref (a 1)])).length) Slot.unset).toArray = ls0 at hl0 ⊢
  have hl0 : lv_has ls0 2 [(0, .ref (a 1))] := hl0
  generalize hQ : MQ below _ _ s _ _ _ = Q
  clear hD9 B
  refine lv_aload_n hx hb dX9_drawDeviation_0 rfl (lv_at hl0 0 rfl) ?_
  refine va_get (D := D) (ci := 9) (v := .int (S.1 3)) (C := RX9) (T := TX9) (N := 7) hx hb hts (fun _ h => List.mem_cons_of_mem _ (List.mem_append_right _ (h))) hown hK hP0 1 rfl rfl 2 (by decide) (hts (.fieldLink RX9 18 "Phaselock$Transmitter" "jitter" "I") (List.mem_cons_of_mem _ (List.mem_append_left _ (List.mem_of_getElem? (i := 0) rfl)))) (fun _ h9 => h9) rfl dX9_drawDeviation_1 ?_
  refine lv_if_ne (tgt := 9) hx hb dX9_drawDeviation_4 (by decide) (fun c1_4 => ?_) (fun c1_4 => ?_)
  · refine lv_aload_n hx hb dX9_drawDeviation_9 rfl (lv_at hl0 0 rfl) ?_
    refine lv_ldc2 (v := 1103515245) hx hb hown (hts (.constantLong RX9 42 (1103515245)) (List.mem_cons_of_mem _ (List.mem_append_left _ (List.mem_of_getElem? (i := 1) rfl)))) dX9_drawDeviation_10 ?_
    refine lv_aload_n hx hb dX9_drawDeviation_13 rfl (lv_at hl0 0 rfl) ?_
    refine va_get (D := D) (ci := 9) (v := .long (S.2.1)) (C := RX9) (T := TX9) (N := 7) hx hb hts (fun _ h => List.mem_cons_of_mem _ (List.mem_append_right _ (h))) hown hK hP0 1 rfl rfl 3 (by decide) (hts (.fieldLink RX9 21 "Phaselock$Transmitter" "randomState" "J") (List.mem_cons_of_mem _ (List.mem_append_left _ (List.mem_of_getElem? (i := 2) rfl)))) (fun _ h9 => h9) rfl dX9_drawDeviation_14 ?_
    refine lv_lmul hx hb dX9_drawDeviation_17 ?_
    refine lv_asl (y := (v_X9_drawDeviation_1 S)) rfl ?_
    refine lv_ldc2 (v := 12345) hx hb hown (hts (.constantLong RX9 44 (12345)) (List.mem_cons_of_mem _ (List.mem_append_left _ (List.mem_of_getElem? (i := 3) rfl)))) dX9_drawDeviation_18 ?_
    refine lv_ladd hx hb dX9_drawDeviation_21 ?_
    refine lv_asl (y := (v_X9_drawDeviation_2 S)) rfl ?_
    refine lv_ldc2 (v := 2147483648) hx hb hown (hts (.constantLong RX9 46 (2147483648)) (List.mem_cons_of_mem _ (List.mem_append_left _ (List.mem_of_getElem? (i := 4) rfl)))) dX9_drawDeviation_22 ?_
    refine lv_lrem hx hb dX9_drawDeviation_25 (by decide) ?_
    refine lv_asl (y := (v_X9_drawDeviation_3 S)) rfl ?_
    refine va_put (D := D) (ci := 9) (v := .long (v_X9_drawDeviation_3 S)) (ty := .long) (C := RX9) (T := TX9) (N := 7) hx hb hts (fun _ h => List.mem_cons_of_mem _ (List.mem_append_right _ (h))) tyX9 tyX9_ok nmX9 hown hK hP0 hD0 hS0 1 rfl rfl 3 (by decide) (hts (.fieldLink RX9 21 "Phaselock$Transmitter" "randomState" "J") (List.mem_cons_of_mem _ (List.mem_append_left _ (List.mem_of_getElem? (i := 2) rfl)))) (fun _ h9 => h9) rfl (by decide +kernel) rfl rfl (Nat.le_of_ble_eq_true rfl) dX9_drawDeviation_26 (fun H1 L1 hP1 hD1 hS1 => ?_)
    replace hP1 : va_P D vwCl (wP a cZ cI (s_X9_drawDeviation_4 S)) H1 := cvP (wP_sR a cZ cI S (v_X9_drawDeviation_3 S)) hP1
    replace hD1 : va_D A (wP a cZ cI (s_X9_drawDeviation_4 S)) := cvD (wP_sR a cZ cI S (v_X9_drawDeviation_3 S)) hD1
    clear hP0 hD0 hS0
    refine lv_aload_n hx hb dX9_drawDeviation_29 rfl (lv_at hl0 0 rfl) ?_
    refine va_get (D := D) (ci := 9) (v := .long ((s_X9_drawDeviation_4 S).2.1)) (C := RX9) (T := TX9) (N := 7) hx hb hts (fun _ h => List.mem_cons_of_mem _ (List.mem_append_right _ (h))) hown hK hP1 1 rfl rfl 3 (by decide) (hts (.fieldLink RX9 21 "Phaselock$Transmitter" "randomState" "J") (List.mem_cons_of_mem _ (List.mem_append_left _ (List.mem_of_getElem? (i := 2) rfl)))) (fun _ h9 => h9) rfl dX9_drawDeviation_30 ?_
    refine lv_ldc2 (v := 65536) hx hb hown (hts (.constantLong RX9 48 (65536)) (List.mem_cons_of_mem _ (List.mem_append_left _ (List.mem_of_getElem? (i := 5) rfl)))) dX9_drawDeviation_33 ?_
    refine lv_ldiv hx hb dX9_drawDeviation_36 (by decide) ?_
    refine lv_asl (y := (v_X9_drawDeviation_5 S)) rfl ?_
    refine lv_l2i (v := (v_X9_drawDeviation_6 S)) hx hb dX9_drawDeviation_37 rfl ?_
    refine lv_istore_n (lv' := [(1, .int (v_X9_drawDeviation_6 S)), (0, .ref (a 1))]) hx hb dX9_drawDeviation_38 rfl hl0 (by decide) rfl (fun ls1 hl1 => ?_)
    clear hl0
    refine lv_iload_n hx hb dX9_drawDeviation_39 rfl (lv_at hl1 0 rfl) ?_
    refine lv_iconst (v := 2) hx hb dX9_drawDeviation_40 (by decide) ?_
    refine lv_aload_n hx hb dX9_drawDeviation_41 rfl (lv_at hl1 1 rfl) ?_
    refine va_get (D := D) (ci := 9) (v := .int ((s_X9_drawDeviation_4 S).1 3)) (C := RX9) (T := TX9) (N := 7) hx hb hts (fun _ h => List.mem_cons_of_mem _ (List.mem_append_right _ (h))) hown hK hP1 1 rfl rfl 2 (by decide) (hts (.fieldLink RX9 18 "Phaselock$Transmitter" "jitter" "I") (List.mem_cons_of_mem _ (List.mem_append_left _ (List.mem_of_getElem? (i := 0) rfl)))) (fun _ h9 => h9) rfl dX9_drawDeviation_42 ?_
    refine lv_imul hx hb dX9_drawDeviation_45 ?_
    refine lv_asi (y := (v_X9_drawDeviation_7 S)) rfl ?_
    refine lv_iconst (v := 1) hx hb dX9_drawDeviation_46 (by decide) ?_
    refine lv_iadd hx hb dX9_drawDeviation_47 ?_
    refine lv_asi (y := (v_X9_drawDeviation_8 S)) rfl ?_
    refine lv_irem hx hb dX9_drawDeviation_48 (jit_ne hj) ?_
    refine lv_asi (y := (v_X9_drawDeviation_9 S)) rfl ?_
    refine lv_aload_n hx hb dX9_drawDeviation_49 rfl (lv_at hl1 1 rfl) ?_
    refine va_get (D := D) (ci := 9) (v := .int ((s_X9_drawDeviation_4 S).1 3)) (C := RX9) (T := TX9) (N := 7) hx hb hts (fun _ h => List.mem_cons_of_mem _ (List.mem_append_right _ (h))) hown hK hP1 1 rfl rfl 2 (by decide) (hts (.fieldLink RX9 18 "Phaselock$Transmitter" "jitter" "I") (List.mem_cons_of_mem _ (List.mem_append_left _ (List.mem_of_getElem? (i := 0) rfl)))) (fun _ h9 => h9) rfl dX9_drawDeviation_50 ?_
    refine lv_isub hx hb dX9_drawDeviation_53 ?_
    refine lv_asi (y := (v_X9_drawDeviation_10 S)) rfl ?_
    subst hQ; exact W.iret (v := (v_X9_drawDeviation_10 S)) hx hb hr (fun t ht hW => ⟨⟨(v_X9_drawDeviation_10 S), (s_X9_drawDeviation_4 S), rfl, ⟨(show (s_X9_drawDeviation_4 S) = s_X9_drawDeviation S from (if_neg c1_4).symm), (show (v_X9_drawDeviation_10 S) = r_X9_drawDeviation S from (if_neg c1_4).symm)⟩, endW hP1 hK hD1 ht hW⟩, hS1.F ht⟩) hS1.2.2 dX9_drawDeviation_54
  · refine lv_iconst (v := 0) hx hb dX9_drawDeviation_7 (by decide) ?_
    subst hQ; exact W.iret (v := 0) hx hb hr (fun t ht hW => ⟨⟨0, S, rfl, ⟨(show S = s_X9_drawDeviation S from (if_pos c1_4).symm), (show 0 = r_X9_drawDeviation S from (if_pos c1_4).symm)⟩, endW hP0 hK hD0 ht hW⟩, hS0.F ht⟩) hS0.2.2 dX9_drawDeviation_8

def s_X9_advance_1 (S : St) : St := s_X9_drawDeviation S
def v_X9_advance_2 (S : St) : Int32 := r_X9_drawDeviation S
def v_X9_advance_3 (S : St) : Int32 := (S.1 2) + (v_X9_advance_2 S)
def v_X9_advance_4 (S : St) : Int32 := (S.1 1) + (v_X9_advance_3 S)
def s_X9_advance_5 (S : St) : St := si (s_X9_advance_1 S) 1 (v_X9_advance_4 S)
def v_X9_advance_6 (S : St) : Int32 := ((s_X9_advance_5 S).1 1) - 65536
def s_X9_advance_7 (S : St) : St := si (s_X9_advance_5 S) 1 (v_X9_advance_6 S)
def s_X9_advance_8 (S : St) : St := s_X9_sendNextBit (s_X9_advance_7 S)
def s_X9_advance_9 (S : St) : St := if ((s_X9_advance_5 S).1 1) < 65536 then (s_X9_advance_5 S) else (s_X9_advance_8 S)
def s_X9_advance (S : St) : St := (s_X9_advance_9 S)
def rm_X9_advance : Room := { frames := 2, cells := 0, slots := 0, locals := 43 }
set_option maxRecDepth 100000 in
set_option maxHeartbeats 4000000 in
theorem k_X9_advance (l : Launch) (D : va_G) (a : Nat → Nat) (cZ cI : ClassId) (S : St) (sz : Nat) (hj : okJ S) : Met l yX9_advance wsX9_advance rm_X9_advance (va_Pc [.ref (a 1)] (pW D (tyZI cZ cI) (wP a cZ cI S) sz nP)) (va_Qv (fun u : St => u = s_X9_advance S) (fun u t => oW D (tyZI cZ cI) (wP a cZ cI u) (aA (adP a) sz) t) (aA (adP a) sz)) 0 0 (aA (adP a) sz) := by
  refine Met.ofW (cc := cX9_advance) (maxL := 1) (ret := none) (by decide +kernel) rfl ?_
  intro p e s m args below meth c s₁ B hml hv
  obtain ⟨rfl, hsz, hP0, hK, hD9, hN⟩ := hv
  have hx := B.exec
  have hb := B.bytes
  have hr := B.returns
  have hts := atoms_spec (ws := wsX9_advance) B.pre
  have hown : s.vm.findClass RX9 = some m.cls := findClass_of_methodNamed B.named
  have hlocks := B.notSynchronized
  subst hsz
  have hD0 := aA_self (sz := s.heap.size) (as := adP a) hD9 rfl
  generalize hAe : aA (adP a) s.heap.size = A at hD0 ⊢
  have hA : ∀ q : Nat, s.heap.size ≤ q → A q := fun q h => by rw [← hAe]; exact Or.inr h
  have hAc : ∀ q : Nat, q ∈ adP a → A q := fun q h => by rw [← hAe]; exact Or.inl h
  have hS0 : va_S A s.heap s.heap [] := va_S.rf
  have hl0 := lv_entry ([.ref (a 1)]) (n := 1) (Nat.le_of_ble_eq_true rfl)
  rw [lg_entry_eq]
  generalize (lg_sl ([.ref (a 1)]) ++ List.replicate (1 - (lg_sl ([.ref (a 1)])).length) Slot.unset).toArray = ls0 at hl0 ⊢
  have hl0 : lv_has ls0 1 [(0, .ref (a 1))] := hl0
  generalize hQ : MQ below _ _ s _ _ _ = Q
  clear hD9 B
  refine lv_aload_n hx hb dX9_advance_0 rfl (lv_at hl0 0 rfl) ?_
  refine lv_dup hx hb dX9_advance_1 rfl ?_
  refine va_get (D := D) (ci := 9) (v := .int (S.1 1)) (C := RX9) (T := TX9) (N := 7) hx hb hts (fun _ h => List.mem_cons_of_mem _ (List.mem_append_right _ (h))) hown hK hP0 1 rfl rfl 0 (by decide) (hts (.fieldLink RX9 9 "Phaselock$Transmitter" "phase" "I") (List.mem_cons_of_mem _ (List.mem_append_left _ (List.mem_append_left _ (List.mem_of_getElem? (i := 0) rfl))))) (fun _ h9 => h9) rfl dX9_advance_2 ?_
  refine lv_aload_n hx hb dX9_advance_5 rfl (lv_at hl0 0 rfl) ?_
  refine va_get (D := D) (ci := 9) (v := .int (S.1 2)) (C := RX9) (T := TX9) (N := 7) hx hb hts (fun _ h => List.mem_cons_of_mem _ (List.mem_append_right _ (h))) hown hK hP0 1 rfl rfl 1 (by decide) (hts (.fieldLink RX9 15 "Phaselock$Transmitter" "step" "I") (List.mem_cons_of_mem _ (List.mem_append_left _ (List.mem_append_left _ (List.mem_of_getElem? (i := 1) rfl))))) (fun _ h9 => h9) rfl dX9_advance_6 ?_
  refine lv_aload_n hx hb dX9_advance_9 rfl (lv_at hl0 0 rfl) ?_
  refine va_calli (va_runV (As := []) (rest := [.int (S.1 2), .int (S.1 1), .ref (a 1)]) ⟨hx, hb, hml, hown, hts⟩ (k_X9_drawDeviation l D a cZ cI S s.heap.size hj) (cwV 0 hts gX9_advance_X9_drawDeviation rfl rfl rfl (by decide +kernel) ⟨Nat.le_of_ble_eq_true rfl, Nat.le_of_ble_eq_true rfl⟩) ⟨blW okN_P, va_recv hK hP0 (ci := 9) (q0 := 1) rfl rfl, preW hP0 hK hD0 okN_P hN⟩ rfl rfl hl0.1 rfl (lv_room (Nat.le_of_ble_eq_true rfl)) dX9_advance_10 ⟨Nat.zero_le _, Nat.zero_le _⟩) hS0 (aA_in hAc) (aA_free hAc hA hS0) (fun r1 u1 t1 H1 L1 ht1 hvm1 hw1 hB1 _ _ hS1 => ?_)
  obtain ⟨hP1, hD1⟩ := backW hB1 ht1 (aA_free hAc hA hS0)
  clear hB1 ht1 hvm1 t1
  obtain ⟨hu1, hr1⟩ := hw1
  subst u1; subst r1
  replace hP1 : va_P D vwCl (wP a cZ cI (s_X9_advance_1 S)) H1 := hP1
  replace hD1 : va_D A (wP a cZ cI (s_X9_advance_1 S)) := hD1
  clear hP0 hD0 hS0
  refine lv_asi (y := (v_X9_advance_2 S)) rfl ?_
  refine lv_iadd hx hb dX9_advance_13 ?_
  refine lv_asi (y := (v_X9_advance_3 S)) rfl ?_
  refine lv_iadd hx hb dX9_advance_14 ?_
  refine lv_asi (y := (v_X9_advance_4 S)) rfl ?_
  refine va_put (D := D) (ci := 9) (v := .int (v_X9_advance_4 S)) (ty := .int) (C := RX9) (T := TX9) (N := 7) hx hb hts (fun _ h => List.mem_cons_of_mem _ (List.mem_append_right _ (h))) tyX9 tyX9_ok nmX9 hown hK hP1 hD1 hS1 1 rfl rfl 0 (by decide) (hts (.fieldLink RX9 9 "Phaselock$Transmitter" "phase" "I") (List.mem_cons_of_mem _ (List.mem_append_left _ (List.mem_append_left _ (List.mem_of_getElem? (i := 0) rfl))))) (fun _ h9 => h9) rfl (by decide +kernel) rfl rfl (Nat.le_of_ble_eq_true rfl) dX9_advance_15 (fun H2 L2 hP2 hD2 hS2 => ?_)
  replace hP2 : va_P D vwCl (wP a cZ cI (s_X9_advance_5 S)) H2 := cvP (wP_s1 a cZ cI (s_X9_advance_1 S) (v_X9_advance_4 S)) hP2
  replace hD2 : va_D A (wP a cZ cI (s_X9_advance_5 S)) := cvD (wP_s1 a cZ cI (s_X9_advance_1 S) (v_X9_advance_4 S)) hD2
  clear hP1 hD1 hS1
  refine lv_aload_n hx hb dX9_advance_18 rfl (lv_at hl0 0 rfl) ?_
  refine va_get (D := D) (ci := 9) (v := .int ((s_X9_advance_5 S).1 1)) (C := RX9) (T := TX9) (N := 7) hx hb hts (fun _ h => List.mem_cons_of_mem _ (List.mem_append_right _ (h))) hown hK hP2 1 rfl rfl 0 (by decide) (hts (.fieldLink RX9 9 "Phaselock$Transmitter" "phase" "I") (List.mem_cons_of_mem _ (List.mem_append_left _ (List.mem_append_left _ (List.mem_of_getElem? (i := 0) rfl))))) (fun _ h9 => h9) rfl dX9_advance_19 ?_
  refine lv_ldc (v := 65536) hx hb hown (hts (.constant RX9 38 (65536)) (List.mem_cons_of_mem _ (List.mem_append_left _ (List.mem_append_left _ (List.mem_of_getElem? (i := 2) rfl))))) dX9_advance_22 ?_
  have J1_24 : ∀ (H5 : Heap) (L5 : List Loc), va_P D vwCl (wP a cZ cI (s_X9_advance_9 S)) H5 → va_D A (wP a cZ cI (s_X9_advance_9 S)) → va_S A s.heap H5 L5 → W p l e (headSpec wsX9_advance rm_X9_advance).room s m ([.ref (a 1)] : List Value).toArray below meth c H5 L5 0 0 Q (F0 m 42 ls0 []) := by
    intro H5 L5 hP5 hD5 hS5
    clear hP2 hD2 hS2
    subst hQ; exact W.vret hx hb hr (fun t ht hW => ⟨⟨(s_X9_advance_9 S), rfl, (show (s_X9_advance_9 S) = s_X9_advance S from rfl), endW hP5 hK hD5 ht hW⟩, hS5.F ht⟩) hS5.2.2 dX9_advance_42
  refine lv_icmp_lt (tgt := 42) hx hb dX9_advance_24 (by decide) (fun c1_24 => ?_) (fun c1_24 => ?_)
  · exact J1_24 _ _ (va_asS (P := fun u => va_P D vwCl (wP a cZ cI u) H2) (show (s_X9_advance_9 S) = (s_X9_advance_5 S) from (if_pos c1_24)) hP2) (va_asS (P := fun u => va_D A (wP a cZ cI u)) (show (s_X9_advance_9 S) = (s_X9_advance_5 S) from (if_pos c1_24)) hD2) hS2
  · refine lv_aload_n hx hb dX9_advance_27 rfl (lv_at hl0 0 rfl) ?_
    refine lv_dup hx hb dX9_advance_28 rfl ?_
    refine va_get (D := D) (ci := 9) (v := .int ((s_X9_advance_5 S).1 1)) (C := RX9) (T := TX9) (N := 7) hx hb hts (fun _ h => List.mem_cons_of_mem _ (List.mem_append_right _ (h))) hown hK hP2 1 rfl rfl 0 (by decide) (hts (.fieldLink RX9 9 "Phaselock$Transmitter" "phase" "I") (List.mem_cons_of_mem _ (List.mem_append_left _ (List.mem_append_left _ (List.mem_of_getElem? (i := 0) rfl))))) (fun _ h9 => h9) rfl dX9_advance_29 ?_
    refine lv_ldc (v := 65536) hx hb hown (hts (.constant RX9 38 (65536)) (List.mem_cons_of_mem _ (List.mem_append_left _ (List.mem_append_left _ (List.mem_of_getElem? (i := 2) rfl))))) dX9_advance_32 ?_
    refine lv_isub hx hb dX9_advance_34 ?_
    refine lv_asi (y := (v_X9_advance_6 S)) rfl ?_
    refine va_put (D := D) (ci := 9) (v := .int (v_X9_advance_6 S)) (ty := .int) (C := RX9) (T := TX9) (N := 7) hx hb hts (fun _ h => List.mem_cons_of_mem _ (List.mem_append_right _ (h))) tyX9 tyX9_ok nmX9 hown hK hP2 hD2 hS2 1 rfl rfl 0 (by decide) (hts (.fieldLink RX9 9 "Phaselock$Transmitter" "phase" "I") (List.mem_cons_of_mem _ (List.mem_append_left _ (List.mem_append_left _ (List.mem_of_getElem? (i := 0) rfl))))) (fun _ h9 => h9) rfl (by decide +kernel) rfl rfl (Nat.le_of_ble_eq_true rfl) dX9_advance_35 (fun H3 L3 hP3 hD3 hS3 => ?_)
    replace hP3 : va_P D vwCl (wP a cZ cI (s_X9_advance_7 S)) H3 := cvP (wP_s1 a cZ cI (s_X9_advance_5 S) (v_X9_advance_6 S)) hP3
    replace hD3 : va_D A (wP a cZ cI (s_X9_advance_7 S)) := cvD (wP_s1 a cZ cI (s_X9_advance_5 S) (v_X9_advance_6 S)) hD3
    clear hP2 hD2 hS2
    refine lv_aload_n hx hb dX9_advance_38 rfl (lv_at hl0 0 rfl) ?_
    refine va_callv (va_runV (As := []) (rest := []) ⟨hx, hb, hml, hown, hts⟩ (k_X9_sendNextBit l D a cZ cI (s_X9_advance_7 S) H3.size) (cwV 0 hts gX9_advance_X9_sendNextBit rfl rfl rfl (by decide +kernel) ⟨Nat.le_of_ble_eq_true rfl, Nat.le_of_ble_eq_true rfl⟩) ⟨blW okN_P, va_recv hK hP3 (ci := 9) (q0 := 1) rfl rfl, preW hP3 hK hD3 okN_P hN⟩ rfl rfl hl0.1 rfl (lv_room (Nat.le_of_ble_eq_true rfl)) dX9_advance_39 ⟨Nat.zero_le _, Nat.zero_le _⟩) hS3 (aA_in hAc) (aA_free hAc hA hS3) (fun u4 t4 H4 L4 ht4 hvm4 hw4 hB4 _ _ hS4 => ?_)
    obtain ⟨hP4, hD4⟩ := backW hB4 ht4 (aA_free hAc hA hS3)
    clear hB4 ht4 hvm4 t4
    have hu4 : u4 = _ := hw4
    clear hw4; subst u4
    replace hP4 : va_P D vwCl (wP a cZ cI (s_X9_advance_8 S)) H4 := hP4
    replace hD4 : va_D A (wP a cZ cI (s_X9_advance_8 S)) := hD4
    clear hP3 hD3 hS3
    exact J1_24 _ _ (va_asS (P := fun u => va_P D vwCl (wP a cZ cI u) H4) (show (s_X9_advance_9 S) = (s_X9_advance_8 S) from (if_neg c1_24)) hP4) (va_asS (P := fun u => va_D A (wP a cZ cI u)) (show (s_X9_advance_9 S) = (s_X9_advance_8 S) from (if_neg c1_24)) hD4) hS4
