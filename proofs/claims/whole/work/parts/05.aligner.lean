def v_X10_isWithin_1 (S : St) (p0 : Int32) (p1 : Int32) (p2 : Int32) : Int32 := if p0 < p1 then 0 else if p2 < p0 then 0 else 1
def r_X10_isWithin (S : St) (p0 : Int32) (p1 : Int32) (p2 : Int32) : Int32 := (v_X10_isWithin_1 S p0 p1 p2)
def rm_X10_isWithin : Room := { frames := 0, cells := 0, slots := 0, locals := 0 }
set_option maxRecDepth 100000 in
set_option maxHeartbeats 4000000 in
theorem k_X10_isWithin (l : Launch) (D : va_G) (a : Nat → Nat) (cZ cI : ClassId) (S : St) (sz : Nat) (p0 : Int32) (p1 : Int32) (p2 : Int32) : Met l yX10_isWithin wsX10_isWithin rm_X10_isWithin (va_Pc [.int p0, .int p1, .int p2] (pW D (tyZI cZ cI) (wP a cZ cI S) sz nP)) (va_Qi (fun (r : Int32) (u : St) => u = S ∧ r = r_X10_isWithin S p0 p1 p2) (fun u t => oW D (tyZI cZ cI) (wP a cZ cI u) (aA (adP a) sz) t) (aA (adP a) sz)) 0 0 (aA (adP a) sz) := by
  refine Met.ofW (cc := cX10_isWithin) (maxL := 3) (ret := (some .boolean)) (by decide +kernel) rfl ?_
  intro p e s m args below meth c s₁ B hml hv
  obtain ⟨rfl, hsz, hP0, hK, hD9, hN⟩ := hv
  have hx := B.exec
  have hb := B.bytes
  have hr := B.returns
  have hts := atoms_spec (ws := wsX10_isWithin) B.pre
  have hown : s.vm.findClass RX10 = some m.cls := findClass_of_methodNamed B.named
  have hlocks := B.notSynchronized
  subst hsz
  have hD0 := aA_self (sz := s.heap.size) (as := adP a) hD9 rfl
  generalize hAe : aA (adP a) s.heap.size = A at hD0 ⊢
  have hA : ∀ q : Nat, s.heap.size ≤ q → A q := fun q h => by rw [← hAe]; exact Or.inr h
  have hAc : ∀ q : Nat, q ∈ adP a → A q := fun q h => by rw [← hAe]; exact Or.inl h
  have hS0 : va_S A s.heap s.heap [] := va_S.rf
  have hl0 := lv_entry ([.int p0, .int p1, .int p2]) (n := 3) (Nat.le_of_ble_eq_true rfl)
  rw [lg_entry_eq]
  generalize (lg_sl ([.int p0, .int p1, .int p2]) ++ List.replicate (3 - (lg_sl ([.int p0, .int p1, .int p2])).length) Slot.unset).toArray = ls0 at hl0 ⊢
  have hl0 : lv_has ls0 3 [(0, .int p0), (1, .int p1), (2, .int p2)] := hl0
  generalize hQ : MQ below _ _ s _ _ _ = Q
  clear hD9 B
  refine lv_iload_n hx hb dX10_isWithin_0 rfl (lv_at hl0 0 rfl) ?_
  refine lv_iload_n hx hb dX10_isWithin_1 rfl (lv_at hl0 1 rfl) ?_
  have J1_2 : W p l e (headSpec wsX10_isWithin rm_X10_isWithin).room s m ([.int p0, .int p1, .int p2] : List Value).toArray below meth c s.heap [] 0 0 Q (F0 m 15 ls0 [.int (v_X10_isWithin_1 S p0 p1 p2)]) := by
    subst hQ; exact W.zret (v := (v_X10_isWithin_1 S p0 p1 p2)) hx hb hr (by unfold v_X10_isWithin_1; (repeat' split) <;> decide) (fun t ht hW => ⟨⟨(v_X10_isWithin_1 S p0 p1 p2), S, rfl, ⟨rfl, (show (v_X10_isWithin_1 S p0 p1 p2) = r_X10_isWithin S p0 p1 p2 from rfl)⟩, endW hP0 hK hD0 ht hW⟩, hS0.F ht⟩) hS0.2.2 dX10_isWithin_15
  refine lv_icmp_lt (tgt := 14) hx hb dX10_isWithin_2 (by decide) (fun c1_2 => ?_) (fun c1_2 => ?_)
  · refine lv_iconst (v := 0) hx hb dX10_isWithin_14 (by decide) ?_
    refine lv_asi (y := (v_X10_isWithin_1 S p0 p1 p2)) (show (v_X10_isWithin_1 S p0 p1 p2) = 0 from (if_pos c1_2)).symm ?_
    exact J1_2
  · refine lv_iload_n hx hb dX10_isWithin_5 rfl (lv_at hl0 0 rfl) ?_
    refine lv_iload_n hx hb dX10_isWithin_6 rfl (lv_at hl0 2 rfl) ?_
    refine lv_icmp_gt (tgt := 14) hx hb dX10_isWithin_7 (by decide) (fun c2_7 => ?_) (fun c2_7 => ?_)
    · refine lv_iconst (v := 0) hx hb dX10_isWithin_14 (by decide) ?_
      refine lv_asi (y := (v_X10_isWithin_1 S p0 p1 p2)) (show (v_X10_isWithin_1 S p0 p1 p2) = 0 from ((if_neg c1_2).trans (if_pos c2_7))).symm ?_
      exact J1_2
    · refine lv_iconst (v := 1) hx hb dX10_isWithin_10 (by decide) ?_
      refine lv_goto (tgt := 15) hx hb dX10_isWithin_11 (by decide) ?_
      refine lv_asi (y := (v_X10_isWithin_1 S p0 p1 p2)) (show (v_X10_isWithin_1 S p0 p1 p2) = 1 from ((if_neg c1_2).trans (if_neg c2_7))).symm ?_
      exact J1_2
theorem z_X10_isWithin (S : St) (p0 : Int32) (p1 : Int32) (p2 : Int32) : narrow .boolean (.int (r_X10_isWithin S p0 p1 p2)) = .int (r_X10_isWithin S p0 p1 p2) := by
  unfold r_X10_isWithin
  first
    | ((repeat' split) <;> decide)
    | (simp only [v_X10_isWithin_1]; (repeat' split) <;> decide)

def v_X0_verify_1 (S : St) (p0 : Int32) : Int32 := (S.1 45) + 1
def s_X0_verify_2 (S : St) (p0 : Int32) : St := si S 45 (v_X0_verify_1 S p0)
def s_X0_verify_3 (S : St) (p0 : Int32) : St := si (s_X0_verify_2 S p0) 31 2
def s_X0_verify_4 (S : St) (p0 : Int32) : St := si (s_X0_verify_3 S p0) 46 0
def s_X0_verify_5 (S : St) (p0 : Int32) : St := if ((s_X0_verify_2 S p0).1 45) = 2 then (s_X0_verify_4 S p0) else (s_X0_verify_2 S p0)
def s_X0_verify_7 (S : St) (p0 : Int32) : St := si S 31 0
def s_X0_verify (S : St) (p0 : Int32) : St := if p0 = 0 then (s_X0_verify_7 S p0) else (s_X0_verify_5 S p0)
def rm_X0_verify : Room := { frames := 0, cells := 0, slots := 0, locals := 0 }
set_option maxRecDepth 100000 in
set_option maxHeartbeats 4000000 in
theorem k_X0_verify (l : Launch) (D : va_G) (a : Nat → Nat) (cZ cI : ClassId) (S : St) (sz : Nat) (p0 : Int32) : Met l yX0_verify wsX0_verify rm_X0_verify (va_Pc [.ref (a 10), .int p0] (pW D (tyZI cZ cI) (wP a cZ cI S) sz nP)) (va_Qv (fun u : St => u = s_X0_verify S p0) (fun u t => oW D (tyZI cZ cI) (wP a cZ cI u) (aA (adP a) sz) t) (aA (adP a) sz)) 0 0 (aA (adP a) sz) := by
  refine Met.ofW (cc := cX0_verify) (maxL := 2) (ret := none) (by decide +kernel) rfl ?_
  intro p e s m args below meth c s₁ B hml hv
  obtain ⟨rfl, hsz, hP0, hK, hD9, hN⟩ := hv
  have hx := B.exec
  have hb := B.bytes
  have hr := B.returns
  have hts := atoms_spec (ws := wsX0_verify) B.pre
  have hown : s.vm.findClass RX0 = some m.cls := findClass_of_methodNamed B.named
  have hlocks := B.notSynchronized
  subst hsz
  have hD0 := aA_self (sz := s.heap.size) (as := adP a) hD9 rfl
  generalize hAe : aA (adP a) s.heap.size = A at hD0 ⊢
  have hA : ∀ q : Nat, s.heap.size ≤ q → A q := fun q h => by rw [← hAe]; exact Or.inr h
  have hAc : ∀ q : Nat, q ∈ adP a → A q := fun q h => by rw [← hAe]; exact Or.inl h
  have hS0 : va_S A s.heap s.heap [] := va_S.rf
  have hl0 := lv_entry ([.ref (a 10), .int p0]) (n := 2) (Nat.le_of_ble_eq_true rfl)
  rw [lg_entry_eq]
  generalize (lg_sl ([.ref (a 10), .int p0]) ++ List.replicate (2 - (lg_sl ([.ref (a 10), .int p0])).length) Slot.unset).toArray = ls0 at hl0 ⊢
  have hl0 : lv_has ls0 2 [(0, .ref (a 10)), (1, .int p0)] := hl0
  generalize hQ : MQ below _ _ s _ _ _ = Q
  clear hD9 B
  refine lv_iload_n hx hb dX0_verify_0 rfl (lv_at hl0 1 rfl) ?_
  refine lv_if_ne (tgt := 10) hx hb dX0_verify_1 (by decide) (fun c1_1 => ?_) (fun c1_1 => ?_)
  · refine lv_aload_n hx hb dX0_verify_10 rfl (lv_at hl0 0 rfl) ?_
    refine lv_dup hx hb dX0_verify_11 rfl ?_
    refine va_get (D := D) (ci := 0) (v := .int (S.1 45)) (C := RX0) (T := TX0) (N := 6) hx hb hts (fun _ h => List.mem_cons_of_mem _ (List.mem_append_right _ (h))) hown hK hP0 10 rfl rfl 4 (by decide) (hts (.fieldLink RX0 24 "Phaselock$Aligner" "matches" "I") (List.mem_cons_of_mem _ (List.mem_append_left _ (List.mem_of_getElem? (i := 1) rfl)))) (fun _ h9 => h9) rfl dX0_verify_12 ?_
    refine lv_iconst (v := 1) hx hb dX0_verify_15 (by decide) ?_
    refine lv_iadd hx hb dX0_verify_16 ?_
    refine lv_asi (y := (v_X0_verify_1 S p0)) rfl ?_
    refine va_put (D := D) (ci := 0) (v := .int (v_X0_verify_1 S p0)) (ty := .int) (C := RX0) (T := TX0) (N := 6) hx hb hts (fun _ h => List.mem_cons_of_mem _ (List.mem_append_right _ (h))) tyX0 tyX0_ok nmX0 hown hK hP0 hD0 hS0 10 rfl rfl 4 (by decide) (hts (.fieldLink RX0 24 "Phaselock$Aligner" "matches" "I") (List.mem_cons_of_mem _ (List.mem_append_left _ (List.mem_of_getElem? (i := 1) rfl)))) (fun _ h9 => h9) rfl (by decide +kernel) rfl rfl (Nat.le_of_ble_eq_true rfl) dX0_verify_17 (fun H1 L1 hP1 hD1 hS1 => ?_)
    replace hP1 : va_P D vwCl (wP a cZ cI (s_X0_verify_2 S p0)) H1 := cvP (wP_s45 a cZ cI S (v_X0_verify_1 S p0)) hP1
    replace hD1 : va_D A (wP a cZ cI (s_X0_verify_2 S p0)) := cvD (wP_s45 a cZ cI S (v_X0_verify_1 S p0)) hD1
    clear hP0 hD0 hS0
    refine lv_aload_n hx hb dX0_verify_20 rfl (lv_at hl0 0 rfl) ?_
    refine va_get (D := D) (ci := 0) (v := .int ((s_X0_verify_2 S p0).1 45)) (C := RX0) (T := TX0) (N := 6) hx hb hts (fun _ h => List.mem_cons_of_mem _ (List.mem_append_right _ (h))) hown hK hP1 10 rfl rfl 4 (by decide) (hts (.fieldLink RX0 24 "Phaselock$Aligner" "matches" "I") (List.mem_cons_of_mem _ (List.mem_append_left _ (List.mem_of_getElem? (i := 1) rfl)))) (fun _ h9 => h9) rfl dX0_verify_21 ?_
    refine lv_iconst (v := 2) hx hb dX0_verify_24 (by decide) ?_
    have J1_25 : ∀ (H4 : Heap) (L4 : List Loc), va_P D vwCl (wP a cZ cI (s_X0_verify_5 S p0)) H4 → va_D A (wP a cZ cI (s_X0_verify_5 S p0)) → va_S A s.heap H4 L4 → W p l e (headSpec wsX0_verify rm_X0_verify).room s m ([.ref (a 10), .int p0] : List Value).toArray below meth c H4 L4 0 0 Q (F0 m 38 ls0 []) := by
      intro H4 L4 hP4 hD4 hS4
      clear hP1 hD1 hS1
      subst hQ; exact W.vret hx hb hr (fun t ht hW => ⟨⟨(s_X0_verify_5 S p0), rfl, (show (s_X0_verify_5 S p0) = s_X0_verify S p0 from (if_neg c1_1).symm), endW hP4 hK hD4 ht hW⟩, hS4.F ht⟩) hS4.2.2 dX0_verify_38
    refine lv_icmp_ne (tgt := 38) hx hb dX0_verify_25 (by decide) (fun c2_25 => ?_) (fun c2_25 => ?_)
    · exact J1_25 _ _ (va_asS (P := fun u => va_P D vwCl (wP a cZ cI u) H1) (show (s_X0_verify_5 S p0) = (s_X0_verify_2 S p0) from (if_neg c2_25)) hP1) (va_asS (P := fun u => va_D A (wP a cZ cI u)) (show (s_X0_verify_5 S p0) = (s_X0_verify_2 S p0) from (if_neg c2_25)) hD1) hS1
    · refine lv_aload_n hx hb dX0_verify_28 rfl (lv_at hl0 0 rfl) ?_
      refine lv_iconst (v := 2) hx hb dX0_verify_29 (by decide) ?_
      refine va_put (D := D) (ci := 0) (v := .int 2) (ty := .int) (C := RX0) (T := TX0) (N := 6) hx hb hts (fun _ h => List.mem_cons_of_mem _ (List.mem_append_right _ (h))) tyX0 tyX0_ok nmX0 hown hK hP1 hD1 hS1 10 rfl rfl 0 (by decide) (hts (.fieldLink RX0 11 "Phaselock$Aligner" "state" "I") (List.mem_cons_of_mem _ (List.mem_append_left _ (List.mem_of_getElem? (i := 0) rfl)))) (fun _ h9 => h9) rfl (by decide +kernel) rfl rfl (Nat.le_of_ble_eq_true rfl) dX0_verify_30 (fun H2 L2 hP2 hD2 hS2 => ?_)
      replace hP2 : va_P D vwCl (wP a cZ cI (s_X0_verify_3 S p0)) H2 := cvP (wP_s31 a cZ cI (s_X0_verify_2 S p0) 2) hP2
      replace hD2 : va_D A (wP a cZ cI (s_X0_verify_3 S p0)) := cvD (wP_s31 a cZ cI (s_X0_verify_2 S p0) 2) hD2
      clear hP1 hD1 hS1
      refine lv_aload_n hx hb dX0_verify_33 rfl (lv_at hl0 0 rfl) ?_
      refine lv_iconst (v := 0) hx hb dX0_verify_34 (by decide) ?_
      refine va_put (D := D) (ci := 0) (v := .int 0) (ty := .int) (C := RX0) (T := TX0) (N := 6) hx hb hts (fun _ h => List.mem_cons_of_mem _ (List.mem_append_right _ (h))) tyX0 tyX0_ok nmX0 hown hK hP2 hD2 hS2 10 rfl rfl 5 (by decide) (hts (.fieldLink RX0 27 "Phaselock$Aligner" "misses" "I") (List.mem_cons_of_mem _ (List.mem_append_left _ (List.mem_of_getElem? (i := 2) rfl)))) (fun _ h9 => h9) rfl (by decide +kernel) rfl rfl (Nat.le_of_ble_eq_true rfl) dX0_verify_35 (fun H3 L3 hP3 hD3 hS3 => ?_)
      replace hP3 : va_P D vwCl (wP a cZ cI (s_X0_verify_4 S p0)) H3 := cvP (wP_s46 a cZ cI (s_X0_verify_3 S p0) 0) hP3
      replace hD3 : va_D A (wP a cZ cI (s_X0_verify_4 S p0)) := cvD (wP_s46 a cZ cI (s_X0_verify_3 S p0) 0) hD3
      clear hP2 hD2 hS2
      exact J1_25 _ _ (va_asS (P := fun u => va_P D vwCl (wP a cZ cI u) H3) (show (s_X0_verify_5 S p0) = (s_X0_verify_4 S p0) from (if_pos c2_25)) hP3) (va_asS (P := fun u => va_D A (wP a cZ cI u)) (show (s_X0_verify_5 S p0) = (s_X0_verify_4 S p0) from (if_pos c2_25)) hD3) hS3
  · refine lv_aload_n hx hb dX0_verify_4 rfl (lv_at hl0 0 rfl) ?_
    refine lv_iconst (v := 0) hx hb dX0_verify_5 (by decide) ?_
    refine va_put (D := D) (ci := 0) (v := .int 0) (ty := .int) (C := RX0) (T := TX0) (N := 6) hx hb hts (fun _ h => List.mem_cons_of_mem _ (List.mem_append_right _ (h))) tyX0 tyX0_ok nmX0 hown hK hP0 hD0 hS0 10 rfl rfl 0 (by decide) (hts (.fieldLink RX0 11 "Phaselock$Aligner" "state" "I") (List.mem_cons_of_mem _ (List.mem_append_left _ (List.mem_of_getElem? (i := 0) rfl)))) (fun _ h9 => h9) rfl (by decide +kernel) rfl rfl (Nat.le_of_ble_eq_true rfl) dX0_verify_6 (fun H1 L1 hP1 hD1 hS1 => ?_)
    replace hP1 : va_P D vwCl (wP a cZ cI (s_X0_verify_7 S p0)) H1 := cvP (wP_s31 a cZ cI S 0) hP1
    replace hD1 : va_D A (wP a cZ cI (s_X0_verify_7 S p0)) := cvD (wP_s31 a cZ cI S 0) hD1
    clear hP0 hD0 hS0
    subst hQ; exact W.vret hx hb hr (fun t ht hW => ⟨⟨(s_X0_verify_7 S p0), rfl, (show (s_X0_verify_7 S p0) = s_X0_verify S p0 from (if_pos c1_1).symm), endW hP1 hK hD1 ht hW⟩, hS1.F ht⟩) hS1.2.2 dX0_verify_9

def v_X0_watchSync_1 (S : St) (p0 : Int32) : Int32 := (S.1 46) + 1
def s_X0_watchSync_2 (S : St) (p0 : Int32) : St := si S 46 (v_X0_watchSync_1 S p0)
def s_X0_watchSync_3 (S : St) (p0 : Int32) : St := si (s_X0_watchSync_2 S p0) 31 0
def v_X0_watchSync_4 (S : St) (p0 : Int32) : Int32 := ((s_X0_watchSync_3 S p0).1 36) + 1
def s_X0_watchSync_5 (S : St) (p0 : Int32) : St := si (s_X0_watchSync_3 S p0) 36 (v_X0_watchSync_4 S p0)
def s_X0_watchSync_6 (S : St) (p0 : Int32) : St := if ((s_X0_watchSync_2 S p0).1 46) = 3 then (s_X0_watchSync_5 S p0) else (s_X0_watchSync_2 S p0)
def v_X0_watchSync_8 (S : St) (p0 : Int32) : Int32 := (S.1 35) + 1
def s_X0_watchSync_9 (S : St) (p0 : Int32) : St := si S 35 (v_X0_watchSync_8 S p0)
def s_X0_watchSync_10 (S : St) (p0 : Int32) : St := si (s_X0_watchSync_9 S p0) 46 0
def s_X0_watchSync (S : St) (p0 : Int32) : St := if p0 = 0 then (s_X0_watchSync_6 S p0) else (s_X0_watchSync_10 S p0)
def rm_X0_watchSync : Room := { frames := 0, cells := 0, slots := 0, locals := 0 }
set_option maxRecDepth 100000 in
set_option maxHeartbeats 4000000 in
theorem k_X0_watchSync (l : Launch) (D : va_G) (a : Nat → Nat) (cZ cI : ClassId) (S : St) (sz : Nat) (p0 : Int32) : Met l yX0_watchSync wsX0_watchSync rm_X0_watchSync (va_Pc [.ref (a 10), .int p0] (pW D (tyZI cZ cI) (wP a cZ cI S) sz nP)) (va_Qv (fun u : St => u = s_X0_watchSync S p0) (fun u t => oW D (tyZI cZ cI) (wP a cZ cI u) (aA (adP a) sz) t) (aA (adP a) sz)) 0 0 (aA (adP a) sz) := by
  refine Met.ofW (cc := cX0_watchSync) (maxL := 2) (ret := none) (by decide +kernel) rfl ?_
  intro p e s m args below meth c s₁ B hml hv
  obtain ⟨rfl, hsz, hP0, hK, hD9, hN⟩ := hv
  have hx := B.exec
  have hb := B.bytes
  have hr := B.returns
  have hts := atoms_spec (ws := wsX0_watchSync) B.pre
  have hown : s.vm.findClass RX0 = some m.cls := findClass_of_methodNamed B.named
  have hlocks := B.notSynchronized
  subst hsz
  have hD0 := aA_self (sz := s.heap.size) (as := adP a) hD9 rfl
  generalize hAe : aA (adP a) s.heap.size = A at hD0 ⊢
  have hA : ∀ q : Nat, s.heap.size ≤ q → A q := fun q h => by rw [← hAe]; exact Or.inr h
  have hAc : ∀ q : Nat, q ∈ adP a → A q := fun q h => by rw [← hAe]; exact Or.inl h
  have hS0 : va_S A s.heap s.heap [] := va_S.rf
  have hl0 := lv_entry ([.ref (a 10), .int p0]) (n := 2) (Nat.le_of_ble_eq_true rfl)
  rw [lg_entry_eq]
  generalize (lg_sl ([.ref (a 10), .int p0]) ++ List.replicate (2 - (lg_sl ([.ref (a 10), .int p0])).length) Slot.unset).toArray = ls0 at hl0 ⊢
  have hl0 : lv_has ls0 2 [(0, .ref (a 10)), (1, .int p0)] := hl0
  generalize hQ : MQ below _ _ s _ _ _ = Q
  clear hD9 B
  refine lv_iload_n hx hb dX0_watchSync_0 rfl (lv_at hl0 1 rfl) ?_
  refine lv_if_eq (tgt := 20) hx hb dX0_watchSync_1 (by decide) (fun c1_1 => ?_) (fun c1_1 => ?_)
  · refine lv_aload_n hx hb dX0_watchSync_20 rfl (lv_at hl0 0 rfl) ?_
    refine lv_dup hx hb dX0_watchSync_21 rfl ?_
    refine va_get (D := D) (ci := 0) (v := .int (S.1 46)) (C := RX0) (T := TX0) (N := 6) hx hb hts (fun _ h => List.mem_cons_of_mem _ (List.mem_append_right _ (h))) hown hK hP0 10 rfl rfl 5 (by decide) (hts (.fieldLink RX0 27 "Phaselock$Aligner" "misses" "I") (List.mem_cons_of_mem _ (List.mem_append_left _ (List.mem_of_getElem? (i := 1) rfl)))) (fun _ h9 => h9) rfl dX0_watchSync_22 ?_
    refine lv_iconst (v := 1) hx hb dX0_watchSync_25 (by decide) ?_
    refine lv_iadd hx hb dX0_watchSync_26 ?_
    refine lv_asi (y := (v_X0_watchSync_1 S p0)) rfl ?_
    refine va_put (D := D) (ci := 0) (v := .int (v_X0_watchSync_1 S p0)) (ty := .int) (C := RX0) (T := TX0) (N := 6) hx hb hts (fun _ h => List.mem_cons_of_mem _ (List.mem_append_right _ (h))) tyX0 tyX0_ok nmX0 hown hK hP0 hD0 hS0 10 rfl rfl 5 (by decide) (hts (.fieldLink RX0 27 "Phaselock$Aligner" "misses" "I") (List.mem_cons_of_mem _ (List.mem_append_left _ (List.mem_of_getElem? (i := 1) rfl)))) (fun _ h9 => h9) rfl (by decide +kernel) rfl rfl (Nat.le_of_ble_eq_true rfl) dX0_watchSync_27 (fun H1 L1 hP1 hD1 hS1 => ?_)
    replace hP1 : va_P D vwCl (wP a cZ cI (s_X0_watchSync_2 S p0)) H1 := cvP (wP_s46 a cZ cI S (v_X0_watchSync_1 S p0)) hP1
    replace hD1 : va_D A (wP a cZ cI (s_X0_watchSync_2 S p0)) := cvD (wP_s46 a cZ cI S (v_X0_watchSync_1 S p0)) hD1
    clear hP0 hD0 hS0
    refine lv_aload_n hx hb dX0_watchSync_30 rfl (lv_at hl0 0 rfl) ?_
    refine va_get (D := D) (ci := 0) (v := .int ((s_X0_watchSync_2 S p0).1 46)) (C := RX0) (T := TX0) (N := 6) hx hb hts (fun _ h => List.mem_cons_of_mem _ (List.mem_append_right _ (h))) hown hK hP1 10 rfl rfl 5 (by decide) (hts (.fieldLink RX0 27 "Phaselock$Aligner" "misses" "I") (List.mem_cons_of_mem _ (List.mem_append_left _ (List.mem_of_getElem? (i := 1) rfl)))) (fun _ h9 => h9) rfl dX0_watchSync_31 ?_
    refine lv_iconst (v := 3) hx hb dX0_watchSync_34 (by decide) ?_
    have J1_35 : ∀ (H4 : Heap) (L4 : List Loc), va_P D vwCl (wP a cZ cI (s_X0_watchSync_6 S p0)) H4 → va_D A (wP a cZ cI (s_X0_watchSync_6 S p0)) → va_S A s.heap H4 L4 → W p l e (headSpec wsX0_watchSync rm_X0_watchSync).room s m ([.ref (a 10), .int p0] : List Value).toArray below meth c H4 L4 0 0 Q (F0 m 53 ls0 []) := by
      intro H4 L4 hP4 hD4 hS4
      clear hP1 hD1 hS1
      subst hQ; exact W.vret hx hb hr (fun t ht hW => ⟨⟨(s_X0_watchSync_6 S p0), rfl, (show (s_X0_watchSync_6 S p0) = s_X0_watchSync S p0 from (if_pos c1_1).symm), endW hP4 hK hD4 ht hW⟩, hS4.F ht⟩) hS4.2.2 dX0_watchSync_53
    refine lv_icmp_ne (tgt := 53) hx hb dX0_watchSync_35 (by decide) (fun c2_35 => ?_) (fun c2_35 => ?_)
    · exact J1_35 _ _ (va_asS (P := fun u => va_P D vwCl (wP a cZ cI u) H1) (show (s_X0_watchSync_6 S p0) = (s_X0_watchSync_2 S p0) from (if_neg c2_35)) hP1) (va_asS (P := fun u => va_D A (wP a cZ cI u)) (show (s_X0_watchSync_6 S p0) = (s_X0_watchSync_2 S p0) from (if_neg c2_35)) hD1) hS1
    · refine lv_aload_n hx hb dX0_watchSync_38 rfl (lv_at hl0 0 rfl) ?_
      refine lv_iconst (v := 0) hx hb dX0_watchSync_39 (by decide) ?_
      refine va_put (D := D) (ci := 0) (v := .int 0) (ty := .int) (C := RX0) (T := TX0) (N := 6) hx hb hts (fun _ h => List.mem_cons_of_mem _ (List.mem_append_right _ (h))) tyX0 tyX0_ok nmX0 hown hK hP1 hD1 hS1 10 rfl rfl 0 (by decide) (hts (.fieldLink RX0 11 "Phaselock$Aligner" "state" "I") (List.mem_cons_of_mem _ (List.mem_append_left _ (List.mem_of_getElem? (i := 2) rfl)))) (fun _ h9 => h9) rfl (by decide +kernel) rfl rfl (Nat.le_of_ble_eq_true rfl) dX0_watchSync_40 (fun H2 L2 hP2 hD2 hS2 => ?_)
      replace hP2 : va_P D vwCl (wP a cZ cI (s_X0_watchSync_3 S p0)) H2 := cvP (wP_s31 a cZ cI (s_X0_watchSync_2 S p0) 0) hP2
      replace hD2 : va_D A (wP a cZ cI (s_X0_watchSync_3 S p0)) := cvD (wP_s31 a cZ cI (s_X0_watchSync_2 S p0) 0) hD2
      clear hP1 hD1 hS1
      refine lv_aload_n hx hb dX0_watchSync_43 rfl (lv_at hl0 0 rfl) ?_
      refine lv_dup hx hb dX0_watchSync_44 rfl ?_
      refine va_get (D := D) (ci := 0) (v := .int ((s_X0_watchSync_3 S p0).1 36)) (C := RX0) (T := TX0) (N := 6) hx hb hts (fun _ h => List.mem_cons_of_mem _ (List.mem_append_right _ (h))) hown hK hP2 10 rfl rfl 2 (by decide) (hts (.fieldLink RX0 18 "Phaselock$Aligner" "losses" "I") (List.mem_cons_of_mem _ (List.mem_append_left _ (List.mem_of_getElem? (i := 3) rfl)))) (fun _ h9 => h9) rfl dX0_watchSync_45 ?_
      refine lv_iconst (v := 1) hx hb dX0_watchSync_48 (by decide) ?_
      refine lv_iadd hx hb dX0_watchSync_49 ?_
      refine lv_asi (y := (v_X0_watchSync_4 S p0)) rfl ?_
      refine va_put (D := D) (ci := 0) (v := .int (v_X0_watchSync_4 S p0)) (ty := .int) (C := RX0) (T := TX0) (N := 6) hx hb hts (fun _ h => List.mem_cons_of_mem _ (List.mem_append_right _ (h))) tyX0 tyX0_ok nmX0 hown hK hP2 hD2 hS2 10 rfl rfl 2 (by decide) (hts (.fieldLink RX0 18 "Phaselock$Aligner" "losses" "I") (List.mem_cons_of_mem _ (List.mem_append_left _ (List.mem_of_getElem? (i := 3) rfl)))) (fun _ h9 => h9) rfl (by decide +kernel) rfl rfl (Nat.le_of_ble_eq_true rfl) dX0_watchSync_50 (fun H3 L3 hP3 hD3 hS3 => ?_)
      replace hP3 : va_P D vwCl (wP a cZ cI (s_X0_watchSync_5 S p0)) H3 := cvP (wP_s36 a cZ cI (s_X0_watchSync_3 S p0) (v_X0_watchSync_4 S p0)) hP3
      replace hD3 : va_D A (wP a cZ cI (s_X0_watchSync_5 S p0)) := cvD (wP_s36 a cZ cI (s_X0_watchSync_3 S p0) (v_X0_watchSync_4 S p0)) hD3
      clear hP2 hD2 hS2
      exact J1_35 _ _ (va_asS (P := fun u => va_P D vwCl (wP a cZ cI u) H3) (show (s_X0_watchSync_6 S p0) = (s_X0_watchSync_5 S p0) from (if_pos c2_35)) hP3) (va_asS (P := fun u => va_D A (wP a cZ cI u)) (show (s_X0_watchSync_6 S p0) = (s_X0_watchSync_5 S p0) from (if_pos c2_35)) hD3) hS3
  · refine lv_aload_n hx hb dX0_watchSync_4 rfl (lv_at hl0 0 rfl) ?_
    refine lv_dup hx hb dX0_watchSync_5 rfl ?_
    refine va_get (D := D) (ci := 0) (v := .int (S.1 35)) (C := RX0) (T := TX0) (N := 6) hx hb hts (fun _ h => List.mem_cons_of_mem _ (List.mem_append_right _ (h))) hown hK hP0 10 rfl rfl 1 (by decide) (hts (.fieldLink RX0 15 "Phaselock$Aligner" "frames" "I") (List.mem_cons_of_mem _ (List.mem_append_left _ (List.mem_of_getElem? (i := 0) rfl)))) (fun _ h9 => h9) rfl dX0_watchSync_6 ?_
    refine lv_iconst (v := 1) hx hb dX0_watchSync_9 (by decide) ?_
    refine lv_iadd hx hb dX0_watchSync_10 ?_
    refine lv_asi (y := (v_X0_watchSync_8 S p0)) rfl ?_
    refine va_put (D := D) (ci := 0) (v := .int (v_X0_watchSync_8 S p0)) (ty := .int) (C := RX0) (T := TX0) (N := 6) hx hb hts (fun _ h => List.mem_cons_of_mem _ (List.mem_append_right _ (h))) tyX0 tyX0_ok nmX0 hown hK hP0 hD0 hS0 10 rfl rfl 1 (by decide) (hts (.fieldLink RX0 15 "Phaselock$Aligner" "frames" "I") (List.mem_cons_of_mem _ (List.mem_append_left _ (List.mem_of_getElem? (i := 0) rfl)))) (fun _ h9 => h9) rfl (by decide +kernel) rfl rfl (Nat.le_of_ble_eq_true rfl) dX0_watchSync_11 (fun H1 L1 hP1 hD1 hS1 => ?_)
    replace hP1 : va_P D vwCl (wP a cZ cI (s_X0_watchSync_9 S p0)) H1 := cvP (wP_s35 a cZ cI S (v_X0_watchSync_8 S p0)) hP1
    replace hD1 : va_D A (wP a cZ cI (s_X0_watchSync_9 S p0)) := cvD (wP_s35 a cZ cI S (v_X0_watchSync_8 S p0)) hD1
    clear hP0 hD0 hS0
    refine lv_aload_n hx hb dX0_watchSync_14 rfl (lv_at hl0 0 rfl) ?_
    refine lv_iconst (v := 0) hx hb dX0_watchSync_15 (by decide) ?_
    refine va_put (D := D) (ci := 0) (v := .int 0) (ty := .int) (C := RX0) (T := TX0) (N := 6) hx hb hts (fun _ h => List.mem_cons_of_mem _ (List.mem_append_right _ (h))) tyX0 tyX0_ok nmX0 hown hK hP1 hD1 hS1 10 rfl rfl 5 (by decide) (hts (.fieldLink RX0 27 "Phaselock$Aligner" "misses" "I") (List.mem_cons_of_mem _ (List.mem_append_left _ (List.mem_of_getElem? (i := 1) rfl)))) (fun _ h9 => h9) rfl (by decide +kernel) rfl rfl (Nat.le_of_ble_eq_true rfl) dX0_watchSync_16 (fun H2 L2 hP2 hD2 hS2 => ?_)
    replace hP2 : va_P D vwCl (wP a cZ cI (s_X0_watchSync_10 S p0)) H2 := cvP (wP_s46 a cZ cI (s_X0_watchSync_9 S p0) 0) hP2
    replace hD2 : va_D A (wP a cZ cI (s_X0_watchSync_10 S p0)) := cvD (wP_s46 a cZ cI (s_X0_watchSync_9 S p0) 0) hD2
    clear hP1 hD1 hS1
    subst hQ; exact W.vret hx hb hr (fun t ht hW => ⟨⟨(s_X0_watchSync_10 S p0), rfl, (show (s_X0_watchSync_10 S p0) = s_X0_watchSync S p0 from (if_neg c1_1).symm), endW hP2 hK hD2 ht hW⟩, hS2.F ht⟩) hS2.2.2 dX0_watchSync_19

def v_X0_take_1 (S : St) (p0 : Int32) : Int32 := (S.1 44) + 1
def s_X0_take_2 (S : St) (p0 : Int32) : St := si S 44 (v_X0_take_1 S p0)
def s_X0_take_3 (S : St) (p0 : Int32) : St := si (s_X0_take_2 S p0) 44 0
def s_X0_take_4 (S : St) (p0 : Int32) : St := s_X0_watchSync (s_X0_take_3 S p0) p0
def s_X0_take_5 (S : St) (p0 : Int32) : St := s_X0_verify (s_X0_take_3 S p0) p0
def s_X0_take_6 (S : St) (p0 : Int32) : St := if ((s_X0_take_3 S p0).1 31) = 1 then (s_X0_take_5 S p0) else (s_X0_take_4 S p0)
def s_X0_take_9 (S : St) (p0 : Int32) : St := si S 31 1
def s_X0_take_10 (S : St) (p0 : Int32) : St := si (s_X0_take_9 S p0) 44 0
def s_X0_take_11 (S : St) (p0 : Int32) : St := si (s_X0_take_10 S p0) 45 0
def s_X0_take_12 (S : St) (p0 : Int32) : St := if p0 = 0 then S else (s_X0_take_11 S p0)
def s_X0_take (S : St) (p0 : Int32) : St := if (S.1 31) = 0 then (s_X0_take_12 S p0) else if 24 ≤ ((s_X0_take_2 S p0).1 44) then (s_X0_take_6 S p0) else (s_X0_take_2 S p0)
def rm_X0_take : Room := { frames := 1, cells := 0, slots := 0, locals := 21 }
set_option maxRecDepth 100000 in
set_option maxHeartbeats 4000000 in
theorem k_X0_take (l : Launch) (D : va_G) (a : Nat → Nat) (cZ cI : ClassId) (S : St) (sz : Nat) (p0 : Int32) : Met l yX0_take wsX0_take rm_X0_take (va_Pc [.ref (a 10), .int p0] (pW D (tyZI cZ cI) (wP a cZ cI S) sz nP)) (va_Qv (fun u : St => u = s_X0_take S p0) (fun u t => oW D (tyZI cZ cI) (wP a cZ cI u) (aA (adP a) sz) t) (aA (adP a) sz)) 0 0 (aA (adP a) sz) := by
  refine Met.ofW (cc := cX0_take) (maxL := 2) (ret := none) (by decide +kernel) rfl ?_
  intro p e s m args below meth c s₁ B hml hv
  obtain ⟨rfl, hsz, hP0, hK, hD9, hN⟩ := hv
  have hx := B.exec
  have hb := B.bytes
  have hr := B.returns
  have hts := atoms_spec (ws := wsX0_take) B.pre
  have hown : s.vm.findClass RX0 = some m.cls := findClass_of_methodNamed B.named
  have hlocks := B.notSynchronized
  subst hsz
  have hD0 := aA_self (sz := s.heap.size) (as := adP a) hD9 rfl
  generalize hAe : aA (adP a) s.heap.size = A at hD0 ⊢
  have hA : ∀ q : Nat, s.heap.size ≤ q → A q := fun q h => by rw [← hAe]; exact Or.inr h
  have hAc : ∀ q : Nat, q ∈ adP a → A q := fun q h => by rw [← hAe]; exact Or.inl h
  have hS0 : va_S A s.heap s.heap [] := va_S.rf
  have hl0 := lv_entry ([.ref (a 10), .int p0]) (n := 2) (Nat.le_of_ble_eq_true rfl)
  rw [lg_entry_eq]
  generalize (lg_sl ([.ref (a 10), .int p0]) ++ List.replicate (2 - (lg_sl ([.ref (a 10), .int p0])).length) Slot.unset).toArray = ls0 at hl0 ⊢
  have hl0 : lv_has ls0 2 [(0, .ref (a 10)), (1, .int p0)] := hl0
  generalize hQ : MQ below _ _ s _ _ _ = Q
  clear hD9 B
  refine lv_aload_n hx hb dX0_take_0 rfl (lv_at hl0 0 rfl) ?_
  refine va_get (D := D) (ci := 0) (v := .int (S.1 31)) (C := RX0) (T := TX0) (N := 6) hx hb hts (fun _ h => List.mem_cons_of_mem _ (List.mem_append_right _ (h))) hown hK hP0 10 rfl rfl 0 (by decide) (hts (.fieldLink RX0 11 "Phaselock$Aligner" "state" "I") (List.mem_cons_of_mem _ (List.mem_append_left _ (List.mem_of_getElem? (i := 0) rfl)))) (fun _ h9 => h9) rfl dX0_take_1 ?_
  refine lv_if_ne (tgt := 27) hx hb dX0_take_4 (by decide) (fun c1_4 => ?_) (fun c1_4 => ?_)
  · refine lv_aload_n hx hb dX0_take_27 rfl (lv_at hl0 0 rfl) ?_
    refine lv_dup hx hb dX0_take_28 rfl ?_
    refine va_get (D := D) (ci := 0) (v := .int (S.1 44)) (C := RX0) (T := TX0) (N := 6) hx hb hts (fun _ h => List.mem_cons_of_mem _ (List.mem_append_right _ (h))) hown hK hP0 10 rfl rfl 3 (by decide) (hts (.fieldLink RX0 21 "Phaselock$Aligner" "position" "I") (List.mem_cons_of_mem _ (List.mem_append_left _ (List.mem_of_getElem? (i := 1) rfl)))) (fun _ h9 => h9) rfl dX0_take_29 ?_
    refine lv_iconst (v := 1) hx hb dX0_take_32 (by decide) ?_
    refine lv_iadd hx hb dX0_take_33 ?_
    refine lv_asi (y := (v_X0_take_1 S p0)) rfl ?_
    refine va_put (D := D) (ci := 0) (v := .int (v_X0_take_1 S p0)) (ty := .int) (C := RX0) (T := TX0) (N := 6) hx hb hts (fun _ h => List.mem_cons_of_mem _ (List.mem_append_right _ (h))) tyX0 tyX0_ok nmX0 hown hK hP0 hD0 hS0 10 rfl rfl 3 (by decide) (hts (.fieldLink RX0 21 "Phaselock$Aligner" "position" "I") (List.mem_cons_of_mem _ (List.mem_append_left _ (List.mem_of_getElem? (i := 1) rfl)))) (fun _ h9 => h9) rfl (by decide +kernel) rfl rfl (Nat.le_of_ble_eq_true rfl) dX0_take_34 (fun H1 L1 hP1 hD1 hS1 => ?_)
    replace hP1 : va_P D vwCl (wP a cZ cI (s_X0_take_2 S p0)) H1 := cvP (wP_s44 a cZ cI S (v_X0_take_1 S p0)) hP1
    replace hD1 : va_D A (wP a cZ cI (s_X0_take_2 S p0)) := cvD (wP_s44 a cZ cI S (v_X0_take_1 S p0)) hD1
    clear hP0 hD0 hS0
    refine lv_aload_n hx hb dX0_take_37 rfl (lv_at hl0 0 rfl) ?_
    refine va_get (D := D) (ci := 0) (v := .int ((s_X0_take_2 S p0).1 44)) (C := RX0) (T := TX0) (N := 6) hx hb hts (fun _ h => List.mem_cons_of_mem _ (List.mem_append_right _ (h))) hown hK hP1 10 rfl rfl 3 (by decide) (hts (.fieldLink RX0 21 "Phaselock$Aligner" "position" "I") (List.mem_cons_of_mem _ (List.mem_append_left _ (List.mem_of_getElem? (i := 1) rfl)))) (fun _ h9 => h9) rfl dX0_take_38 ?_
    refine lv_bipush (v := 24) hx hb dX0_take_41 (by decide) ?_
    refine lv_icmp_ge (tgt := 47) hx hb dX0_take_43 (by decide) (fun c2_43 => ?_) (fun c2_43 => ?_)
    · refine lv_aload_n hx hb dX0_take_47 rfl (lv_at hl0 0 rfl) ?_
      refine lv_iconst (v := 0) hx hb dX0_take_48 (by decide) ?_
      refine va_put (D := D) (ci := 0) (v := .int 0) (ty := .int) (C := RX0) (T := TX0) (N := 6) hx hb hts (fun _ h => List.mem_cons_of_mem _ (List.mem_append_right _ (h))) tyX0 tyX0_ok nmX0 hown hK hP1 hD1 hS1 10 rfl rfl 3 (by decide) (hts (.fieldLink RX0 21 "Phaselock$Aligner" "position" "I") (List.mem_cons_of_mem _ (List.mem_append_left _ (List.mem_of_getElem? (i := 1) rfl)))) (fun _ h9 => h9) rfl (by decide +kernel) rfl rfl (Nat.le_of_ble_eq_true rfl) dX0_take_49 (fun H2 L2 hP2 hD2 hS2 => ?_)
      replace hP2 : va_P D vwCl (wP a cZ cI (s_X0_take_3 S p0)) H2 := cvP (wP_s44 a cZ cI (s_X0_take_2 S p0) 0) hP2
      replace hD2 : va_D A (wP a cZ cI (s_X0_take_3 S p0)) := cvD (wP_s44 a cZ cI (s_X0_take_2 S p0) 0) hD2
      clear hP1 hD1 hS1
      refine lv_aload_n hx hb dX0_take_52 rfl (lv_at hl0 0 rfl) ?_
      refine va_get (D := D) (ci := 0) (v := .int ((s_X0_take_3 S p0).1 31)) (C := RX0) (T := TX0) (N := 6) hx hb hts (fun _ h => List.mem_cons_of_mem _ (List.mem_append_right _ (h))) hown hK hP2 10 rfl rfl 0 (by decide) (hts (.fieldLink RX0 11 "Phaselock$Aligner" "state" "I") (List.mem_cons_of_mem _ (List.mem_append_left _ (List.mem_of_getElem? (i := 0) rfl)))) (fun _ h9 => h9) rfl dX0_take_53 ?_
      refine lv_iconst (v := 1) hx hb dX0_take_56 (by decide) ?_
      have J1_57 : ∀ (H4 : Heap) (L4 : List Loc), va_P D vwCl (wP a cZ cI (s_X0_take_6 S p0)) H4 → va_D A (wP a cZ cI (s_X0_take_6 S p0)) → va_S A s.heap H4 L4 → W p l e (headSpec wsX0_take rm_X0_take).room s m ([.ref (a 10), .int p0] : List Value).toArray below meth c H4 L4 0 0 Q (F0 m 73 ls0 []) := by
        intro H4 L4 hP4 hD4 hS4
        clear hP2 hD2 hS2
        subst hQ; exact W.vret hx hb hr (fun t ht hW => ⟨⟨(s_X0_take_6 S p0), rfl, (show (s_X0_take_6 S p0) = s_X0_take S p0 from ((if_neg c1_4).trans (if_pos c2_43)).symm), endW hP4 hK hD4 ht hW⟩, hS4.F ht⟩) hS4.2.2 dX0_take_73
      refine lv_icmp_ne (tgt := 68) hx hb dX0_take_57 (by decide) (fun c3_57 => ?_) (fun c3_57 => ?_)
      · refine lv_aload_n hx hb dX0_take_68 rfl (lv_at hl0 0 rfl) ?_
        refine lv_iload_n hx hb dX0_take_69 rfl (lv_at hl0 1 rfl) ?_
        refine va_callv (va_runV (As := [.int p0]) (rest := []) ⟨hx, hb, hml, hown, hts⟩ (k_X0_watchSync l D a cZ cI (s_X0_take_3 S p0) H2.size p0) (cwV 1 hts gX0_take_X0_watchSync rfl rfl rfl (by decide +kernel) ⟨Nat.le_of_ble_eq_true rfl, Nat.le_of_ble_eq_true rfl⟩) ⟨blW okN_P, va_recv hK hP2 (ci := 0) (q0 := 10) rfl rfl, preW hP2 hK hD2 okN_P hN⟩ rfl rfl hl0.1 rfl (lv_room (Nat.le_of_ble_eq_true rfl)) dX0_take_70 ⟨Nat.zero_le _, Nat.zero_le _⟩) hS2 (aA_in hAc) (aA_free hAc hA hS2) (fun u3 t3 H3 L3 ht3 hvm3 hw3 hB3 _ _ hS3 => ?_)
        obtain ⟨hP3, hD3⟩ := backW hB3 ht3 (aA_free hAc hA hS2)
        clear hB3 ht3 hvm3 t3
        have hu3 : u3 = _ := hw3
        clear hw3; subst u3
        replace hP3 : va_P D vwCl (wP a cZ cI (s_X0_take_4 S p0)) H3 := hP3
        replace hD3 : va_D A (wP a cZ cI (s_X0_take_4 S p0)) := hD3
        clear hP2 hD2 hS2
        exact J1_57 _ _ (va_asS (P := fun u => va_P D vwCl (wP a cZ cI u) H3) (show (s_X0_take_6 S p0) = (s_X0_take_4 S p0) from (if_neg c3_57)) hP3) (va_asS (P := fun u => va_D A (wP a cZ cI u)) (show (s_X0_take_6 S p0) = (s_X0_take_4 S p0) from (if_neg c3_57)) hD3) hS3
      · refine lv_aload_n hx hb dX0_take_60 rfl (lv_at hl0 0 rfl) ?_
        refine lv_iload_n hx hb dX0_take_61 rfl (lv_at hl0 1 rfl) ?_
        refine va_callv (va_runV (As := [.int p0]) (rest := []) ⟨hx, hb, hml, hown, hts⟩ (k_X0_verify l D a cZ cI (s_X0_take_3 S p0) H2.size p0) (cwV 1 hts gX0_take_X0_verify rfl rfl rfl (by decide +kernel) ⟨Nat.le_of_ble_eq_true rfl, Nat.le_of_ble_eq_true rfl⟩) ⟨blW okN_P, va_recv hK hP2 (ci := 0) (q0 := 10) rfl rfl, preW hP2 hK hD2 okN_P hN⟩ rfl rfl hl0.1 rfl (lv_room (Nat.le_of_ble_eq_true rfl)) dX0_take_62 ⟨Nat.zero_le _, Nat.zero_le _⟩) hS2 (aA_in hAc) (aA_free hAc hA hS2) (fun u3 t3 H3 L3 ht3 hvm3 hw3 hB3 _ _ hS3 => ?_)
        obtain ⟨hP3, hD3⟩ := backW hB3 ht3 (aA_free hAc hA hS2)
        clear hB3 ht3 hvm3 t3
        have hu3 : u3 = _ := hw3
        clear hw3; subst u3
        replace hP3 : va_P D vwCl (wP a cZ cI (s_X0_take_5 S p0)) H3 := hP3
        replace hD3 : va_D A (wP a cZ cI (s_X0_take_5 S p0)) := hD3
        clear hP2 hD2 hS2
        refine lv_goto (tgt := 73) hx hb dX0_take_65 (by decide) ?_
        exact J1_57 _ _ (va_asS (P := fun u => va_P D vwCl (wP a cZ cI u) H3) (show (s_X0_take_6 S p0) = (s_X0_take_5 S p0) from (if_pos c3_57)) hP3) (va_asS (P := fun u => va_D A (wP a cZ cI u)) (show (s_X0_take_6 S p0) = (s_X0_take_5 S p0) from (if_pos c3_57)) hD3) hS3
    · subst hQ; exact W.vret hx hb hr (fun t ht hW => ⟨⟨(s_X0_take_2 S p0), rfl, (show (s_X0_take_2 S p0) = s_X0_take S p0 from ((if_neg c1_4).trans (if_neg c2_43)).symm), endW hP1 hK hD1 ht hW⟩, hS1.F ht⟩) hS1.2.2 dX0_take_46
  · refine lv_iload_n hx hb dX0_take_7 rfl (lv_at hl0 1 rfl) ?_
    have J2_8 : ∀ (H4 : Heap) (L4 : List Loc), va_P D vwCl (wP a cZ cI (s_X0_take_12 S p0)) H4 → va_D A (wP a cZ cI (s_X0_take_12 S p0)) → va_S A s.heap H4 L4 → W p l e (headSpec wsX0_take rm_X0_take).room s m ([.ref (a 10), .int p0] : List Value).toArray below meth c H4 L4 0 0 Q (F0 m 26 ls0 []) := by
      intro H4 L4 hP4 hD4 hS4
      clear hP0 hD0 hS0
      subst hQ; exact W.vret hx hb hr (fun t ht hW => ⟨⟨(s_X0_take_12 S p0), rfl, (show (s_X0_take_12 S p0) = s_X0_take S p0 from (if_pos c1_4).symm), endW hP4 hK hD4 ht hW⟩, hS4.F ht⟩) hS4.2.2 dX0_take_26
    refine lv_if_eq (tgt := 26) hx hb dX0_take_8 (by decide) (fun c4_8 => ?_) (fun c4_8 => ?_)
    · exact J2_8 _ _ (va_asS (P := fun u => va_P D vwCl (wP a cZ cI u) s.heap) (show (s_X0_take_12 S p0) = S from (if_pos c4_8)) hP0) (va_asS (P := fun u => va_D A (wP a cZ cI u)) (show (s_X0_take_12 S p0) = S from (if_pos c4_8)) hD0) hS0
    · refine lv_aload_n hx hb dX0_take_11 rfl (lv_at hl0 0 rfl) ?_
      refine lv_iconst (v := 1) hx hb dX0_take_12 (by decide) ?_
      refine va_put (D := D) (ci := 0) (v := .int 1) (ty := .int) (C := RX0) (T := TX0) (N := 6) hx hb hts (fun _ h => List.mem_cons_of_mem _ (List.mem_append_right _ (h))) tyX0 tyX0_ok nmX0 hown hK hP0 hD0 hS0 10 rfl rfl 0 (by decide) (hts (.fieldLink RX0 11 "Phaselock$Aligner" "state" "I") (List.mem_cons_of_mem _ (List.mem_append_left _ (List.mem_of_getElem? (i := 0) rfl)))) (fun _ h9 => h9) rfl (by decide +kernel) rfl rfl (Nat.le_of_ble_eq_true rfl) dX0_take_13 (fun H1 L1 hP1 hD1 hS1 => ?_)
      replace hP1 : va_P D vwCl (wP a cZ cI (s_X0_take_9 S p0)) H1 := cvP (wP_s31 a cZ cI S 1) hP1
      replace hD1 : va_D A (wP a cZ cI (s_X0_take_9 S p0)) := cvD (wP_s31 a cZ cI S 1) hD1
      clear hP0 hD0 hS0
      refine lv_aload_n hx hb dX0_take_16 rfl (lv_at hl0 0 rfl) ?_
      refine lv_iconst (v := 0) hx hb dX0_take_17 (by decide) ?_
      refine va_put (D := D) (ci := 0) (v := .int 0) (ty := .int) (C := RX0) (T := TX0) (N := 6) hx hb hts (fun _ h => List.mem_cons_of_mem _ (List.mem_append_right _ (h))) tyX0 tyX0_ok nmX0 hown hK hP1 hD1 hS1 10 rfl rfl 3 (by decide) (hts (.fieldLink RX0 21 "Phaselock$Aligner" "position" "I") (List.mem_cons_of_mem _ (List.mem_append_left _ (List.mem_of_getElem? (i := 1) rfl)))) (fun _ h9 => h9) rfl (by decide +kernel) rfl rfl (Nat.le_of_ble_eq_true rfl) dX0_take_18 (fun H2 L2 hP2 hD2 hS2 => ?_)
      replace hP2 : va_P D vwCl (wP a cZ cI (s_X0_take_10 S p0)) H2 := cvP (wP_s44 a cZ cI (s_X0_take_9 S p0) 0) hP2
      replace hD2 : va_D A (wP a cZ cI (s_X0_take_10 S p0)) := cvD (wP_s44 a cZ cI (s_X0_take_9 S p0) 0) hD2
      clear hP1 hD1 hS1
      refine lv_aload_n hx hb dX0_take_21 rfl (lv_at hl0 0 rfl) ?_
      refine lv_iconst (v := 0) hx hb dX0_take_22 (by decide) ?_
      refine va_put (D := D) (ci := 0) (v := .int 0) (ty := .int) (C := RX0) (T := TX0) (N := 6) hx hb hts (fun _ h => List.mem_cons_of_mem _ (List.mem_append_right _ (h))) tyX0 tyX0_ok nmX0 hown hK hP2 hD2 hS2 10 rfl rfl 4 (by decide) (hts (.fieldLink RX0 24 "Phaselock$Aligner" "matches" "I") (List.mem_cons_of_mem _ (List.mem_append_left _ (List.mem_of_getElem? (i := 2) rfl)))) (fun _ h9 => h9) rfl (by decide +kernel) rfl rfl (Nat.le_of_ble_eq_true rfl) dX0_take_23 (fun H3 L3 hP3 hD3 hS3 => ?_)
      replace hP3 : va_P D vwCl (wP a cZ cI (s_X0_take_11 S p0)) H3 := cvP (wP_s45 a cZ cI (s_X0_take_10 S p0) 0) hP3
      replace hD3 : va_D A (wP a cZ cI (s_X0_take_11 S p0)) := cvD (wP_s45 a cZ cI (s_X0_take_10 S p0) 0) hD3
      clear hP2 hD2 hS2
      exact J2_8 _ _ (va_asS (P := fun u => va_P D vwCl (wP a cZ cI u) H3) (show (s_X0_take_12 S p0) = (s_X0_take_11 S p0) from (if_neg c4_8)) hP3) (va_asS (P := fun u => va_D A (wP a cZ cI u)) (show (s_X0_take_12 S p0) = (s_X0_take_11 S p0) from (if_neg c4_8)) hD3) hS3
