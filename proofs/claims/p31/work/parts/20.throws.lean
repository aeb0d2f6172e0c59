theorem bp_e {i : Nat} (hi : i ≤ 15) (c : 16 ≤ nI (i + 1)) : i = 15 := by
  have := (nI_leI (a := 16) (b := i + 1) (by omega) (by omega)).mp c
  omega
theorem bp_s {i : Nat} (hi : i ≤ 15) (c : ¬ 16 ≤ nI (i + 1)) : i < 15 := by
  apply Nat.lt_of_not_le
  intro q
  exact c ((nI_leI (a := 16) (b := i + 1) (by omega) (by omega)).mpr (by omega))
def v_X10_bestPhase_1 (S : St) : Int32 := r_X2_sumCosts S 0
def lcst (S : St) : Nat → Int32
  | 0 => r_X2_sumCosts S 0
  | i + 1 => if lcst S i ≤ r_X2_sumCosts S (nI (i + 1)) then lcst S i else r_X2_sumCosts S (nI (i + 1))
def bst (S : St) : Nat → Int32
  | 0 => 0
  | i + 1 => if lcst S i ≤ r_X2_sumCosts S (nI (i + 1)) then bst S i else nI (i + 1)
def v_X10_bestPhase_3 (S : St) (i : Nat) : Int32 := r_X2_sumCosts S (nI (i + 1))
def v_X10_bestPhase_4 (S : St) (i : Nat) : Int32 := if (lcst S i) ≤ (v_X10_bestPhase_3 S i) then (lcst S i) else (v_X10_bestPhase_3 S i)
def v_X10_bestPhase_5 (S : St) (i : Nat) : Int32 := if (lcst S i) ≤ (v_X10_bestPhase_3 S i) then (bst S i) else (nI (i + 1))
def v_X10_bestPhase_6 (S : St) (i : Nat) : Int32 := (nI (i + 1)) + 1
def r_X10_bestPhase (S : St) : Int32 := (bst S 15)
def rm_X10_bestPhase : Room := { frames := 3, cells := 0, slots := 0, locals := 67 }
set_option maxRecDepth 100000 in
set_option maxHeartbeats 4000000 in
theorem k_X10_bestPhase (l : Launch) (D : va_G) (a : Nat → Nat) (cZ cI : ClassId) (S : St) (sz : Nat) : Met l yX10_bestPhase wsX10_bestPhase rm_X10_bestPhase (va_Pc [.ref (a 0)] (pW D (tyZI cZ cI) (wP a cZ cI S) sz nP)) (va_Qi (fun (r : Int32) (u : St) => u = S ∧ r = r_X10_bestPhase S) (fun u t => oW D (tyZI cZ cI) (wP a cZ cI u) (aA (adP a) sz) t) (aA (adP a) sz)) 0 0 (aA (adP a) sz) := by
  refine Met.ofW (cc := cX10_bestPhase) (maxL := 5) (ret := (some .int)) (by decide +kernel) rfl ?_
  intro p e s m args below meth c s₁ B hml hv
  obtain ⟨rfl, hsz, hP0, hK, hD9, hN⟩ := hv
  have hx := B.exec
  have hb := B.bytes
  have hr := B.returns
  have hts := atoms_spec (ws := wsX10_bestPhase) B.pre
  have hown : s.vm.findClass RX10 = some m.cls := findClass_of_methodNamed B.named
  have hlocks := B.notSynchronized
  subst hsz
  have hD0 := aA_self (sz := s.heap.size) (as := adP a) hD9 rfl
  generalize hAe : aA (adP a) s.heap.size = A at hD0 ⊢
  have hA : ∀ q : Nat, s.heap.size ≤ q → A q := fun q h => by rw [← hAe]; exact Or.inr h
  have hAc : ∀ q : Nat, q ∈ adP a → A q := fun q h => by rw [← hAe]; exact Or.inl h
  have hS0 : va_S A s.heap s.heap [] := va_S.rf
  have hl0 := lv_entry ([.ref (a 0)]) (n := 5) (Nat.le_of_ble_eq_true rfl)
  rw [lg_entry_eq]
  generalize (lg_sl ([.ref (a 0)]) ++ List.replicate (5 - (lg_sl ([.ref (a 0)])).length) Slot.unset).toArray = ls0 at hl0 ⊢
  have hl0 : lv_has ls0 5 [(0, .ref (a 0))] := hl0
  generalize hQ : MQ below _ _ s _ _ _ = Q
  clear hD9 B
  refine lv_iconst (v := 0) hx hb dX10_bestPhase_0 (by decide) ?_
  refine lv_istore_n (lv' := [(1, .int 0), (0, .ref (a 0))]) hx hb dX10_bestPhase_1 rfl hl0 (by decide) rfl (fun ls1 hl1 => ?_)
  clear hl0
  refine lv_aload_n hx hb dX10_bestPhase_2 rfl (lv_at hl1 1 rfl) ?_
  refine va_get (D := D) (ci := 10) (v := .ref (a 3)) (C := RX10) (T := TX10) (N := 10) hx hb hts (fun _ h => List.mem_cons_of_mem _ (List.mem_append_left _ (List.mem_append_right _ (h)))) hown hK hP0 0 rfl rfl 2 (by decide) (hts (.fieldLink RX10 26 "Phaselock" "edges" "LPhaselock$EdgeLog;") (List.mem_cons_of_mem _ (List.mem_append_left _ (List.mem_append_left _ (List.mem_of_getElem? (i := 0) rfl))))) (fun _ h9 => h9) rfl dX10_bestPhase_3 ?_
  refine lv_iconst (v := 0) hx hb dX10_bestPhase_6 (by decide) ?_
  refine va_calli (va_runV (As := [.int 0]) (rest := []) ⟨hx, hb, hml, hown, hts⟩ (k_X2_sumCosts l D a cZ cI S s.heap.size 0) (cwV 1 hts gX10_bestPhase_X2_sumCosts rfl rfl rfl (by decide +kernel) ⟨Nat.le_of_ble_eq_true rfl, Nat.le_of_ble_eq_true rfl⟩) ⟨blW okN_P, va_recv hK hP0 (ci := 2) (q0 := 3) rfl rfl, preW hP0 hK hD0 okN_P hN⟩ rfl rfl hl1.1 rfl (lv_room (Nat.le_of_ble_eq_true rfl)) dX10_bestPhase_7 ⟨Nat.zero_le _, Nat.zero_le _⟩) hS0 (aA_in hAc) (aA_free hAc hA hS0) (fun r1 u1 t1 H1 L1 ht1 hvm1 hw1 hB1 _ _ hS1 => ?_)
  obtain ⟨hP1, hD1⟩ := backW hB1 ht1 (aA_free hAc hA hS0)
  clear hB1 ht1 hvm1 t1
  obtain ⟨hu1, hr1⟩ := hw1
  subst u1; subst r1
  clear hP0 hD0 hS0
  refine lv_asi (y := (v_X10_bestPhase_1 S)) rfl ?_
  refine lv_istore_n (lv' := [(2, .int (v_X10_bestPhase_1 S)), (1, .int 0), (0, .ref (a 0))]) hx hb dX10_bestPhase_10 rfl hl1 (by decide) rfl (fun ls2 hl2 => ?_)
  clear hl1
  refine lv_iconst (v := 1) hx hb dX10_bestPhase_11 (by decide) ?_
  refine lv_istore_n (lv' := [(3, .int 1), (2, .int (v_X10_bestPhase_1 S)), (1, .int 0), (0, .ref (a 0))]) hx hb dX10_bestPhase_12 rfl hl2 (by decide) rfl (fun ls3 hl3 => ?_)
  clear hl2
  have LOOP : ∀ (fu i : Nat), i ≤ 15 → 15 < i + fu → ∀ (H2 : Heap) (L2 : List Loc), va_P D vwCl (wP a cZ cI S) H2 → va_D A (wP a cZ cI S) → va_S A s.heap H2 L2 → ∀ ls4 : Array Slot, lv_has ls4 5 [(3, .int (nI (i + 1))), (2, .int (lcst S i)), (1, .int (bst S i)), (0, .ref (a 0))] → W p l e (headSpec wsX10_bestPhase rm_X10_bestPhase).room s m ([.ref (a 0)] : List Value).toArray below meth c H2 L2 0 0 Q (F0 m 13 ls4 []) := by
    clear hP1 hD1 hS1 hl3
    intro fu
    induction fu with
    | zero => exact fun i h1 h2 => absurd h2 (by omega)
    | succ fu ih =>
      intro i hi hin H2 L2 hP2 hD2 hS2 ls4 hl4
      refine lv_iload_n hx hb dX10_bestPhase_13 rfl (lv_at hl4 0 rfl) ?_
      refine lv_bipush (v := 16) hx hb dX10_bestPhase_14 (by decide) ?_
      refine lv_icmp_ge (tgt := 46) hx hb dX10_bestPhase_16 (by decide) (fun c1_16 => ?_) (fun c1_16 => ?_)
      · have hie : i = 15 := bp_e hi c1_16
        subst hie
        refine lv_iload_n hx hb dX10_bestPhase_46 rfl (lv_at hl4 2 rfl) ?_
        subst hQ; exact W.iret (v := (bst S 15)) hx hb hr (fun t ht hW => ⟨⟨(bst S 15), S, rfl, ⟨rfl, (show (bst S 15) = r_X10_bestPhase S from rfl)⟩, endW hP2 hK hD2 ht hW⟩, hS2.F ht⟩) hS2.2.2 dX10_bestPhase_47
      · have hlt : i < 15 := bp_s hi c1_16
        refine lv_aload_n hx hb dX10_bestPhase_19 rfl (lv_at hl4 3 rfl) ?_
        refine va_get (D := D) (ci := 10) (v := .ref (a 3)) (C := RX10) (T := TX10) (N := 10) hx hb hts (fun _ h => List.mem_cons_of_mem _ (List.mem_append_left _ (List.mem_append_right _ (h)))) hown hK hP2 0 rfl rfl 2 (by decide) (hts (.fieldLink RX10 26 "Phaselock" "edges" "LPhaselock$EdgeLog;") (List.mem_cons_of_mem _ (List.mem_append_left _ (List.mem_append_left _ (List.mem_of_getElem? (i := 0) rfl))))) (fun _ h9 => h9) rfl dX10_bestPhase_20 ?_
        refine lv_iload_n hx hb dX10_bestPhase_23 rfl (lv_at hl4 0 rfl) ?_
        refine va_calli (va_runV (As := [.int (nI (i + 1))]) (rest := []) ⟨hx, hb, hml, hown, hts⟩ (k_X2_sumCosts l D a cZ cI S H2.size (nI (i + 1))) (cwV 1 hts gX10_bestPhase_X2_sumCosts rfl rfl rfl (by decide +kernel) ⟨Nat.le_of_ble_eq_true rfl, Nat.le_of_ble_eq_true rfl⟩) ⟨blW okN_P, va_recv hK hP2 (ci := 2) (q0 := 3) rfl rfl, preW hP2 hK hD2 okN_P hN⟩ rfl rfl hl4.1 rfl (lv_room (Nat.le_of_ble_eq_true rfl)) dX10_bestPhase_24 ⟨Nat.zero_le _, Nat.zero_le _⟩) hS2 (aA_in hAc) (aA_free hAc hA hS2) (fun r3 u3 t3 H3 L3 ht3 hvm3 hw3 hB3 _ _ hS3 => ?_)
        obtain ⟨hP3, hD3⟩ := backW hB3 ht3 (aA_free hAc hA hS2)
        clear hB3 ht3 hvm3 t3
        obtain ⟨hu3, hr3⟩ := hw3
        subst u3; subst r3
        clear hP2 hD2 hS2
        refine lv_asi (y := (v_X10_bestPhase_3 S i)) rfl ?_
        refine lv_istore (lv' := [(4, .int (v_X10_bestPhase_3 S i)), (3, .int (nI (i + 1))), (2, .int (lcst S i)), (1, .int (bst S i)), (0, .ref (a 0))]) hx hb dX10_bestPhase_27 hl4 (by decide) rfl (fun ls5 hl5 => ?_)
        clear hl4
        refine lv_iload hx hb dX10_bestPhase_29 (lv_at hl5 0 rfl) ?_
        refine lv_iload_n hx hb dX10_bestPhase_31 rfl (lv_at hl5 2 rfl) ?_
        have J1_32 : ∀ ls8 : Array Slot, lv_has ls8 5 [(4, .int (v_X10_bestPhase_3 S i)), (3, .int (nI (i + 1))), (2, .int (v_X10_bestPhase_4 S i)), (1, .int (v_X10_bestPhase_5 S i)), (0, .ref (a 0))] → W p l e (headSpec wsX10_bestPhase rm_X10_bestPhase).room s m ([.ref (a 0)] : List Value).toArray below meth c H3 L3 0 0 Q (F0 m 40 ls8 []) := by
          intro ls8 hl8
          clear hl5
          refine lv_iinc (v := (v_X10_bestPhase_6 S i)) (lv' := [(3, .int (v_X10_bestPhase_6 S i)), (4, .int (v_X10_bestPhase_3 S i)), (2, .int (v_X10_bestPhase_4 S i)), (1, .int (v_X10_bestPhase_5 S i)), (0, .ref (a 0))]) hx hb dX10_bestPhase_40 hl8 (k := 1) rfl rfl (by decide) rfl (fun ls9 hl9 => ?_)
          clear hl8
          refine lv_goto (tgt := 13) hx hb dX10_bestPhase_43 (by decide) ?_
          exact ih (i + 1) (by omega) (by omega) _ _ hP3 hD3 hS3 _ (by rw [show (nI ((i + 1) + 1)) = (v_X10_bestPhase_6 S i) from (nI_1 (i + 1)).symm, show (lcst S (i + 1)) = (v_X10_bestPhase_4 S i) from rfl, show (bst S (i + 1)) = (v_X10_bestPhase_5 S i) from rfl]; exact lv_sub (l' := [(3, .int (v_X10_bestPhase_6 S i)), (2, .int (v_X10_bestPhase_4 S i)), (1, .int (v_X10_bestPhase_5 S i)), (0, .ref (a 0))]) hl9 [0, 2, 3, 4] rfl)
        refine lv_icmp_ge (tgt := 40) hx hb dX10_bestPhase_32 (by decide) (fun c2_32 => ?_) (fun c2_32 => ?_)
        · exact J1_32 _ (by rw [show (v_X10_bestPhase_4 S i) = (lcst S i) from (if_pos c2_32), show (v_X10_bestPhase_5 S i) = (bst S i) from (if_pos c2_32)]; exact lv_sub (l' := [(4, .int (v_X10_bestPhase_3 S i)), (3, .int (nI (i + 1))), (2, .int (lcst S i)), (1, .int (bst S i)), (0, .ref (a 0))]) hl5 [0, 1, 2, 3, 4] rfl)
        · refine lv_iload hx hb dX10_bestPhase_35 (lv_at hl5 0 rfl) ?_
          refine lv_istore_n (lv' := [(2, .int (v_X10_bestPhase_3 S i)), (4, .int (v_X10_bestPhase_3 S i)), (3, .int (nI (i + 1))), (1, .int (bst S i)), (0, .ref (a 0))]) hx hb dX10_bestPhase_37 rfl hl5 (by decide) rfl (fun ls6 hl6 => ?_)
          clear hl5
          refine lv_iload_n hx hb dX10_bestPhase_38 rfl (lv_at hl6 2 rfl) ?_
          refine lv_istore_n (lv' := [(1, .int (nI (i + 1))), (2, .int (v_X10_bestPhase_3 S i)), (4, .int (v_X10_bestPhase_3 S i)), (3, .int (nI (i + 1))), (0, .ref (a 0))]) hx hb dX10_bestPhase_39 rfl hl6 (by decide) rfl (fun ls7 hl7 => ?_)
          clear hl6
          exact J1_32 _ (by rw [show (v_X10_bestPhase_4 S i) = (v_X10_bestPhase_3 S i) from (if_neg c2_32), show (v_X10_bestPhase_5 S i) = (nI (i + 1)) from (if_neg c2_32)]; exact lv_sub (l' := [(4, .int (v_X10_bestPhase_3 S i)), (3, .int (nI (i + 1))), (2, .int (v_X10_bestPhase_3 S i)), (1, .int (nI (i + 1))), (0, .ref (a 0))]) hl7 [2, 3, 1, 0, 4] rfl)
  exact LOOP (15 + 1) 0 (Nat.zero_le _) (by omega) _ _ hP1 hD1 hS1 _ (lv_sub (l' := [(3, .int (nI (0 + 1))), (2, .int (lcst S 0)), (1, .int (bst S 0)), (0, .ref (a 0))]) hl3 [0, 1, 2, 3] rfl)

def v_X10_bit_1 (S : St) (p0 : Int32) : Int32 := r_X1_remembers S p0
def v_X10_bit_2 (S : St) (p0 : Int32) : Int32 := r_X1_findBit S p0
def r_X10_bit (S : St) (p0 : Int32) : Int32 := if (v_X10_bit_1 S p0) = 0 then 0 else (v_X10_bit_2 S p0)
def x_X10_bit (S : St) (p0 : Int32) : Int32 := if (v_X10_bit_1 S p0) = 0 then 1 else 0
def rm_X10_bit : Room := { frames := 6, cells := 1, slots := 6, locals := 82 }
set_option maxRecDepth 100000 in
set_option maxHeartbeats 4000000 in
theorem k_X10_bit (l : Launch) (hfl : l.stackTraces = false) (D : va_G) (a : Nat → Nat) (cZ cI : ClassId) (S : St) (sz : Nat) (p0 : Int32) : vx_Met l yX10_bit wsX10_bit rm_X10_bit (va_Pc [.ref (a 0), .int p0] (pY D (tyZI cZ cI) (wP a cZ cI S) sz (adP a))) (va_Qi (fun (r : Int32) (u : St) => x_X10_bit S p0 = 0 ∧ u = S ∧ r = r_X10_bit S p0) (fun u t => oW D (tyZI cZ cI) (wP a cZ cI u) (aA (adP a) sz) t) (aA (adP a) sz)) (vx_X (fun u : St => u = S ∧ x_X10_bit S p0 = 1) (fun E u t => E = "java/lang/IndexOutOfBoundsException" ∧ oW D (tyZI cZ cI) (wP a cZ cI u) (aA (adP a) sz) t ∧ sz < t.heap.size) (aA (adP a) sz)) 1 6 (aA (adP a) sz) := by
  refine vx_ofW (cc := cX10_bit) (maxL := 2) (ret := (some .int)) (by decide +kernel) rfl ?_
  intro p e s m args below meth c s₁ B hml hex hv
  obtain ⟨rfl, ⟨hsz, hP0, hK, hD9, hNX⟩, hZ⟩ := hv
  have hN := hNX.1
  have hx := B.exec
  have hb := B.bytes
  have hr := B.returns
  have hts := atoms_spec (ws := wsX10_bit) B.pre
  have hown : s.vm.findClass RX10 = some m.cls := findClass_of_methodNamed B.named
  have hlocks := B.notSynchronized
  subst hsz
  have hD0 := aA_self (sz := s.heap.size) (as := adP a) hD9 rfl
  generalize hAe : aA (adP a) s.heap.size = A at hD0 hZ ⊢
  have hA : ∀ q : Nat, s.heap.size ≤ q → A q := fun q h => by rw [← hAe]; exact Or.inr h
  have hAc : ∀ q : Nat, q ∈ adP a → A q := fun q h => by rw [← hAe]; exact Or.inl h
  have hS0 : va_S A s.heap s.heap [] := va_S.rf
  have hl0 := lv_entry ([.ref (a 0), .int p0]) (n := 2) (Nat.le_of_ble_eq_true rfl)
  rw [lg_entry_eq]
  generalize (lg_sl ([.ref (a 0), .int p0]) ++ List.replicate (2 - (lg_sl ([.ref (a 0), .int p0])).length) Slot.unset).toArray = ls0 at hl0 ⊢
  have hl0 : lv_has ls0 2 [(0, .ref (a 0)), (1, .int p0)] := hl0
  generalize hQ : vx_MQ below _ _ _ s _ _ _ = Q
  clear hD9 B
  refine lv_aload_n hx hb dX10_bit_0 rfl (lv_at hl0 0 rfl) ?_
  refine va_get (D := D) (ci := 10) (v := .ref (a 7)) (C := RX10) (T := TX10) (N := 10) hx hb hts (fun _ h => List.mem_cons_of_mem _ (List.mem_append_left _ (List.mem_append_left _ (List.mem_append_right _ (h))))) hown hK hP0 0 rfl rfl 6 (by decide) (hts (.fieldLink RX10 54 "Phaselock" "bits" "LPhaselock$BitLog;") (List.mem_cons_of_mem _ (List.mem_append_left _ (List.mem_append_left _ (List.mem_append_left _ (List.mem_of_getElem? (i := 2) rfl)))))) (fun _ h9 => h9) rfl dX10_bit_1 ?_
  refine lv_iload_n hx hb dX10_bit_4 rfl (lv_at hl0 1 rfl) ?_
  refine va_calli (va_runV (As := [.int p0]) (rest := []) ⟨hx, hb, hml, hown, hts⟩ (k_X1_remembers l D a cZ cI S s.heap.size p0) (cwV 1 hts gX10_bit_X1_remembers rfl rfl rfl (by decide +kernel) ⟨Nat.le_of_ble_eq_true rfl, Nat.le_of_ble_eq_true rfl⟩) ⟨blW okN_P, va_recv hK hP0 (ci := 1) (q0 := 7) rfl rfl, preW hP0 hK hD0 okN_P hN⟩ rfl rfl hl0.1 rfl (lv_room (Nat.le_of_ble_eq_true rfl)) dX10_bit_5 ⟨Nat.zero_le _, Nat.zero_le _⟩) hS0 (aA_in hAc) (aA_free hAc hA hS0) (fun r1 u1 t1 H1 L1 ht1 hvm1 hw1 hB1 _ _ hS1 => ?_)
  obtain ⟨hP1, hD1⟩ := backW hB1 ht1 (aA_free hAc hA hS0)
  clear hB1 ht1 hvm1 t1
  obtain ⟨hu1, hr1⟩ := hw1
  subst u1; subst r1
  clear hP0 hD0 hS0
  refine lv_asi (y := (v_X10_bit_1 S p0)) rfl ?_
  refine lv_if_ne (tgt := 21) hx hb dX10_bit_8 (by decide) (fun c1_8 => ?_) (fun c1_8 => ?_)
  · refine lv_aload_n hx hb dX10_bit_21 rfl (lv_at hl0 0 rfl) ?_
    refine va_get (D := D) (ci := 10) (v := .ref (a 7)) (C := RX10) (T := TX10) (N := 10) hx hb hts (fun _ h => List.mem_cons_of_mem _ (List.mem_append_left _ (List.mem_append_left _ (List.mem_append_right _ (h))))) hown hK hP1 0 rfl rfl 6 (by decide) (hts (.fieldLink RX10 54 "Phaselock" "bits" "LPhaselock$BitLog;") (List.mem_cons_of_mem _ (List.mem_append_left _ (List.mem_append_left _ (List.mem_append_left _ (List.mem_of_getElem? (i := 2) rfl)))))) (fun _ h9 => h9) rfl dX10_bit_22 ?_
    refine lv_iload_n hx hb dX10_bit_25 rfl (lv_at hl0 1 rfl) ?_
    refine va_calli (va_runV (As := [.int p0]) (rest := []) ⟨hx, hb, hml, hown, hts⟩ (k_X1_findBit l D a cZ cI S H1.size p0) (cwV 1 hts gX10_bit_X1_findBit rfl rfl rfl (by decide +kernel) ⟨Nat.le_of_ble_eq_true rfl, Nat.le_of_ble_eq_true rfl⟩) ⟨blW okN_P, va_recv hK hP1 (ci := 1) (q0 := 7) rfl rfl, preW hP1 hK hD1 okN_P hN⟩ rfl rfl hl0.1 rfl (lv_room (Nat.le_of_ble_eq_true rfl)) dX10_bit_26 ⟨Nat.zero_le _, Nat.zero_le _⟩) hS1 (aA_in hAc) (aA_free hAc hA hS1) (fun r2 u2 t2 H2 L2 ht2 hvm2 hw2 hB2 _ _ hS2 => ?_)
    obtain ⟨hP2, hD2⟩ := backW hB2 ht2 (aA_free hAc hA hS1)
    clear hB2 ht2 hvm2 t2
    obtain ⟨hu2, hr2⟩ := hw2
    subst u2; subst r2
    clear hP1 hD1 hS1
    refine lv_asi (y := (v_X10_bit_2 S p0)) rfl ?_
    subst hQ; refine vx_ret (W.widen (k := 1) (n := 6) (by decide) (by decide) ?_); exact W.iret (v := (v_X10_bit_2 S p0)) hx hb hr (fun t ht hW => ⟨⟨(v_X10_bit_2 S p0), S, rfl, ⟨(show x_X10_bit S p0 = 0 from (if_neg c1_8)), rfl, (show (v_X10_bit_2 S p0) = r_X10_bit S p0 from (if_neg c1_8).symm)⟩, endW hP2 hK hD2 ht hW⟩, hS2.F ht⟩) hS2.2.2 dX10_bit_29
  · obtain ⟨sa, hstr⟩ := sy_163 hNX; subst hQ; exact vx_throwS (A := A) hx hb hfl (own := RX10) (cls := "java/lang/IndexOutOfBoundsException") (text := "there is no such bit") (names := ["java/lang/RuntimeException", "java/lang/Exception"]) (ik := 161) (is := 163) (ic := 165) (sa := sa) hown (by decide +kernel) (by decide +kernel) (hts (.classLink RX10 161 "java/lang/IndexOutOfBoundsException") (List.mem_cons_of_mem _ (List.mem_append_left _ (List.mem_append_left _ (List.mem_append_left _ (List.mem_of_getElem? (i := 0) rfl)))))) (hts (.initialized "java/lang/IndexOutOfBoundsException") (List.mem_cons_of_mem _ (List.mem_append_left _ (List.mem_append_left _ (List.mem_append_left _ (List.mem_of_getElem? (i := 1) rfl)))))) hstr (vx_hat (B := [.castable "java/lang/IndexOutOfBoundsException" "java/lang/IndexOutOfBoundsException", .declares ⟨"java/lang/RuntimeException", "<init>", "(Ljava/lang/String;)V"⟩, .declares ⟨"java/lang/Exception", "<init>", "(Ljava/lang/String;)V"⟩, .declares ⟨"java/lang/Throwable", "<init>", "(Ljava/lang/String;)V"⟩]) (fun w h => hts w (List.mem_cons_of_mem _ (List.mem_append_right _ (h)))) (by decide +kernel) (vx_c (va_Nw.use rfl hNX.2.2.1) (vx_c (va_Nw.use rfl hNX.2.2.2.2.1) (vx_c (va_Nw.use rfl hNX.2.2.2.2.2.1) (vx_c (va_Nw.use rfl hNX.2.2.2.2.2.2.1) vx_n))))) (by decide +kernel) hZ.1 hZ.2 hS1 (hl0.1.trans hml.symm) dX10_bit_11 dX10_bit_14 dX10_bit_15 dX10_bit_17 dX10_bit_20 (fun x hx => (hex x hx).elim) (Nat.le_of_ble_eq_true rfl) (Nat.le_of_ble_eq_true rfl) (Nat.le_of_ble_eq_true rfl) (Nat.le_of_ble_eq_true rfl) hlocks (fun t hvm hsz hkp => thrW (px := fun u : St => u = S ∧ x_X10_bit S p0 = 1) (P0 := wP a cZ cI) ⟨rfl, (show x_X10_bit S p0 = 1 from (if_pos c1_8))⟩ hP1 hK hD1 hS1 hvm hsz hkp) hS1.2.2 (Nat.le_of_ble_eq_true rfl) (Nat.le_of_ble_eq_true rfl)

def r_X10_phase (S : St) : Int32 := if (S.1 41) = 0 then 0 else (S.1 42)
def x_X10_phase (S : St) : Int32 := if (S.1 41) = 0 then 1 else 0
def rm_X10_phase : Room := { frames := 6, cells := 1, slots := 6, locals := 82 }
set_option maxRecDepth 100000 in
set_option maxHeartbeats 4000000 in
theorem k_X10_phase (l : Launch) (hfl : l.stackTraces = false) (D : va_G) (a : Nat → Nat) (cZ cI : ClassId) (S : St) (sz : Nat) : vx_Met l yX10_phase wsX10_phase rm_X10_phase (va_Pc [.ref (a 0)] (pY D (tyZI cZ cI) (wP a cZ cI S) sz (adP a))) (va_Qi (fun (r : Int32) (u : St) => x_X10_phase S = 0 ∧ u = S ∧ r = r_X10_phase S) (fun u t => oW D (tyZI cZ cI) (wP a cZ cI u) (aA (adP a) sz) t) (aA (adP a) sz)) (vx_X (fun u : St => u = S ∧ x_X10_phase S = 1) (fun E u t => E = "java/lang/IllegalStateException" ∧ oW D (tyZI cZ cI) (wP a cZ cI u) (aA (adP a) sz) t ∧ sz < t.heap.size) (aA (adP a) sz)) 1 6 (aA (adP a) sz) := by
  refine vx_ofW (cc := cX10_phase) (maxL := 1) (ret := (some .int)) (by decide +kernel) rfl ?_
  intro p e s m args below meth c s₁ B hml hex hv
  obtain ⟨rfl, ⟨hsz, hP0, hK, hD9, hNX⟩, hZ⟩ := hv
  have hN := hNX.1
  have hx := B.exec
  have hb := B.bytes
  have hr := B.returns
  have hts := atoms_spec (ws := wsX10_phase) B.pre
  have hown : s.vm.findClass RX10 = some m.cls := findClass_of_methodNamed B.named
  have hlocks := B.notSynchronized
  subst hsz
  have hD0 := aA_self (sz := s.heap.size) (as := adP a) hD9 rfl
  generalize hAe : aA (adP a) s.heap.size = A at hD0 hZ ⊢
  have hA : ∀ q : Nat, s.heap.size ≤ q → A q := fun q h => by rw [← hAe]; exact Or.inr h
  have hAc : ∀ q : Nat, q ∈ adP a → A q := fun q h => by rw [← hAe]; exact Or.inl h
  have hS0 : va_S A s.heap s.heap [] := va_S.rf
  have hl0 := lv_entry ([.ref (a 0)]) (n := 1) (Nat.le_of_ble_eq_true rfl)
  rw [lg_entry_eq]
  generalize (lg_sl ([.ref (a 0)]) ++ List.replicate (1 - (lg_sl ([.ref (a 0)])).length) Slot.unset).toArray = ls0 at hl0 ⊢
  have hl0 : lv_has ls0 1 [(0, .ref (a 0))] := hl0
  generalize hQ : vx_MQ below _ _ _ s _ _ _ = Q
  clear hD9 B
  refine lv_aload_n hx hb dX10_phase_0 rfl (lv_at hl0 0 rfl) ?_
  refine va_get (D := D) (ci := 10) (v := .ref (a 9)) (C := RX10) (T := TX10) (N := 10) hx hb hts (fun _ h => List.mem_cons_of_mem _ (List.mem_append_left _ (List.mem_append_left _ (List.mem_append_right _ (h))))) hown hK hP0 0 rfl rfl 8 (by decide) (hts (.fieldLink RX10 68 "Phaselock" "phases" "LPhaselock$PhaseLog;") (List.mem_cons_of_mem _ (List.mem_append_left _ (List.mem_append_left _ (List.mem_append_left _ (List.mem_of_getElem? (i := 2) rfl)))))) (fun _ h9 => h9) rfl dX10_phase_1 ?_
  refine va_get (D := D) (ci := 7) (v := .int (S.1 41)) (C := RX7) (T := TX7) (N := 4) hx hb hts (fun _ h => List.mem_cons_of_mem _ (List.mem_append_left _ (List.mem_append_right _ (h)))) hown hK hP0 9 rfl rfl 0 (by decide) (hts (.fieldLink RX10 170 "Phaselock$PhaseLog" "count" "I") (List.mem_cons_of_mem _ (List.mem_append_left _ (List.mem_append_left _ (List.mem_append_left _ (List.mem_of_getElem? (i := 3) rfl)))))) (fun _ h9 => h9) rfl dX10_phase_4 ?_
  refine lv_if_ne (tgt := 20) hx hb dX10_phase_7 (by decide) (fun c1_7 => ?_) (fun c1_7 => ?_)
  · refine lv_aload_n hx hb dX10_phase_20 rfl (lv_at hl0 0 rfl) ?_
    refine va_get (D := D) (ci := 10) (v := .ref (a 9)) (C := RX10) (T := TX10) (N := 10) hx hb hts (fun _ h => List.mem_cons_of_mem _ (List.mem_append_left _ (List.mem_append_left _ (List.mem_append_right _ (h))))) hown hK hP0 0 rfl rfl 8 (by decide) (hts (.fieldLink RX10 68 "Phaselock" "phases" "LPhaselock$PhaseLog;") (List.mem_cons_of_mem _ (List.mem_append_left _ (List.mem_append_left _ (List.mem_append_left _ (List.mem_of_getElem? (i := 2) rfl)))))) (fun _ h9 => h9) rfl dX10_phase_21 ?_
    refine va_get (D := D) (ci := 7) (v := .int (S.1 42)) (C := RX7) (T := TX7) (N := 4) hx hb hts (fun _ h => List.mem_cons_of_mem _ (List.mem_append_left _ (List.mem_append_right _ (h)))) hown hK hP0 9 rfl rfl 1 (by decide) (hts (.fieldLink RX10 176 "Phaselock$PhaseLog" "latest" "I") (List.mem_cons_of_mem _ (List.mem_append_left _ (List.mem_append_left _ (List.mem_append_left _ (List.mem_of_getElem? (i := 4) rfl)))))) (fun _ h9 => h9) rfl dX10_phase_24 ?_
    subst hQ; refine vx_ret (W.widen (k := 1) (n := 6) (by decide) (by decide) ?_); exact W.iret (v := (S.1 42)) hx hb hr (fun t ht hW => ⟨⟨(S.1 42), S, rfl, ⟨(show x_X10_phase S = 0 from (if_neg c1_7)), rfl, (show (S.1 42) = r_X10_phase S from (if_neg c1_7).symm)⟩, endW hP0 hK hD0 ht hW⟩, hS0.F ht⟩) hS0.2.2 dX10_phase_27
  · obtain ⟨sa, hstr⟩ := sy_173 hNX; subst hQ; exact vx_throwS (A := A) hx hb hfl (own := RX10) (cls := "java/lang/IllegalStateException") (text := "there was no data strobe") (names := ["java/lang/RuntimeException", "java/lang/Exception"]) (ik := 171) (is := 173) (ic := 175) (sa := sa) hown (by decide +kernel) (by decide +kernel) (hts (.classLink RX10 171 "java/lang/IllegalStateException") (List.mem_cons_of_mem _ (List.mem_append_left _ (List.mem_append_left _ (List.mem_append_left _ (List.mem_of_getElem? (i := 0) rfl)))))) (hts (.initialized "java/lang/IllegalStateException") (List.mem_cons_of_mem _ (List.mem_append_left _ (List.mem_append_left _ (List.mem_append_left _ (List.mem_of_getElem? (i := 1) rfl)))))) hstr (vx_hat (B := [.castable "java/lang/IllegalStateException" "java/lang/IllegalStateException", .declares ⟨"java/lang/RuntimeException", "<init>", "(Ljava/lang/String;)V"⟩, .declares ⟨"java/lang/Exception", "<init>", "(Ljava/lang/String;)V"⟩, .declares ⟨"java/lang/Throwable", "<init>", "(Ljava/lang/String;)V"⟩]) (fun w h => hts w (List.mem_cons_of_mem _ (List.mem_append_right _ (h)))) (by decide +kernel) (vx_c (va_Nw.use rfl hNX.2.2.2.1) (vx_c (va_Nw.use rfl hNX.2.2.2.2.1) (vx_c (va_Nw.use rfl hNX.2.2.2.2.2.1) (vx_c (va_Nw.use rfl hNX.2.2.2.2.2.2.1) vx_n))))) (by decide +kernel) hZ.1 hZ.2 hS0 (hl0.1.trans hml.symm) dX10_phase_10 dX10_phase_13 dX10_phase_14 dX10_phase_16 dX10_phase_19 (fun x hx => (hex x hx).elim) (Nat.le_of_ble_eq_true rfl) (Nat.le_of_ble_eq_true rfl) (Nat.le_of_ble_eq_true rfl) (Nat.le_of_ble_eq_true rfl) hlocks (fun t hvm hsz hkp => thrW (px := fun u : St => u = S ∧ x_X10_phase S = 1) (P0 := wP a cZ cI) ⟨rfl, (show x_X10_phase S = 1 from (if_pos c1_7))⟩ hP0 hK hD0 hS0 hvm hsz hkp) hS0.2.2 (Nat.le_of_ble_eq_true rfl) (Nat.le_of_ble_eq_true rfl)

def v_X10_cost_1 (S : St) (p0 : Int32) : Int32 := r_X10_isWithin S p0 0 15
def v_X10_cost_2 (S : St) (p0 : Int32) : Int32 := r_X2_sumCosts S p0
def r_X10_cost (S : St) (p0 : Int32) : Int32 := if (v_X10_cost_1 S p0) = 0 then 0 else (v_X10_cost_2 S p0)
def x_X10_cost (S : St) (p0 : Int32) : Int32 := if (v_X10_cost_1 S p0) = 0 then 1 else 0
def rm_X10_cost : Room := { frames := 6, cells := 1, slots := 6, locals := 82 }
set_option maxRecDepth 100000 in
set_option maxHeartbeats 4000000 in
theorem k_X10_cost (l : Launch) (hfl : l.stackTraces = false) (D : va_G) (a : Nat → Nat) (cZ cI : ClassId) (S : St) (sz : Nat) (p0 : Int32) : vx_Met l yX10_cost wsX10_cost rm_X10_cost (va_Pc [.ref (a 0), .int p0] (pY D (tyZI cZ cI) (wP a cZ cI S) sz (adP a))) (va_Qi (fun (r : Int32) (u : St) => x_X10_cost S p0 = 0 ∧ u = S ∧ r = r_X10_cost S p0) (fun u t => oW D (tyZI cZ cI) (wP a cZ cI u) (aA (adP a) sz) t) (aA (adP a) sz)) (vx_X (fun u : St => u = S ∧ x_X10_cost S p0 = 1) (fun E u t => E = "java/lang/IllegalArgumentException" ∧ oW D (tyZI cZ cI) (wP a cZ cI u) (aA (adP a) sz) t ∧ sz < t.heap.size) (aA (adP a) sz)) 1 6 (aA (adP a) sz) := by
  refine vx_ofW (cc := cX10_cost) (maxL := 2) (ret := (some .int)) (by decide +kernel) rfl ?_
  intro p e s m args below meth c s₁ B hml hex hv
  obtain ⟨rfl, ⟨hsz, hP0, hK, hD9, hNX⟩, hZ⟩ := hv
  have hN := hNX.1
  have hx := B.exec
  have hb := B.bytes
  have hr := B.returns
  have hts := atoms_spec (ws := wsX10_cost) B.pre
  have hown : s.vm.findClass RX10 = some m.cls := findClass_of_methodNamed B.named
  have hlocks := B.notSynchronized
  subst hsz
  have hD0 := aA_self (sz := s.heap.size) (as := adP a) hD9 rfl
  generalize hAe : aA (adP a) s.heap.size = A at hD0 hZ ⊢
  have hA : ∀ q : Nat, s.heap.size ≤ q → A q := fun q h => by rw [← hAe]; exact Or.inr h
  have hAc : ∀ q : Nat, q ∈ adP a → A q := fun q h => by rw [← hAe]; exact Or.inl h
  have hS0 : va_S A s.heap s.heap [] := va_S.rf
  have hl0 := lv_entry ([.ref (a 0), .int p0]) (n := 2) (Nat.le_of_ble_eq_true rfl)
  rw [lg_entry_eq]
  generalize (lg_sl ([.ref (a 0), .int p0]) ++ List.replicate (2 - (lg_sl ([.ref (a 0), .int p0])).length) Slot.unset).toArray = ls0 at hl0 ⊢
  have hl0 : lv_has ls0 2 [(0, .ref (a 0)), (1, .int p0)] := hl0
  generalize hQ : vx_MQ below _ _ _ s _ _ _ = Q
  clear hD9 B
  refine lv_iload_n hx hb dX10_cost_0 rfl (lv_at hl0 1 rfl) ?_
  refine lv_iconst (v := 0) hx hb dX10_cost_1 (by decide) ?_
  refine lv_bipush (v := 15) hx hb dX10_cost_2 (by decide) ?_
  refine va_calli (va_runS (As := [.int p0, .int 0, .int 15]) (rest := []) ⟨hx, hb, hml, hown, hts⟩ (k_X10_isWithin l D a cZ cI S s.heap.size p0 0 15) (va_cwS 3 hts gX10_cost_X10_isWithin rfl rfl rfl (by decide +kernel) ⟨Nat.le_of_ble_eq_true rfl, Nat.le_of_ble_eq_true rfl⟩) ⟨blW okN_P, preW hP0 hK hD0 okN_P hN⟩ rfl rfl hl0.1 rfl (lv_room (Nat.le_of_ble_eq_true rfl)) dX10_cost_4 ⟨Nat.zero_le _, Nat.zero_le _⟩) hS0 (aA_in hAc) (aA_free hAc hA hS0) (fun r1 u1 t1 H1 L1 ht1 hvm1 hw1 hB1 _ _ hS1 => ?_)
  obtain ⟨hP1, hD1⟩ := backW hB1 ht1 (aA_free hAc hA hS0)
  clear hB1 ht1 hvm1 t1
  obtain ⟨hu1, hr1⟩ := hw1
  subst u1; subst r1
  clear hP0 hD0 hS0
  refine lv_asi (y := (v_X10_cost_1 S p0)) rfl ?_
  refine lv_if_ne (tgt := 20) hx hb dX10_cost_7 (by decide) (fun c1_7 => ?_) (fun c1_7 => ?_)
  · refine lv_aload_n hx hb dX10_cost_20 rfl (lv_at hl0 0 rfl) ?_
    refine va_get (D := D) (ci := 10) (v := .ref (a 3)) (C := RX10) (T := TX10) (N := 10) hx hb hts (fun _ h => List.mem_cons_of_mem _ (List.mem_append_left _ (List.mem_append_left _ (List.mem_append_right _ (h))))) hown hK hP1 0 rfl rfl 2 (by decide) (hts (.fieldLink RX10 26 "Phaselock" "edges" "LPhaselock$EdgeLog;") (List.mem_cons_of_mem _ (List.mem_append_left _ (List.mem_append_left _ (List.mem_append_left _ (List.mem_of_getElem? (i := 2) rfl)))))) (fun _ h9 => h9) rfl dX10_cost_21 ?_
    refine lv_iload_n hx hb dX10_cost_24 rfl (lv_at hl0 1 rfl) ?_
    refine va_calli (va_runV (As := [.int p0]) (rest := []) ⟨hx, hb, hml, hown, hts⟩ (k_X2_sumCosts l D a cZ cI S H1.size p0) (cwV 1 hts gX10_cost_X2_sumCosts rfl rfl rfl (by decide +kernel) ⟨Nat.le_of_ble_eq_true rfl, Nat.le_of_ble_eq_true rfl⟩) ⟨blW okN_P, va_recv hK hP1 (ci := 2) (q0 := 3) rfl rfl, preW hP1 hK hD1 okN_P hN⟩ rfl rfl hl0.1 rfl (lv_room (Nat.le_of_ble_eq_true rfl)) dX10_cost_25 ⟨Nat.zero_le _, Nat.zero_le _⟩) hS1 (aA_in hAc) (aA_free hAc hA hS1) (fun r2 u2 t2 H2 L2 ht2 hvm2 hw2 hB2 _ _ hS2 => ?_)
    obtain ⟨hP2, hD2⟩ := backW hB2 ht2 (aA_free hAc hA hS1)
    clear hB2 ht2 hvm2 t2
    obtain ⟨hu2, hr2⟩ := hw2
    subst u2; subst r2
    clear hP1 hD1 hS1
    refine lv_asi (y := (v_X10_cost_2 S p0)) rfl ?_
    subst hQ; refine vx_ret (W.widen (k := 1) (n := 6) (by decide) (by decide) ?_); exact W.iret (v := (v_X10_cost_2 S p0)) hx hb hr (fun t ht hW => ⟨⟨(v_X10_cost_2 S p0), S, rfl, ⟨(show x_X10_cost S p0 = 0 from (if_neg c1_7)), rfl, (show (v_X10_cost_2 S p0) = r_X10_cost S p0 from (if_neg c1_7).symm)⟩, endW hP2 hK hD2 ht hW⟩, hS2.F ht⟩) hS2.2.2 dX10_cost_28
  · obtain ⟨sa, hstr⟩ := sy_204 hNX; subst hQ; exact vx_throwS (A := A) hx hb hfl (own := RX10) (cls := "java/lang/IllegalArgumentException") (text := "remainder is out of range") (names := ["java/lang/RuntimeException", "java/lang/Exception"]) (ik := 83) (is := 204) (ic := 87) (sa := sa) hown (by decide +kernel) (by decide +kernel) (hts (.classLink RX10 83 "java/lang/IllegalArgumentException") (List.mem_cons_of_mem _ (List.mem_append_left _ (List.mem_append_left _ (List.mem_append_left _ (List.mem_of_getElem? (i := 0) rfl)))))) (hts (.initialized "java/lang/IllegalArgumentException") (List.mem_cons_of_mem _ (List.mem_append_left _ (List.mem_append_left _ (List.mem_append_left _ (List.mem_of_getElem? (i := 1) rfl)))))) hstr (vx_hat (B := [.castable "java/lang/IllegalArgumentException" "java/lang/IllegalArgumentException", .declares ⟨"java/lang/RuntimeException", "<init>", "(Ljava/lang/String;)V"⟩, .declares ⟨"java/lang/Exception", "<init>", "(Ljava/lang/String;)V"⟩, .declares ⟨"java/lang/Throwable", "<init>", "(Ljava/lang/String;)V"⟩]) (fun w h => hts w (List.mem_cons_of_mem _ (List.mem_append_right _ (h)))) (by decide +kernel) (vx_c (va_Nw.use rfl hNX.2.1) (vx_c (va_Nw.use rfl hNX.2.2.2.2.1) (vx_c (va_Nw.use rfl hNX.2.2.2.2.2.1) (vx_c (va_Nw.use rfl hNX.2.2.2.2.2.2.1) vx_n))))) (by decide +kernel) hZ.1 hZ.2 hS1 (hl0.1.trans hml.symm) dX10_cost_10 dX10_cost_13 dX10_cost_14 dX10_cost_16 dX10_cost_19 (fun x hx => (hex x hx).elim) (Nat.le_of_ble_eq_true rfl) (Nat.le_of_ble_eq_true rfl) (Nat.le_of_ble_eq_true rfl) (Nat.le_of_ble_eq_true rfl) hlocks (fun t hvm hsz hkp => thrW (px := fun u : St => u = S ∧ x_X10_cost S p0 = 1) (P0 := wP a cZ cI) ⟨rfl, (show x_X10_cost S p0 = 1 from (if_pos c1_7))⟩ hP1 hK hD1 hS1 hvm hsz hkp) hS1.2.2 (Nat.le_of_ble_eq_true rfl) (Nat.le_of_ble_eq_true rfl)
