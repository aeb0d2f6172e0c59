def v_X11_kept_1 (S : St) (p0 : Int32) (p1 : Int32) : Int32 := -p1
def v_X11_kept_2 (S : St) (p0 : Int32) (p1 : Int32) : Int32 := -p1
def v_X11_kept_3 (S : St) (p0 : Int32) (p1 : Int32) : Int32 := if p0 ≤ p1 then if (v_X11_kept_1 S p0 p1) ≤ p0 then p0 else (v_X11_kept_2 S p0 p1) else p1
def r_X11_kept (S : St) (p0 : Int32) (p1 : Int32) : Int32 := (v_X11_kept_3 S p0 p1)
def rm_X11_kept : Room := { frames := 0, cells := 0, slots := 0, locals := 0 }
set_option maxRecDepth 100000 in
set_option maxHeartbeats 4000000 in
theorem k_X11_kept (l : Launch) (D : va_G) (a : Nat → Nat) (cZ cI : ClassId) (S : St) (sz : Nat) (p0 : Int32) (p1 : Int32) : Met l yX11_kept wsX11_kept rm_X11_kept (va_Pc [.int p0, .int p1] (pW D (tyZI cZ cI) (wM a cZ cI S) sz nT)) (va_Qi (fun (r : Int32) (u : St) => u = S ∧ r = r_X11_kept S p0 p1) (fun u t => oW D (tyZI cZ cI) (wM a cZ cI u) (aA (adM a) sz) t) (aA (adM a) sz)) 0 0 (aA (adM a) sz) := by
  refine Met.ofW (cc := cX11_kept) (maxL := 2) (ret := (some .int)) (by decide +kernel) rfl ?_
  intro p e s m args below meth c s₁ B hml hv
  obtain ⟨rfl, hsz, hP0, hK, hD9, hN⟩ := hv
  have hx := B.exec
  have hb := B.bytes
  have hr := B.returns
  have hts := atoms_spec (ws := wsX11_kept) B.pre
  have hown : s.vm.findClass RX11 = some m.cls := findClass_of_methodNamed B.named
  have hlocks := B.notSynchronized
  subst hsz
  have hD0 := aA_self (sz := s.heap.size) (as := adM a) hD9 rfl
  generalize hAe : aA (adM a) s.heap.size = A at hD0 ⊢
  have hA : ∀ q : Nat, s.heap.size ≤ q → A q := fun q h => by rw [← hAe]; exact Or.inr h
  have hAc : ∀ q : Nat, q ∈ adM a → A q := fun q h => by rw [← hAe]; exact Or.inl h
  have hS0 : va_S A s.heap s.heap [] := va_S.rf
  have hl0 := lv_entry ([.int p0, .int p1]) (n := 2) (Nat.le_of_ble_eq_true rfl)
  rw [lg_entry_eq]
  generalize (lg_sl ([.int p0, .int p1]) ++ List.replicate (2 - (lg_sl ([.int p0, .int p1])).length) Slot.unset).toArray = ls0 at hl0 ⊢
  have hl0 : lv_has ls0 2 [(0, .int p0), (1, .int p1)] := hl0
  generalize hQ : MQ below _ _ s _ _ _ = Q
  clear hD9 B
  refine lv_iload_n hx hb dX11_kept_0 rfl (lv_at hl0 0 rfl) ?_
  refine lv_iload_n hx hb dX11_kept_1 rfl (lv_at hl0 1 rfl) ?_
  have J1_2 : W p l e (headSpec wsX11_kept rm_X11_kept).room s m ([.int p0, .int p1] : List Value).toArray below meth c s.heap [] 0 0 Q (F0 m 21 ls0 [.int (v_X11_kept_3 S p0 p1)]) := by
    subst hQ; exact W.iret (v := (v_X11_kept_3 S p0 p1)) hx hb hr (fun t ht hW => ⟨⟨(v_X11_kept_3 S p0 p1), S, rfl, ⟨rfl, (show (v_X11_kept_3 S p0 p1) = r_X11_kept S p0 p1 from rfl)⟩, endW hP0 hK hD0 ht hW⟩, hS0.F ht⟩) hS0.2.2 dX11_kept_21
  refine lv_icmp_le (tgt := 9) hx hb dX11_kept_2 (by decide) (fun c1_2 => ?_) (fun c1_2 => ?_)
  · refine lv_iload_n hx hb dX11_kept_9 rfl (lv_at hl0 0 rfl) ?_
    refine lv_iload_n hx hb dX11_kept_10 rfl (lv_at hl0 1 rfl) ?_
    refine lv_ineg hx hb dX11_kept_11 ?_
    refine lv_asi (y := (v_X11_kept_1 S p0 p1)) rfl ?_
    refine lv_icmp_ge (tgt := 20) hx hb dX11_kept_12 (by decide) (fun c2_12 => ?_) (fun c2_12 => ?_)
    · refine lv_iload_n hx hb dX11_kept_20 rfl (lv_at hl0 0 rfl) ?_
      refine lv_asi (y := (v_X11_kept_3 S p0 p1)) (show (v_X11_kept_3 S p0 p1) = p0 from ((if_pos c1_2).trans (if_pos c2_12))).symm ?_
      exact J1_2
    · refine lv_iload_n hx hb dX11_kept_15 rfl (lv_at hl0 1 rfl) ?_
      refine lv_ineg hx hb dX11_kept_16 ?_
      refine lv_asi (y := (v_X11_kept_2 S p0 p1)) rfl ?_
      refine lv_goto (tgt := 21) hx hb dX11_kept_17 (by decide) ?_
      refine lv_asi (y := (v_X11_kept_3 S p0 p1)) (show (v_X11_kept_3 S p0 p1) = (v_X11_kept_2 S p0 p1) from ((if_pos c1_2).trans (if_neg c2_12))).symm ?_
      exact J1_2
  · refine lv_iload_n hx hb dX11_kept_5 rfl (lv_at hl0 1 rfl) ?_
    refine lv_goto (tgt := 21) hx hb dX11_kept_6 (by decide) ?_
    refine lv_asi (y := (v_X11_kept_3 S p0 p1)) (show (v_X11_kept_3 S p0 p1) = p1 from (if_neg c1_2)).symm ?_
    exact J1_2

def s_X11_measures_1 (S : St) (p0 : Int32) : St := si S 14 p0
def v_X11_measures_2 (S : St) (p0 : Int32) : Int32 := ((s_X11_measures_1 S p0).1 17) * p0
def v_X11_measures_3 (S : St) (p0 : Int32) : Int32 := ((s_X11_measures_1 S p0).1 13) + (v_X11_measures_2 S p0)
def v_X11_measures_4 (S : St) (p0 : Int32) : Int32 := r_X11_kept (s_X11_measures_1 S p0) (v_X11_measures_3 S p0) 262144
def s_X11_measures_5 (S : St) (p0 : Int32) : St := si (s_X11_measures_1 S p0) 13 (v_X11_measures_4 S p0)
def v_X11_measures_6 (S : St) (p0 : Int32) : Int32 := ((s_X11_measures_5 S p0).1 16) * p0
def v_X11_measures_7 (S : St) (p0 : Int32) : Int32 := ((s_X11_measures_5 S p0).1 13) >>> (8 &&& 31)
def v_X11_measures_8 (S : St) (p0 : Int32) : Int32 := (v_X11_measures_6 S p0) + (v_X11_measures_7 S p0)
def v_X11_measures_9 (S : St) (p0 : Int32) : Int32 := r_X11_kept (s_X11_measures_5 S p0) (v_X11_measures_8 S p0) 1024
def s_X11_measures_10 (S : St) (p0 : Int32) : St := si (s_X11_measures_5 S p0) 12 (v_X11_measures_9 S p0)
def s_X11_measures (S : St) (p0 : Int32) : St := (s_X11_measures_10 S p0)
def rm_X11_measures : Room := { frames := 1, cells := 0, slots := 0, locals := 21 }
set_option maxRecDepth 100000 in
set_option maxHeartbeats 4000000 in
theorem k_X11_measures (l : Launch) (D : va_G) (a : Nat → Nat) (cZ cI : ClassId) (S : St) (sz : Nat) (p0 : Int32) : Met l yX11_measures wsX11_measures rm_X11_measures (va_Pc [.ref (a 0), .int p0] (pW D (tyZI cZ cI) (wM a cZ cI S) sz nT)) (va_Qv (fun u : St => u = s_X11_measures S p0) (fun u t => oW D (tyZI cZ cI) (wM a cZ cI u) (aA (adM a) sz) t) (aA (adM a) sz)) 0 0 (aA (adM a) sz) := by
  refine Met.ofW (cc := cX11_measures) (maxL := 2) (ret := none) (by decide +kernel) rfl ?_
  intro p e s m args below meth c s₁ B hml hv
  obtain ⟨rfl, hsz, hP0, hK, hD9, hN⟩ := hv
  have hx := B.exec
  have hb := B.bytes
  have hr := B.returns
  have hts := atoms_spec (ws := wsX11_measures) B.pre
  have hown : s.vm.findClass RX11 = some m.cls := findClass_of_methodNamed B.named
  have hlocks := B.notSynchronized
  subst hsz
  have hD0 := aA_self (sz := s.heap.size) (as := adM a) hD9 rfl
  generalize hAe : aA (adM a) s.heap.size = A at hD0 ⊢
  have hA : ∀ q : Nat, s.heap.size ≤ q → A q := fun q h => by rw [← hAe]; exact Or.inr h
  have hAc : ∀ q : Nat, q ∈ adM a → A q := fun q h => by rw [← hAe]; exact Or.inl h
  have hS0 : va_S A s.heap s.heap [] := va_S.rf
  have hl0 := lv_entry ([.ref (a 0), .int p0]) (n := 2) (Nat.le_of_ble_eq_true rfl)
  rw [lg_entry_eq]
  generalize (lg_sl ([.ref (a 0), .int p0]) ++ List.replicate (2 - (lg_sl ([.ref (a 0), .int p0])).length) Slot.unset).toArray = ls0 at hl0 ⊢
  have hl0 : lv_has ls0 2 [(0, .ref (a 0)), (1, .int p0)] := hl0
  generalize hQ : MQ below _ _ s _ _ _ = Q
  clear hD9 B
  refine lv_aload_n hx hb dX11_measures_0 rfl (lv_at hl0 0 rfl) ?_
  refine lv_iload_n hx hb dX11_measures_1 rfl (lv_at hl0 1 rfl) ?_
  refine va_put (D := D) (ci := 11) (v := .int p0) (ty := .int) (C := RX11) (T := TX11) (N := 37) hx hb hts (fun _ h => List.mem_cons_of_mem _ (List.mem_append_right _ (h))) tyX11 tyX11_ok nmX11 hown hK hP0 hD0 hS0 0 rfl rfl 14 (by decide) (hts (.fieldLink RX11 67 "PhaselockModel" "error" "I") (List.mem_cons_of_mem _ (List.mem_append_left _ (List.mem_of_getElem? (i := 0) rfl)))) (fun _ h9 => h9) rfl (by decide +kernel) rfl rfl (Nat.le_of_ble_eq_true rfl) dX11_measures_2 (fun H1 L1 hP1 hD1 hS1 => ?_)
  replace hP1 : va_P D vwCl (wM a cZ cI (s_X11_measures_1 S p0)) H1 := cvP (wM_s14 a cZ cI S p0) hP1
  replace hD1 : va_D A (wM a cZ cI (s_X11_measures_1 S p0)) := cvD (wM_s14 a cZ cI S p0) hD1
  clear hP0 hD0 hS0
  refine lv_aload_n hx hb dX11_measures_5 rfl (lv_at hl0 0 rfl) ?_
  refine lv_aload_n hx hb dX11_measures_6 rfl (lv_at hl0 0 rfl) ?_
  refine va_get (D := D) (ci := 11) (v := .int ((s_X11_measures_1 S p0).1 13)) (C := RX11) (T := TX11) (N := 37) hx hb hts (fun _ h => List.mem_cons_of_mem _ (List.mem_append_right _ (h))) hown hK hP1 0 rfl rfl 13 (by decide) (hts (.fieldLink RX11 61 "PhaselockModel" "integral" "I") (List.mem_cons_of_mem _ (List.mem_append_left _ (List.mem_of_getElem? (i := 1) rfl)))) (fun _ h9 => h9) rfl dX11_measures_7 ?_
  refine lv_aload_n hx hb dX11_measures_10 rfl (lv_at hl0 0 rfl) ?_
  refine va_get (D := D) (ci := 11) (v := .int ((s_X11_measures_1 S p0).1 17)) (C := RX11) (T := TX11) (N := 37) hx hb hts (fun _ h => List.mem_cons_of_mem _ (List.mem_append_right _ (h))) hown hK hP1 0 rfl rfl 17 (by decide) (hts (.fieldLink RX11 34 "PhaselockModel" "gainI" "I") (List.mem_cons_of_mem _ (List.mem_append_left _ (List.mem_of_getElem? (i := 2) rfl)))) (fun _ h9 => h9) rfl dX11_measures_11 ?_
  refine lv_iload_n hx hb dX11_measures_14 rfl (lv_at hl0 1 rfl) ?_
  refine lv_imul hx hb dX11_measures_15 ?_
  refine lv_asi (y := (v_X11_measures_2 S p0)) rfl ?_
  refine lv_iadd hx hb dX11_measures_16 ?_
  refine lv_asi (y := (v_X11_measures_3 S p0)) rfl ?_
  refine lv_ldc (v := 262144) hx hb hown (hts (.constant RX11 70 (262144)) (List.mem_cons_of_mem _ (List.mem_append_left _ (List.mem_of_getElem? (i := 3) rfl)))) dX11_measures_17 ?_
  refine va_calli (va_runS (As := [.int (v_X11_measures_3 S p0), .int 262144]) (rest := [.ref (a 0)]) ⟨hx, hb, hml, hown, hts⟩ (k_X11_kept l D a cZ cI (s_X11_measures_1 S p0) H1.size (v_X11_measures_3 S p0) 262144) (va_cwS 2 hts gX11_measures_X11_kept rfl rfl rfl (by decide +kernel) ⟨Nat.le_of_ble_eq_true rfl, Nat.le_of_ble_eq_true rfl⟩) ⟨blW okN_T, preW hP1 hK hD1 okN_T hN⟩ rfl rfl hl0.1 rfl (lv_room (Nat.le_of_ble_eq_true rfl)) dX11_measures_19 ⟨Nat.zero_le _, Nat.zero_le _⟩) hS1 (aA_in hAc) (aA_free hAc hA hS1) (fun r2 u2 t2 H2 L2 ht2 hvm2 hw2 hB2 _ _ hS2 => ?_)
  obtain ⟨hP2, hD2⟩ := backW hB2 ht2 (aA_free hAc hA hS1)
  clear hB2 ht2 hvm2 t2
  obtain ⟨hu2, hr2⟩ := hw2
  subst u2; subst r2
  clear hP1 hD1 hS1
  refine lv_asi (y := (v_X11_measures_4 S p0)) rfl ?_
  refine va_put (D := D) (ci := 11) (v := .int (v_X11_measures_4 S p0)) (ty := .int) (C := RX11) (T := TX11) (N := 37) hx hb hts (fun _ h => List.mem_cons_of_mem _ (List.mem_append_right _ (h))) tyX11 tyX11_ok nmX11 hown hK hP2 hD2 hS2 0 rfl rfl 13 (by decide) (hts (.fieldLink RX11 61 "PhaselockModel" "integral" "I") (List.mem_cons_of_mem _ (List.mem_append_left _ (List.mem_of_getElem? (i := 1) rfl)))) (fun _ h9 => h9) rfl (by decide +kernel) rfl rfl (Nat.le_of_ble_eq_true rfl) dX11_measures_22 (fun H3 L3 hP3 hD3 hS3 => ?_)
  replace hP3 : va_P D vwCl (wM a cZ cI (s_X11_measures_5 S p0)) H3 := cvP (wM_s13 a cZ cI (s_X11_measures_1 S p0) (v_X11_measures_4 S p0)) hP3
  replace hD3 : va_D A (wM a cZ cI (s_X11_measures_5 S p0)) := cvD (wM_s13 a cZ cI (s_X11_measures_1 S p0) (v_X11_measures_4 S p0)) hD3
  clear hP2 hD2 hS2
  refine lv_aload_n hx hb dX11_measures_25 rfl (lv_at hl0 0 rfl) ?_
  refine lv_aload_n hx hb dX11_measures_26 rfl (lv_at hl0 0 rfl) ?_
  refine va_get (D := D) (ci := 11) (v := .int ((s_X11_measures_5 S p0).1 16)) (C := RX11) (T := TX11) (N := 37) hx hb hts (fun _ h => List.mem_cons_of_mem _ (List.mem_append_right _ (h))) hown hK hP3 0 rfl rfl 16 (by decide) (hts (.fieldLink RX11 31 "PhaselockModel" "gainP" "I") (List.mem_cons_of_mem _ (List.mem_append_left _ (List.mem_of_getElem? (i := 4) rfl)))) (fun _ h9 => h9) rfl dX11_measures_27 ?_
  refine lv_iload_n hx hb dX11_measures_30 rfl (lv_at hl0 1 rfl) ?_
  refine lv_imul hx hb dX11_measures_31 ?_
  refine lv_asi (y := (v_X11_measures_6 S p0)) rfl ?_
  refine lv_aload_n hx hb dX11_measures_32 rfl (lv_at hl0 0 rfl) ?_
  refine va_get (D := D) (ci := 11) (v := .int ((s_X11_measures_5 S p0).1 13)) (C := RX11) (T := TX11) (N := 37) hx hb hts (fun _ h => List.mem_cons_of_mem _ (List.mem_append_right _ (h))) hown hK hP3 0 rfl rfl 13 (by decide) (hts (.fieldLink RX11 61 "PhaselockModel" "integral" "I") (List.mem_cons_of_mem _ (List.mem_append_left _ (List.mem_of_getElem? (i := 1) rfl)))) (fun _ h9 => h9) rfl dX11_measures_33 ?_
  refine lv_bipush (v := 8) hx hb dX11_measures_36 (by decide) ?_
  refine lv_ishr hx hb dX11_measures_38 ?_
  refine lv_asi (y := (v_X11_measures_7 S p0)) rfl ?_
  refine lv_iadd hx hb dX11_measures_39 ?_
  refine lv_asi (y := (v_X11_measures_8 S p0)) rfl ?_
  refine lv_sipush (v := 1024) hx hb dX11_measures_40 (by decide) ?_
  refine va_calli (va_runS (As := [.int (v_X11_measures_8 S p0), .int 1024]) (rest := [.ref (a 0)]) ⟨hx, hb, hml, hown, hts⟩ (k_X11_kept l D a cZ cI (s_X11_measures_5 S p0) H3.size (v_X11_measures_8 S p0) 1024) (va_cwS 2 hts gX11_measures_X11_kept rfl rfl rfl (by decide +kernel) ⟨Nat.le_of_ble_eq_true rfl, Nat.le_of_ble_eq_true rfl⟩) ⟨blW okN_T, preW hP3 hK hD3 okN_T hN⟩ rfl rfl hl0.1 rfl (lv_room (Nat.le_of_ble_eq_true rfl)) dX11_measures_43 ⟨Nat.zero_le _, Nat.zero_le _⟩) hS3 (aA_in hAc) (aA_free hAc hA hS3) (fun r4 u4 t4 H4 L4 ht4 hvm4 hw4 hB4 _ _ hS4 => ?_)
  obtain ⟨hP4, hD4⟩ := backW hB4 ht4 (aA_free hAc hA hS3)
  clear hB4 ht4 hvm4 t4
  obtain ⟨hu4, hr4⟩ := hw4
  subst u4; subst r4
  clear hP3 hD3 hS3
  refine lv_asi (y := (v_X11_measures_9 S p0)) rfl ?_
  refine va_put (D := D) (ci := 11) (v := .int (v_X11_measures_9 S p0)) (ty := .int) (C := RX11) (T := TX11) (N := 37) hx hb hts (fun _ h => List.mem_cons_of_mem _ (List.mem_append_right _ (h))) tyX11 tyX11_ok nmX11 hown hK hP4 hD4 hS4 0 rfl rfl 12 (by decide) (hts (.fieldLink RX11 64 "PhaselockModel" "control" "I") (List.mem_cons_of_mem _ (List.mem_append_left _ (List.mem_of_getElem? (i := 5) rfl)))) (fun _ h9 => h9) rfl (by decide +kernel) rfl rfl (Nat.le_of_ble_eq_true rfl) dX11_measures_46 (fun H5 L5 hP5 hD5 hS5 => ?_)
  replace hP5 : va_P D vwCl (wM a cZ cI (s_X11_measures_10 S p0)) H5 := cvP (wM_s12 a cZ cI (s_X11_measures_5 S p0) (v_X11_measures_9 S p0)) hP5
  replace hD5 : va_D A (wM a cZ cI (s_X11_measures_10 S p0)) := cvD (wM_s12 a cZ cI (s_X11_measures_5 S p0) (v_X11_measures_9 S p0)) hD5
  clear hP4 hD4 hS4
  subst hQ; exact W.vret hx hb hr (fun t ht hW => ⟨⟨(s_X11_measures_10 S p0), rfl, (show (s_X11_measures_10 S p0) = s_X11_measures S p0 from rfl), endW hP5 hK hD5 ht hW⟩, hS5.F ht⟩) hS5.2.2 dX11_measures_49

def v_X11_sends_1 (S : St) : Int32 := (S.1 5) + 1
def s_X11_sends_2 (S : St) : St := si S 5 (v_X11_sends_1 S)
def v_X11_sends_3 (S : St) : Int32 := ((s_X11_sends_2 S).1 5) - ((s_X11_sends_2 S).1 5) / 24 * 24
def v_X11_sends_4 (S : St) : Int32 := ((s_X11_sends_2 S).1 6) &&& 1
def s_X11_sends_5 (S : St) : St := si (s_X11_sends_2 S) 7 (v_X11_sends_4 S)
def v_X11_sends_6 (S : St) : Int32 := ((s_X11_sends_5 S).1 6) >>> (1 &&& 31)
def v_X11_sends_7 (S : St) : Int32 := ((s_X11_sends_5 S).1 6) >>> (1 &&& 31)
def v_X11_sends_8 (S : St) : Int32 := ((s_X11_sends_5 S).1 6) ^^^ (v_X11_sends_7 S)
def v_X11_sends_9 (S : St) : Int32 := (v_X11_sends_8 S) &&& 1
def v_X11_sends_10 (S : St) : Int32 := (v_X11_sends_9 S) <<< (6 &&& 31)
def v_X11_sends_11 (S : St) : Int32 := (v_X11_sends_6 S) ||| (v_X11_sends_10 S)
def s_X11_sends_12 (S : St) : St := si (s_X11_sends_5 S) 6 (v_X11_sends_11 S)
def v_X11_sends_13 (S : St) : Int32 := 5 - (v_X11_sends_3 S)
def v_X11_sends_14 (S : St) : Int32 := 52 >>> ((v_X11_sends_13 S) &&& 31)
def v_X11_sends_15 (S : St) : Int32 := (v_X11_sends_14 S) &&& 1
def s_X11_sends_16 (S : St) : St := si (s_X11_sends_2 S) 7 (v_X11_sends_15 S)
def s_X11_sends_17 (S : St) : St := if 6 ≤ (v_X11_sends_3 S) then (s_X11_sends_12 S) else (s_X11_sends_16 S)
def s_X11_sends (S : St) : St := (s_X11_sends_17 S)
def rm_X11_sends : Room := { frames := 0, cells := 0, slots := 0, locals := 0 }
set_option maxRecDepth 100000 in
set_option maxHeartbeats 4000000 in
theorem k_X11_sends (l : Launch) (D : va_G) (a : Nat → Nat) (cZ cI : ClassId) (S : St) (sz : Nat) : Met l yX11_sends wsX11_sends rm_X11_sends (va_Pc [.ref (a 0)] (pW D (tyZI cZ cI) (wM a cZ cI S) sz nT)) (va_Qv (fun u : St => u = s_X11_sends S) (fun u t => oW D (tyZI cZ cI) (wM a cZ cI u) (aA (adM a) sz) t) (aA (adM a) sz)) 0 0 (aA (adM a) sz) := by
  refine Met.ofW (cc := cX11_sends) (maxL := 2) (ret := none) (by decide +kernel) rfl ?_
  intro p e s m args below meth c s₁ B hml hv
  obtain ⟨rfl, hsz, hP0, hK, hD9, hN⟩ := hv
  have hx := B.exec
  have hb := B.bytes
  have hr := B.returns
  have hts := atoms_spec (ws := wsX11_sends) B.pre
  have hown : s.vm.findClass RX11 = some m.cls := findClass_of_methodNamed B.named
  have hlocks := B.notSynchronized
  subst hsz
  have hD0 := aA_self (sz := s.heap.size) (as := adM a) hD9 rfl
  generalize hAe : aA (adM a) s.heap.size = A at hD0 ⊢
  have hA : ∀ q : Nat, s.heap.size ≤ q → A q := fun q h => by rw [← hAe]; exact Or.inr h
  have hAc : ∀ q : Nat, q ∈ adM a → A q := fun q h => by rw [← hAe]; exact Or.inl h
  have hS0 : va_S A s.heap s.heap [] := va_S.rf
  have hl0 := lv_entry ([.ref (a 0)]) (n := 2) (Nat.le_of_ble_eq_true rfl)
  rw [lg_entry_eq]
  generalize (lg_sl ([.ref (a 0)]) ++ List.replicate (2 - (lg_sl ([.ref (a 0)])).length) Slot.unset).toArray = ls0 at hl0 ⊢
  have hl0 : lv_has ls0 2 [(0, .ref (a 0))] := hl0
  generalize hQ : MQ below _ _ s _ _ _ = Q
  clear hD9 B
  refine lv_aload_n hx hb dX11_sends_0 rfl (lv_at hl0 0 rfl) ?_
  refine lv_dup hx hb dX11_sends_1 rfl ?_
  refine va_get (D := D) (ci := 11) (v := .int (S.1 5)) (C := RX11) (T := TX11) (N := 37) hx hb hts (fun _ h => List.mem_cons_of_mem _ (List.mem_append_right _ (h))) hown hK hP0 0 rfl rfl 5 (by decide) (hts (.fieldLink RX11 75 "PhaselockModel" "sent" "I") (List.mem_cons_of_mem _ (List.mem_append_left _ (List.mem_of_getElem? (i := 0) rfl)))) (fun _ h9 => h9) rfl dX11_sends_2 ?_
  refine lv_iconst (v := 1) hx hb dX11_sends_5 (by decide) ?_
  refine lv_iadd hx hb dX11_sends_6 ?_
  refine lv_asi (y := (v_X11_sends_1 S)) rfl ?_
  refine va_put (D := D) (ci := 11) (v := .int (v_X11_sends_1 S)) (ty := .int) (C := RX11) (T := TX11) (N := 37) hx hb hts (fun _ h => List.mem_cons_of_mem _ (List.mem_append_right _ (h))) tyX11 tyX11_ok nmX11 hown hK hP0 hD0 hS0 0 rfl rfl 5 (by decide) (hts (.fieldLink RX11 75 "PhaselockModel" "sent" "I") (List.mem_cons_of_mem _ (List.mem_append_left _ (List.mem_of_getElem? (i := 0) rfl)))) (fun _ h9 => h9) rfl (by decide +kernel) rfl rfl (Nat.le_of_ble_eq_true rfl) dX11_sends_7 (fun H1 L1 hP1 hD1 hS1 => ?_)
  replace hP1 : va_P D vwCl (wM a cZ cI (s_X11_sends_2 S)) H1 := cvP (wM_s5 a cZ cI S (v_X11_sends_1 S)) hP1
  replace hD1 : va_D A (wM a cZ cI (s_X11_sends_2 S)) := cvD (wM_s5 a cZ cI S (v_X11_sends_1 S)) hD1
  clear hP0 hD0 hS0
  refine lv_aload_n hx hb dX11_sends_10 rfl (lv_at hl0 0 rfl) ?_
  refine va_get (D := D) (ci := 11) (v := .int ((s_X11_sends_2 S).1 5)) (C := RX11) (T := TX11) (N := 37) hx hb hts (fun _ h => List.mem_cons_of_mem _ (List.mem_append_right _ (h))) hown hK hP1 0 rfl rfl 5 (by decide) (hts (.fieldLink RX11 75 "PhaselockModel" "sent" "I") (List.mem_cons_of_mem _ (List.mem_append_left _ (List.mem_of_getElem? (i := 0) rfl)))) (fun _ h9 => h9) rfl dX11_sends_11 ?_
  refine lv_bipush (v := 24) hx hb dX11_sends_14 (by decide) ?_
  refine lv_irem hx hb dX11_sends_16 (by decide) ?_
  refine lv_asi (y := (v_X11_sends_3 S)) rfl ?_
  refine lv_istore_n (lv' := [(1, .int (v_X11_sends_3 S)), (0, .ref (a 0))]) hx hb dX11_sends_17 rfl hl0 (by decide) rfl (fun ls1 hl1 => ?_)
  clear hl0
  refine lv_iload_n hx hb dX11_sends_18 rfl (lv_at hl1 0 rfl) ?_
  refine lv_bipush (v := 6) hx hb dX11_sends_19 (by decide) ?_
  have J1_21 : ∀ (H4 : Heap) (L4 : List Loc), va_P D vwCl (wM a cZ cI (s_X11_sends_17 S)) H4 → va_D A (wM a cZ cI (s_X11_sends_17 S)) → va_S A s.heap H4 L4 → W p l e (headSpec wsX11_sends rm_X11_sends).room s m ([.ref (a 0)] : List Value).toArray below meth c H4 L4 0 0 Q (F0 m 76 ls1 []) := by
    intro H4 L4 hP4 hD4 hS4
    clear hP1 hD1 hS1
    subst hQ; exact W.vret hx hb hr (fun t ht hW => ⟨⟨(s_X11_sends_17 S), rfl, (show (s_X11_sends_17 S) = s_X11_sends S from rfl), endW hP4 hK hD4 ht hW⟩, hS4.F ht⟩) hS4.2.2 dX11_sends_76
  refine lv_icmp_ge (tgt := 39) hx hb dX11_sends_21 (by decide) (fun c1_21 => ?_) (fun c1_21 => ?_)
  · refine lv_aload_n hx hb dX11_sends_39 rfl (lv_at hl1 1 rfl) ?_
    refine lv_aload_n hx hb dX11_sends_40 rfl (lv_at hl1 1 rfl) ?_
    refine va_get (D := D) (ci := 11) (v := .int ((s_X11_sends_2 S).1 6)) (C := RX11) (T := TX11) (N := 37) hx hb hts (fun _ h => List.mem_cons_of_mem _ (List.mem_append_right _ (h))) hown hK hP1 0 rfl rfl 6 (by decide) (hts (.fieldLink RX11 17 "PhaselockModel" "register" "I") (List.mem_cons_of_mem _ (List.mem_append_left _ (List.mem_of_getElem? (i := 2) rfl)))) (fun _ h9 => h9) rfl dX11_sends_41 ?_
    refine lv_iconst (v := 1) hx hb dX11_sends_44 (by decide) ?_
    refine lv_iand hx hb dX11_sends_45 ?_
    refine lv_asi (y := (v_X11_sends_4 S)) rfl ?_
    refine va_put (D := D) (ci := 11) (v := .int (v_X11_sends_4 S)) (ty := .int) (C := RX11) (T := TX11) (N := 37) hx hb hts (fun _ h => List.mem_cons_of_mem _ (List.mem_append_right _ (h))) tyX11 tyX11_ok nmX11 hown hK hP1 hD1 hS1 0 rfl rfl 7 (by decide) (hts (.fieldLink RX11 20 "PhaselockModel" "value" "I") (List.mem_cons_of_mem _ (List.mem_append_left _ (List.mem_of_getElem? (i := 1) rfl)))) (fun _ h9 => h9) rfl (by decide +kernel) rfl rfl (Nat.le_of_ble_eq_true rfl) dX11_sends_46 (fun H2 L2 hP2 hD2 hS2 => ?_)
    replace hP2 : va_P D vwCl (wM a cZ cI (s_X11_sends_5 S)) H2 := cvP (wM_s7 a cZ cI (s_X11_sends_2 S) (v_X11_sends_4 S)) hP2
    replace hD2 : va_D A (wM a cZ cI (s_X11_sends_5 S)) := cvD (wM_s7 a cZ cI (s_X11_sends_2 S) (v_X11_sends_4 S)) hD2
    clear hP1 hD1 hS1
    refine lv_aload_n hx hb dX11_sends_49 rfl (lv_at hl1 1 rfl) ?_
    refine lv_aload_n hx hb dX11_sends_50 rfl (lv_at hl1 1 rfl) ?_
    refine va_get (D := D) (ci := 11) (v := .int ((s_X11_sends_5 S).1 6)) (C := RX11) (T := TX11) (N := 37) hx hb hts (fun _ h => List.mem_cons_of_mem _ (List.mem_append_right _ (h))) hown hK hP2 0 rfl rfl 6 (by decide) (hts (.fieldLink RX11 17 "PhaselockModel" "register" "I") (List.mem_cons_of_mem _ (List.mem_append_left _ (List.mem_of_getElem? (i := 2) rfl)))) (fun _ h9 => h9) rfl dX11_sends_51 ?_
    refine lv_iconst (v := 1) hx hb dX11_sends_54 (by decide) ?_
    refine lv_ishr hx hb dX11_sends_55 ?_
    refine lv_asi (y := (v_X11_sends_6 S)) rfl ?_
    refine lv_aload_n hx hb dX11_sends_56 rfl (lv_at hl1 1 rfl) ?_
    refine va_get (D := D) (ci := 11) (v := .int ((s_X11_sends_5 S).1 6)) (C := RX11) (T := TX11) (N := 37) hx hb hts (fun _ h => List.mem_cons_of_mem _ (List.mem_append_right _ (h))) hown hK hP2 0 rfl rfl 6 (by decide) (hts (.fieldLink RX11 17 "PhaselockModel" "register" "I") (List.mem_cons_of_mem _ (List.mem_append_left _ (List.mem_of_getElem? (i := 2) rfl)))) (fun _ h9 => h9) rfl dX11_sends_57 ?_
    refine lv_aload_n hx hb dX11_sends_60 rfl (lv_at hl1 1 rfl) ?_
    refine va_get (D := D) (ci := 11) (v := .int ((s_X11_sends_5 S).1 6)) (C := RX11) (T := TX11) (N := 37) hx hb hts (fun _ h => List.mem_cons_of_mem _ (List.mem_append_right _ (h))) hown hK hP2 0 rfl rfl 6 (by decide) (hts (.fieldLink RX11 17 "PhaselockModel" "register" "I") (List.mem_cons_of_mem _ (List.mem_append_left _ (List.mem_of_getElem? (i := 2) rfl)))) (fun _ h9 => h9) rfl dX11_sends_61 ?_
    refine lv_iconst (v := 1) hx hb dX11_sends_64 (by decide) ?_
    refine lv_ishr hx hb dX11_sends_65 ?_
    refine lv_asi (y := (v_X11_sends_7 S)) rfl ?_
    refine lv_ixor hx hb dX11_sends_66 ?_
    refine lv_asi (y := (v_X11_sends_8 S)) rfl ?_
    refine lv_iconst (v := 1) hx hb dX11_sends_67 (by decide) ?_
    refine lv_iand hx hb dX11_sends_68 ?_
    refine lv_asi (y := (v_X11_sends_9 S)) rfl ?_
    refine lv_bipush (v := 6) hx hb dX11_sends_69 (by decide) ?_
    refine lv_ishl hx hb dX11_sends_71 ?_
    refine lv_asi (y := (v_X11_sends_10 S)) rfl ?_
    refine lv_ior hx hb dX11_sends_72 ?_
    refine lv_asi (y := (v_X11_sends_11 S)) rfl ?_
    refine va_put (D := D) (ci := 11) (v := .int (v_X11_sends_11 S)) (ty := .int) (C := RX11) (T := TX11) (N := 37) hx hb hts (fun _ h => List.mem_cons_of_mem _ (List.mem_append_right _ (h))) tyX11 tyX11_ok nmX11 hown hK hP2 hD2 hS2 0 rfl rfl 6 (by decide) (hts (.fieldLink RX11 17 "PhaselockModel" "register" "I") (List.mem_cons_of_mem _ (List.mem_append_left _ (List.mem_of_getElem? (i := 2) rfl)))) (fun _ h9 => h9) rfl (by decide +kernel) rfl rfl (Nat.le_of_ble_eq_true rfl) dX11_sends_73 (fun H3 L3 hP3 hD3 hS3 => ?_)
    replace hP3 : va_P D vwCl (wM a cZ cI (s_X11_sends_12 S)) H3 := cvP (wM_s6 a cZ cI (s_X11_sends_5 S) (v_X11_sends_11 S)) hP3
    replace hD3 : va_D A (wM a cZ cI (s_X11_sends_12 S)) := cvD (wM_s6 a cZ cI (s_X11_sends_5 S) (v_X11_sends_11 S)) hD3
    clear hP2 hD2 hS2
    exact J1_21 _ _ (va_asS (P := fun u => va_P D vwCl (wM a cZ cI u) H3) (show (s_X11_sends_17 S) = (s_X11_sends_12 S) from (if_pos c1_21)) hP3) (va_asS (P := fun u => va_D A (wM a cZ cI u)) (show (s_X11_sends_17 S) = (s_X11_sends_12 S) from (if_pos c1_21)) hD3) hS3
  · refine lv_aload_n hx hb dX11_sends_24 rfl (lv_at hl1 1 rfl) ?_
    refine lv_bipush (v := 52) hx hb dX11_sends_25 (by decide) ?_
    refine lv_iconst (v := 5) hx hb dX11_sends_27 (by decide) ?_
    refine lv_iload_n hx hb dX11_sends_28 rfl (lv_at hl1 0 rfl) ?_
    refine lv_isub hx hb dX11_sends_29 ?_
    refine lv_asi (y := (v_X11_sends_13 S)) rfl ?_
    refine lv_ishr hx hb dX11_sends_30 ?_
    refine lv_asi (y := (v_X11_sends_14 S)) rfl ?_
    refine lv_iconst (v := 1) hx hb dX11_sends_31 (by decide) ?_
    refine lv_iand hx hb dX11_sends_32 ?_
    refine lv_asi (y := (v_X11_sends_15 S)) rfl ?_
    refine va_put (D := D) (ci := 11) (v := .int (v_X11_sends_15 S)) (ty := .int) (C := RX11) (T := TX11) (N := 37) hx hb hts (fun _ h => List.mem_cons_of_mem _ (List.mem_append_right _ (h))) tyX11 tyX11_ok nmX11 hown hK hP1 hD1 hS1 0 rfl rfl 7 (by decide) (hts (.fieldLink RX11 20 "PhaselockModel" "value" "I") (List.mem_cons_of_mem _ (List.mem_append_left _ (List.mem_of_getElem? (i := 1) rfl)))) (fun _ h9 => h9) rfl (by decide +kernel) rfl rfl (Nat.le_of_ble_eq_true rfl) dX11_sends_33 (fun H2 L2 hP2 hD2 hS2 => ?_)
    replace hP2 : va_P D vwCl (wM a cZ cI (s_X11_sends_16 S)) H2 := cvP (wM_s7 a cZ cI (s_X11_sends_2 S) (v_X11_sends_15 S)) hP2
    replace hD2 : va_D A (wM a cZ cI (s_X11_sends_16 S)) := cvD (wM_s7 a cZ cI (s_X11_sends_2 S) (v_X11_sends_15 S)) hD2
    clear hP1 hD1 hS1
    refine lv_goto (tgt := 76) hx hb dX11_sends_36 (by decide) ?_
    exact J1_21 _ _ (va_asS (P := fun u => va_P D vwCl (wM a cZ cI u) H2) (show (s_X11_sends_17 S) = (s_X11_sends_16 S) from (if_neg c1_21)) hP2) (va_asS (P := fun u => va_D A (wM a cZ cI u)) (show (s_X11_sends_17 S) = (s_X11_sends_16 S) from (if_neg c1_21)) hD2) hS2

def v_X11_size_1 (S : St) (p0 : Int32) : Int32 := -p0
def v_X11_size_2 (S : St) (p0 : Int32) : Int32 := if 0 ≤ p0 then p0 else (v_X11_size_1 S p0)
def r_X11_size (S : St) (p0 : Int32) : Int32 := (v_X11_size_2 S p0)
def rm_X11_size : Room := { frames := 0, cells := 0, slots := 0, locals := 0 }
set_option maxRecDepth 100000 in
set_option maxHeartbeats 4000000 in
theorem k_X11_size (l : Launch) (D : va_G) (a : Nat → Nat) (cZ cI : ClassId) (S : St) (sz : Nat) (p0 : Int32) : Met l yX11_size wsX11_size rm_X11_size (va_Pc [.int p0] (pW D (tyZI cZ cI) (wM a cZ cI S) sz nT)) (va_Qi (fun (r : Int32) (u : St) => u = S ∧ r = r_X11_size S p0) (fun u t => oW D (tyZI cZ cI) (wM a cZ cI u) (aA (adM a) sz) t) (aA (adM a) sz)) 0 0 (aA (adM a) sz) := by
  refine Met.ofW (cc := cX11_size) (maxL := 1) (ret := (some .int)) (by decide +kernel) rfl ?_
  intro p e s m args below meth c s₁ B hml hv
  obtain ⟨rfl, hsz, hP0, hK, hD9, hN⟩ := hv
  have hx := B.exec
  have hb := B.bytes
  have hr := B.returns
  have hts := atoms_spec (ws := wsX11_size) B.pre
  have hown : s.vm.findClass RX11 = some m.cls := findClass_of_methodNamed B.named
  have hlocks := B.notSynchronized
  subst hsz
  have hD0 := aA_self (sz := s.heap.size) (as := adM a) hD9 rfl
  generalize hAe : aA (adM a) s.heap.size = A at hD0 ⊢
  have hA : ∀ q : Nat, s.heap.size ≤ q → A q := fun q h => by rw [← hAe]; exact Or.inr h
  have hAc : ∀ q : Nat, q ∈ adM a → A q := fun q h => by rw [← hAe]; exact Or.inl h
  have hS0 : va_S A s.heap s.heap [] := va_S.rf
  have hl0 := lv_entry ([.int p0]) (n := 1) (Nat.le_of_ble_eq_true rfl)
  rw [lg_entry_eq]
  generalize (lg_sl ([.int p0]) ++ List.replicate (1 - (lg_sl ([.int p0])).length) Slot.unset).toArray = ls0 at hl0 ⊢
  have hl0 : lv_has ls0 1 [(0, .int p0)] := hl0
  generalize hQ : MQ below _ _ s _ _ _ = Q
  clear hD9 B
  refine lv_iload_n hx hb dX11_size_0 rfl (lv_at hl0 0 rfl) ?_
  have J1_1 : W p l e (headSpec wsX11_size rm_X11_size).room s m ([.int p0] : List Value).toArray below meth c s.heap [] 0 0 Q (F0 m 10 ls0 [.int (v_X11_size_2 S p0)]) := by
    subst hQ; exact W.iret (v := (v_X11_size_2 S p0)) hx hb hr (fun t ht hW => ⟨⟨(v_X11_size_2 S p0), S, rfl, ⟨rfl, (show (v_X11_size_2 S p0) = r_X11_size S p0 from rfl)⟩, endW hP0 hK hD0 ht hW⟩, hS0.F ht⟩) hS0.2.2 dX11_size_10
  refine lv_if_ge (tgt := 9) hx hb dX11_size_1 (by decide) (fun c1_1 => ?_) (fun c1_1 => ?_)
  · refine lv_iload_n hx hb dX11_size_9 rfl (lv_at hl0 0 rfl) ?_
    refine lv_asi (y := (v_X11_size_2 S p0)) (show (v_X11_size_2 S p0) = p0 from (if_pos c1_1)).symm ?_
    exact J1_1
  · refine lv_iload_n hx hb dX11_size_4 rfl (lv_at hl0 0 rfl) ?_
    refine lv_ineg hx hb dX11_size_5 ?_
    refine lv_asi (y := (v_X11_size_1 S p0)) rfl ?_
    refine lv_goto (tgt := 10) hx hb dX11_size_6 (by decide) ?_
    refine lv_asi (y := (v_X11_size_2 S p0)) (show (v_X11_size_2 S p0) = (v_X11_size_1 S p0) from (if_neg c1_1)).symm ?_
    exact J1_1

def lev (S : St) : Nat → Int32
  | 0 => 0
  | i + 1 => lev S i + ((S.1 8 >>> (nI i &&& 31)) &&& 1)
def v_X11_levelNow_1 (S : St) : Int32 := 2 * (lev S 8)
def v_X11_levelNow_2 (S : St) : Int32 := (v_X11_levelNow_1 S) - 8
def v_X11_levelNow_4 (S : St) (i : Nat) : Int32 := (S.1 8) >>> ((nI i) &&& 31)
def v_X11_levelNow_5 (S : St) (i : Nat) : Int32 := (v_X11_levelNow_4 S i) &&& 1
def v_X11_levelNow_6 (S : St) (i : Nat) : Int32 := (lev S i) + (v_X11_levelNow_5 S i)
def v_X11_levelNow_7 (S : St) (i : Nat) : Int32 := (nI i) + 1
def r_X11_levelNow (S : St) : Int32 := (v_X11_levelNow_2 S)
def rm_X11_levelNow : Room := { frames := 0, cells := 0, slots := 0, locals := 0 }
set_option maxRecDepth 100000 in
set_option maxHeartbeats 4000000 in
theorem k_X11_levelNow (l : Launch) (D : va_G) (a : Nat → Nat) (cZ cI : ClassId) (S : St) (sz : Nat) : Met l yX11_levelNow wsX11_levelNow rm_X11_levelNow (va_Pc [.ref (a 0)] (pW D (tyZI cZ cI) (wM a cZ cI S) sz nT)) (va_Qi (fun (r : Int32) (u : St) => u = S ∧ r = r_X11_levelNow S) (fun u t => oW D (tyZI cZ cI) (wM a cZ cI u) (aA (adM a) sz) t) (aA (adM a) sz)) 0 0 (aA (adM a) sz) := by
  refine Met.ofW (cc := cX11_levelNow) (maxL := 3) (ret := (some .int)) (by decide +kernel) rfl ?_
  intro p e s m args below meth c s₁ B hml hv
  obtain ⟨rfl, hsz, hP0, hK, hD9, hN⟩ := hv
  have hx := B.exec
  have hb := B.bytes
  have hr := B.returns
  have hts := atoms_spec (ws := wsX11_levelNow) B.pre
  have hown : s.vm.findClass RX11 = some m.cls := findClass_of_methodNamed B.named
  have hlocks := B.notSynchronized
  subst hsz
  have hD0 := aA_self (sz := s.heap.size) (as := adM a) hD9 rfl
  generalize hAe : aA (adM a) s.heap.size = A at hD0 ⊢
  have hA : ∀ q : Nat, s.heap.size ≤ q → A q := fun q h => by rw [← hAe]; exact Or.inr h
  have hAc : ∀ q : Nat, q ∈ adM a → A q := fun q h => by rw [← hAe]; exact Or.inl h
  have hS0 : va_S A s.heap s.heap [] := va_S.rf
  have hl0 := lv_entry ([.ref (a 0)]) (n := 3) (Nat.le_of_ble_eq_true rfl)
  rw [lg_entry_eq]
  generalize (lg_sl ([.ref (a 0)]) ++ List.replicate (3 - (lg_sl ([.ref (a 0)])).length) Slot.unset).toArray = ls0 at hl0 ⊢
  have hl0 : lv_has ls0 3 [(0, .ref (a 0))] := hl0
  generalize hQ : MQ below _ _ s _ _ _ = Q
  clear hD9 B
  refine lv_iconst (v := 0) hx hb dX11_levelNow_0 (by decide) ?_
  refine lv_istore_n (lv' := [(1, .int 0), (0, .ref (a 0))]) hx hb dX11_levelNow_1 rfl hl0 (by decide) rfl (fun ls1 hl1 => ?_)
  clear hl0
  refine lv_iconst (v := 0) hx hb dX11_levelNow_2 (by decide) ?_
  refine lv_istore_n (lv' := [(2, .int 0), (1, .int 0), (0, .ref (a 0))]) hx hb dX11_levelNow_3 rfl hl1 (by decide) rfl (fun ls2 hl2 => ?_)
  clear hl1
  have LOOP : ∀ (n i : Nat), i ≤ 8 → 8 < i + n → ∀ (H1 : Heap) (L1 : List Loc), va_P D vwCl (wM a cZ cI S) H1 → va_D A (wM a cZ cI S) → va_S A s.heap H1 L1 → ∀ ls3 : Array Slot, lv_has ls3 3 [(2, .int (nI i)), (1, .int (lev S i)), (0, .ref (a 0))] → W p l e (headSpec wsX11_levelNow rm_X11_levelNow).room s m ([.ref (a 0)] : List Value).toArray below meth c H1 L1 0 0 Q (F0 m 4 ls3 []) := by
    clear hP0 hD0 hS0 hl2
    intro n
    induction n with
    | zero => exact fun i h1 h2 => absurd h2 (by omega)
    | succ n ih =>
      intro i hi hin H1 L1 hP1 hD1 hS1 ls3 hl3
      refine lv_iload_n hx hb dX11_levelNow_4 rfl (lv_at hl3 0 rfl) ?_
      refine lv_bipush (v := 8) hx hb dX11_levelNow_5 (by decide) ?_
      refine lv_icmp_ge (tgt := 27) hx hb dX11_levelNow_7 (by decide) (fun c1_7 => ?_) (fun c1_7 => ?_)
      · have hie : i = 8 := lp_ge (N := 8) (by decide) hi c1_7
        subst hie
        refine lv_iconst (v := 2) hx hb dX11_levelNow_27 (by decide) ?_
        refine lv_iload_n hx hb dX11_levelNow_28 rfl (lv_at hl3 1 rfl) ?_
        refine lv_imul hx hb dX11_levelNow_29 ?_
        refine lv_asi (y := (v_X11_levelNow_1 S)) rfl ?_
        refine lv_bipush (v := 8) hx hb dX11_levelNow_30 (by decide) ?_
        refine lv_isub hx hb dX11_levelNow_32 ?_
        refine lv_asi (y := (v_X11_levelNow_2 S)) rfl ?_
        subst hQ; exact W.iret (v := (v_X11_levelNow_2 S)) hx hb hr (fun t ht hW => ⟨⟨(v_X11_levelNow_2 S), S, rfl, ⟨rfl, (show (v_X11_levelNow_2 S) = r_X11_levelNow S from rfl)⟩, endW hP1 hK hD1 ht hW⟩, hS1.F ht⟩) hS1.2.2 dX11_levelNow_33
      · have hlt : i < 8 := lp_lt (N := 8) (by decide) hi c1_7
        refine lv_iload_n hx hb dX11_levelNow_10 rfl (lv_at hl3 1 rfl) ?_
        refine lv_aload_n hx hb dX11_levelNow_11 rfl (lv_at hl3 2 rfl) ?_
        refine va_get (D := D) (ci := 11) (v := .int (S.1 8)) (C := RX11) (T := TX11) (N := 37) hx hb hts (fun _ h => List.mem_cons_of_mem _ (List.mem_append_right _ (h))) hown hK hP1 0 rfl rfl 8 (by decide) (hts (.fieldLink RX11 24 "PhaselockModel" "memory" "I") (List.mem_cons_of_mem _ (List.mem_append_left _ (List.mem_of_getElem? (i := 0) rfl)))) (fun _ h9 => h9) rfl dX11_levelNow_12 ?_
        refine lv_iload_n hx hb dX11_levelNow_15 rfl (lv_at hl3 0 rfl) ?_
        refine lv_ishr hx hb dX11_levelNow_16 ?_
        refine lv_asi (y := (v_X11_levelNow_4 S i)) rfl ?_
        refine lv_iconst (v := 1) hx hb dX11_levelNow_17 (by decide) ?_
        refine lv_iand hx hb dX11_levelNow_18 ?_
        refine lv_asi (y := (v_X11_levelNow_5 S i)) rfl ?_
        refine lv_iadd hx hb dX11_levelNow_19 ?_
        refine lv_asi (y := (v_X11_levelNow_6 S i)) rfl ?_
        refine lv_istore_n (lv' := [(1, .int (v_X11_levelNow_6 S i)), (2, .int (nI i)), (0, .ref (a 0))]) hx hb dX11_levelNow_20 rfl hl3 (by decide) rfl (fun ls4 hl4 => ?_)
        clear hl3
        refine lv_iinc (v := (v_X11_levelNow_7 S i)) (lv' := [(2, .int (v_X11_levelNow_7 S i)), (1, .int (v_X11_levelNow_6 S i)), (0, .ref (a 0))]) hx hb dX11_levelNow_21 hl4 (k := 1) rfl rfl (by decide) rfl (fun ls5 hl5 => ?_)
        clear hl4
        refine lv_goto (tgt := 4) hx hb dX11_levelNow_24 (by decide) ?_
        exact ih (i + 1) (by omega) (by omega) _ _ hP1 hD1 hS1 _ (by rw [show (nI (i + 1)) = (v_X11_levelNow_7 S i) from (nI_1 i).symm, show (lev S (i + 1)) = (v_X11_levelNow_6 S i) from rfl]; exact lv_sub (l' := [(2, .int (v_X11_levelNow_7 S i)), (1, .int (v_X11_levelNow_6 S i)), (0, .ref (a 0))]) hl5 [0, 1, 2] rfl)
  exact LOOP (8 + 1) 0 (Nat.zero_le _) (by omega) _ _ hP0 hD0 hS0 _ (lv_sub (l' := [(2, .int (nI 0)), (1, .int (lev S 0)), (0, .ref (a 0))]) hl2 [0, 1, 2] rfl)

def s_X11_level_1 (S : St) : St := si S 0 0
def v_X11_level_2 (S : St) : Int32 := r_X11_levelNow (s_X11_level_1 S)
def s_X11_level (S : St) : St := (s_X11_level_1 S)
def r_X11_level (S : St) : Int32 := (v_X11_level_2 S)
def rm_X11_level : Room := { frames := 1, cells := 0, slots := 0, locals := 22 }
set_option maxRecDepth 100000 in
set_option maxHeartbeats 4000000 in
theorem k_X11_level (l : Launch) (D : va_G) (a : Nat → Nat) (cZ cI : ClassId) (S : St) (sz : Nat) : Met l yX11_level wsX11_level rm_X11_level (va_Pc [.ref (a 0)] (pW D (tyZI cZ cI) (wM a cZ cI S) sz nT)) (va_Qi (fun (r : Int32) (u : St) => u = s_X11_level S ∧ r = r_X11_level S) (fun u t => oW D (tyZI cZ cI) (wM a cZ cI u) (aA (adM a) sz) t) (aA (adM a) sz)) 0 0 (aA (adM a) sz) := by
  refine Met.ofW (cc := cX11_level) (maxL := 1) (ret := (some .int)) (by decide +kernel) rfl ?_
  intro p e s m args below meth c s₁ B hml hv
  obtain ⟨rfl, hsz, hP0, hK, hD9, hN⟩ := hv
  have hx := B.exec
  have hb := B.bytes
  have hr := B.returns
  have hts := atoms_spec (ws := wsX11_level) B.pre
  have hown : s.vm.findClass RX11 = some m.cls := findClass_of_methodNamed B.named
  have hlocks := B.notSynchronized
  subst hsz
  have hD0 := aA_self (sz := s.heap.size) (as := adM a) hD9 rfl
  generalize hAe : aA (adM a) s.heap.size = A at hD0 ⊢
  have hA : ∀ q : Nat, s.heap.size ≤ q → A q := fun q h => by rw [← hAe]; exact Or.inr h
  have hAc : ∀ q : Nat, q ∈ adM a → A q := fun q h => by rw [← hAe]; exact Or.inl h
  have hS0 : va_S A s.heap s.heap [] := va_S.rf
  have hl0 := lv_entry ([.ref (a 0)]) (n := 1) (Nat.le_of_ble_eq_true rfl)
  rw [lg_entry_eq]
  generalize (lg_sl ([.ref (a 0)]) ++ List.replicate (1 - (lg_sl ([.ref (a 0)])).length) Slot.unset).toArray = ls0 at hl0 ⊢
  have hl0 : lv_has ls0 1 [(0, .ref (a 0))] := hl0
  generalize hQ : MQ below _ _ s _ _ _ = Q
  clear hD9 B
  refine lv_aload_n hx hb dX11_level_0 rfl (lv_at hl0 0 rfl) ?_
  refine lv_iconst (v := 0) hx hb dX11_level_1 (by decide) ?_
  refine va_put (D := D) (ci := 11) (v := .int 0) (ty := .int) (C := RX11) (T := TX11) (N := 37) hx hb hts (fun _ h => List.mem_cons_of_mem _ (List.mem_append_right _ (h))) tyX11 tyX11_ok nmX11 hown hK hP0 hD0 hS0 0 rfl rfl 0 (by decide) (hts (.fieldLink RX11 41 "PhaselockModel" "thrown" "I") (List.mem_cons_of_mem _ (List.mem_append_left _ (List.mem_of_getElem? (i := 0) rfl)))) (fun _ h9 => h9) rfl (by decide +kernel) rfl rfl (Nat.le_of_ble_eq_true rfl) dX11_level_2 (fun H1 L1 hP1 hD1 hS1 => ?_)
  replace hP1 : va_P D vwCl (wM a cZ cI (s_X11_level_1 S)) H1 := cvP (wM_s0 a cZ cI S 0) hP1
  replace hD1 : va_D A (wM a cZ cI (s_X11_level_1 S)) := cvD (wM_s0 a cZ cI S 0) hD1
  clear hP0 hD0 hS0
  refine lv_aload_n hx hb dX11_level_5 rfl (lv_at hl0 0 rfl) ?_
  refine va_calli (va_runV (As := []) (rest := []) ⟨hx, hb, hml, hown, hts⟩ (k_X11_levelNow l D a cZ cI (s_X11_level_1 S) H1.size) (cwV 0 hts gX11_level_X11_levelNow rfl rfl rfl (by decide +kernel) ⟨Nat.le_of_ble_eq_true rfl, Nat.le_of_ble_eq_true rfl⟩) ⟨blW okN_T, va_recv hK hP1 (ci := 11) (q0 := 0) rfl rfl, preW hP1 hK hD1 okN_T hN⟩ rfl rfl hl0.1 rfl (lv_room (Nat.le_of_ble_eq_true rfl)) dX11_level_6 ⟨Nat.zero_le _, Nat.zero_le _⟩) hS1 (aA_in hAc) (aA_free hAc hA hS1) (fun r2 u2 t2 H2 L2 ht2 hvm2 hw2 hB2 _ _ hS2 => ?_)
  obtain ⟨hP2, hD2⟩ := backW hB2 ht2 (aA_free hAc hA hS1)
  clear hB2 ht2 hvm2 t2
  obtain ⟨hu2, hr2⟩ := hw2
  subst u2; subst r2
  clear hP1 hD1 hS1
  refine lv_asi (y := (v_X11_level_2 S)) rfl ?_
  subst hQ; exact W.iret (v := (v_X11_level_2 S)) hx hb hr (fun t ht hW => ⟨⟨(v_X11_level_2 S), (s_X11_level_1 S), rfl, ⟨(show (s_X11_level_1 S) = s_X11_level S from rfl), (show (v_X11_level_2 S) = r_X11_level S from rfl)⟩, endW hP2 hK hD2 ht hW⟩, hS2.F ht⟩) hS2.2.2 dX11_level_9

def v_X11_measured_1 (S : St) : Int32 := (S.1 25) >>> (1 &&& 31)
def v_X11_measured_2 (S : St) : Int32 := (v_X11_measured_1 S) &&& 1
def v_X11_measured_3 (S : St) : Int32 := r_X11_levelNow S
def v_X11_measured_4 (S : St) : Int32 := (v_X11_measured_3 S) - (S.1 23)
def v_X11_measured_5 (S : St) : Int32 := (S.1 22) * (v_X11_measured_4 S)
def v_X11_measured_6 (S : St) : Int32 := if (S.1 15) = 1 then (S.1 18) else if (S.1 15) = 2 then (S.1 19) else (v_X11_measured_5 S)
def v_X11_measured_8 (S : St) : Int32 := (S.1 25) &&& 1
def v_X11_measured_9 (S : St) : Int32 := if (S.1 24) = 1 then 0 else if (v_X11_measured_8 S) = (v_X11_measured_2 S) then 0 else if (S.1 21) = (v_X11_measured_2 S) then (-1) else 1
def r_X11_measured (S : St) : Int32 := if (S.1 15) = 0 then (v_X11_measured_9 S) else (v_X11_measured_6 S)
def rm_X11_measured : Room := { frames := 1, cells := 0, slots := 0, locals := 22 }
set_option maxRecDepth 100000 in
set_option maxHeartbeats 4000000 in
theorem k_X11_measured (l : Launch) (D : va_G) (a : Nat → Nat) (cZ cI : ClassId) (S : St) (sz : Nat) : Met l yX11_measured wsX11_measured rm_X11_measured (va_Pc [.ref (a 0)] (pW D (tyZI cZ cI) (wM a cZ cI S) sz nT)) (va_Qi (fun (r : Int32) (u : St) => u = S ∧ r = r_X11_measured S) (fun u t => oW D (tyZI cZ cI) (wM a cZ cI u) (aA (adM a) sz) t) (aA (adM a) sz)) 0 0 (aA (adM a) sz) := by
  refine Met.ofW (cc := cX11_measured) (maxL := 2) (ret := (some .int)) (by decide +kernel) rfl ?_
  intro p e s m args below meth c s₁ B hml hv
  obtain ⟨rfl, hsz, hP0, hK, hD9, hN⟩ := hv
  have hx := B.exec
  have hb := B.bytes
  have hr := B.returns
  have hts := atoms_spec (ws := wsX11_measured) B.pre
  have hown : s.vm.findClass RX11 = some m.cls := findClass_of_methodNamed B.named
  have hlocks := B.notSynchronized
  subst hsz
  have hD0 := aA_self (sz := s.heap.size) (as := adM a) hD9 rfl
  generalize hAe : aA (adM a) s.heap.size = A at hD0 ⊢
  have hA : ∀ q : Nat, s.heap.size ≤ q → A q := fun q h => by rw [← hAe]; exact Or.inr h
  have hAc : ∀ q : Nat, q ∈ adM a → A q := fun q h => by rw [← hAe]; exact Or.inl h
  have hS0 : va_S A s.heap s.heap [] := va_S.rf
  have hl0 := lv_entry ([.ref (a 0)]) (n := 2) (Nat.le_of_ble_eq_true rfl)
  rw [lg_entry_eq]
  generalize (lg_sl ([.ref (a 0)]) ++ List.replicate (2 - (lg_sl ([.ref (a 0)])).length) Slot.unset).toArray = ls0 at hl0 ⊢
  have hl0 : lv_has ls0 2 [(0, .ref (a 0))] := hl0
  generalize hQ : MQ below _ _ s _ _ _ = Q
  clear hD9 B
  refine lv_aload_n hx hb dX11_measured_0 rfl (lv_at hl0 0 rfl) ?_
  refine va_get (D := D) (ci := 11) (v := .int (S.1 25)) (C := RX11) (T := TX11) (N := 37) hx hb hts (fun _ h => List.mem_cons_of_mem _ (List.mem_append_right _ (h))) hown hK hP0 0 rfl rfl 25 (by decide) (hts (.fieldLink RX11 96 "PhaselockModel" "bits" "I") (List.mem_cons_of_mem _ (List.mem_append_left _ (List.mem_of_getElem? (i := 0) rfl)))) (fun _ h9 => h9) rfl dX11_measured_1 ?_
  refine lv_iconst (v := 1) hx hb dX11_measured_4 (by decide) ?_
  refine lv_ishr hx hb dX11_measured_5 ?_
  refine lv_asi (y := (v_X11_measured_1 S)) rfl ?_
  refine lv_iconst (v := 1) hx hb dX11_measured_6 (by decide) ?_
  refine lv_iand hx hb dX11_measured_7 ?_
  refine lv_asi (y := (v_X11_measured_2 S)) rfl ?_
  refine lv_istore_n (lv' := [(1, .int (v_X11_measured_2 S)), (0, .ref (a 0))]) hx hb dX11_measured_8 rfl hl0 (by decide) rfl (fun ls1 hl1 => ?_)
  clear hl0
  refine lv_aload_n hx hb dX11_measured_9 rfl (lv_at hl1 1 rfl) ?_
  refine va_get (D := D) (ci := 11) (v := .int (S.1 15)) (C := RX11) (T := TX11) (N := 37) hx hb hts (fun _ h => List.mem_cons_of_mem _ (List.mem_append_right _ (h))) hown hK hP0 0 rfl rfl 15 (by decide) (hts (.fieldLink RX11 55 "PhaselockModel" "detector" "I") (List.mem_cons_of_mem _ (List.mem_append_left _ (List.mem_of_getElem? (i := 1) rfl)))) (fun _ h9 => h9) rfl dX11_measured_10 ?_
  refine lv_if_ne (tgt := 52) hx hb dX11_measured_13 (by decide) (fun c1_13 => ?_) (fun c1_13 => ?_)
  · refine lv_aload_n hx hb dX11_measured_52 rfl (lv_at hl1 1 rfl) ?_
    refine va_get (D := D) (ci := 11) (v := .int (S.1 15)) (C := RX11) (T := TX11) (N := 37) hx hb hts (fun _ h => List.mem_cons_of_mem _ (List.mem_append_right _ (h))) hown hK hP0 0 rfl rfl 15 (by decide) (hts (.fieldLink RX11 55 "PhaselockModel" "detector" "I") (List.mem_cons_of_mem _ (List.mem_append_left _ (List.mem_of_getElem? (i := 1) rfl)))) (fun _ h9 => h9) rfl dX11_measured_53 ?_
    refine lv_iconst (v := 1) hx hb dX11_measured_56 (by decide) ?_
    have J1_57 : ∀ (H2 : Heap) (L2 : List Loc), va_P D vwCl (wM a cZ cI S) H2 → va_D A (wM a cZ cI S) → va_S A s.heap H2 L2 → W p l e (headSpec wsX11_measured rm_X11_measured).room s m ([.ref (a 0)] : List Value).toArray below meth c H2 L2 0 0 Q (F0 m 96 ls1 [.int (v_X11_measured_6 S)]) := by
      intro H2 L2 hP2 hD2 hS2
      clear hP0 hD0 hS0
      subst hQ; exact W.iret (v := (v_X11_measured_6 S)) hx hb hr (fun t ht hW => ⟨⟨(v_X11_measured_6 S), S, rfl, ⟨rfl, (show (v_X11_measured_6 S) = r_X11_measured S from (if_neg c1_13).symm)⟩, endW hP2 hK hD2 ht hW⟩, hS2.F ht⟩) hS2.2.2 dX11_measured_96
    refine lv_icmp_ne (tgt := 67) hx hb dX11_measured_57 (by decide) (fun c2_57 => ?_) (fun c2_57 => ?_)
    · refine lv_aload_n hx hb dX11_measured_67 rfl (lv_at hl1 1 rfl) ?_
      refine va_get (D := D) (ci := 11) (v := .int (S.1 15)) (C := RX11) (T := TX11) (N := 37) hx hb hts (fun _ h => List.mem_cons_of_mem _ (List.mem_append_right _ (h))) hown hK hP0 0 rfl rfl 15 (by decide) (hts (.fieldLink RX11 55 "PhaselockModel" "detector" "I") (List.mem_cons_of_mem _ (List.mem_append_left _ (List.mem_of_getElem? (i := 1) rfl)))) (fun _ h9 => h9) rfl dX11_measured_68 ?_
      refine lv_iconst (v := 2) hx hb dX11_measured_71 (by decide) ?_
      refine lv_icmp_ne (tgt := 82) hx hb dX11_measured_72 (by decide) (fun c3_72 => ?_) (fun c3_72 => ?_)
      · refine lv_aload_n hx hb dX11_measured_82 rfl (lv_at hl1 1 rfl) ?_
        refine va_get (D := D) (ci := 11) (v := .int (S.1 22)) (C := RX11) (T := TX11) (N := 37) hx hb hts (fun _ h => List.mem_cons_of_mem _ (List.mem_append_right _ (h))) hown hK hP0 0 rfl rfl 22 (by decide) (hts (.fieldLink RX11 111 "PhaselockModel" "middleLevel" "I") (List.mem_cons_of_mem _ (List.mem_append_left _ (List.mem_of_getElem? (i := 6) rfl)))) (fun _ h9 => h9) rfl dX11_measured_83 ?_
        refine lv_aload_n hx hb dX11_measured_86 rfl (lv_at hl1 1 rfl) ?_
        refine va_calli (va_runV (As := []) (rest := [.int (S.1 22)]) ⟨hx, hb, hml, hown, hts⟩ (k_X11_levelNow l D a cZ cI S s.heap.size) (cwV 0 hts gX11_measured_X11_levelNow rfl rfl rfl (by decide +kernel) ⟨Nat.le_of_ble_eq_true rfl, Nat.le_of_ble_eq_true rfl⟩) ⟨blW okN_T, va_recv hK hP0 (ci := 11) (q0 := 0) rfl rfl, preW hP0 hK hD0 okN_T hN⟩ rfl rfl hl1.1 rfl (lv_room (Nat.le_of_ble_eq_true rfl)) dX11_measured_87 ⟨Nat.zero_le _, Nat.zero_le _⟩) hS0 (aA_in hAc) (aA_free hAc hA hS0) (fun r1 u1 t1 H1 L1 ht1 hvm1 hw1 hB1 _ _ hS1 => ?_)
        obtain ⟨hP1, hD1⟩ := backW hB1 ht1 (aA_free hAc hA hS0)
        clear hB1 ht1 hvm1 t1
        obtain ⟨hu1, hr1⟩ := hw1
        subst u1; subst r1
        clear hP0 hD0 hS0
        refine lv_asi (y := (v_X11_measured_3 S)) rfl ?_
        refine lv_aload_n hx hb dX11_measured_90 rfl (lv_at hl1 1 rfl) ?_
        refine va_get (D := D) (ci := 11) (v := .int (S.1 23)) (C := RX11) (T := TX11) (N := 37) hx hb hts (fun _ h => List.mem_cons_of_mem _ (List.mem_append_right _ (h))) hown hK hP1 0 rfl rfl 23 (by decide) (hts (.fieldLink RX11 118 "PhaselockModel" "keptLevel" "I") (List.mem_cons_of_mem _ (List.mem_append_left _ (List.mem_of_getElem? (i := 7) rfl)))) (fun _ h9 => h9) rfl dX11_measured_91 ?_
        refine lv_isub hx hb dX11_measured_94 ?_
        refine lv_asi (y := (v_X11_measured_4 S)) rfl ?_
        refine lv_imul hx hb dX11_measured_95 ?_
        refine lv_asi (y := (v_X11_measured_5 S)) rfl ?_
        refine lv_asi (y := (v_X11_measured_6 S)) (show (v_X11_measured_6 S) = (v_X11_measured_5 S) from ((if_neg c2_57).trans (if_neg c3_72))).symm ?_
        exact J1_57 _ _ hP1 hD1 hS1
      · refine lv_aload_n hx hb dX11_measured_75 rfl (lv_at hl1 1 rfl) ?_
        refine va_get (D := D) (ci := 11) (v := .int (S.1 19)) (C := RX11) (T := TX11) (N := 37) hx hb hts (fun _ h => List.mem_cons_of_mem _ (List.mem_append_right _ (h))) hown hK hP0 0 rfl rfl 19 (by decide) (hts (.fieldLink RX11 108 "PhaselockModel" "product" "I") (List.mem_cons_of_mem _ (List.mem_append_left _ (List.mem_of_getElem? (i := 5) rfl)))) (fun _ h9 => h9) rfl dX11_measured_76 ?_
        refine lv_goto (tgt := 96) hx hb dX11_measured_79 (by decide) ?_
        refine lv_asi (y := (v_X11_measured_6 S)) (show (v_X11_measured_6 S) = (S.1 19) from ((if_neg c2_57).trans (if_pos c3_72))).symm ?_
        exact J1_57 _ _ hP0 hD0 hS0
    · refine lv_aload_n hx hb dX11_measured_60 rfl (lv_at hl1 1 rfl) ?_
      refine va_get (D := D) (ci := 11) (v := .int (S.1 18)) (C := RX11) (T := TX11) (N := 37) hx hb hts (fun _ h => List.mem_cons_of_mem _ (List.mem_append_right _ (h))) hown hK hP0 0 rfl rfl 18 (by decide) (hts (.fieldLink RX11 105 "PhaselockModel" "edgeError" "I") (List.mem_cons_of_mem _ (List.mem_append_left _ (List.mem_of_getElem? (i := 4) rfl)))) (fun _ h9 => h9) rfl dX11_measured_61 ?_
      refine lv_goto (tgt := 96) hx hb dX11_measured_64 (by decide) ?_
      refine lv_asi (y := (v_X11_measured_6 S)) (show (v_X11_measured_6 S) = (S.1 18) from (if_pos c2_57)).symm ?_
      exact J1_57 _ _ hP0 hD0 hS0
  · refine lv_aload_n hx hb dX11_measured_16 rfl (lv_at hl1 1 rfl) ?_
    refine va_get (D := D) (ci := 11) (v := .int (S.1 24)) (C := RX11) (T := TX11) (N := 37) hx hb hts (fun _ h => List.mem_cons_of_mem _ (List.mem_append_right _ (h))) hown hK hP0 0 rfl rfl 24 (by decide) (hts (.fieldLink RX11 99 "PhaselockModel" "received" "I") (List.mem_cons_of_mem _ (List.mem_append_left _ (List.mem_of_getElem? (i := 2) rfl)))) (fun _ h9 => h9) rfl dX11_measured_17 ?_
    refine lv_iconst (v := 1) hx hb dX11_measured_20 (by decide) ?_
    have J2_21 : W p l e (headSpec wsX11_measured rm_X11_measured).room s m ([.ref (a 0)] : List Value).toArray below meth c s.heap [] 0 0 Q (F0 m 51 ls1 [.int (v_X11_measured_9 S)]) := by
      subst hQ; exact W.iret (v := (v_X11_measured_9 S)) hx hb hr (fun t ht hW => ⟨⟨(v_X11_measured_9 S), S, rfl, ⟨rfl, (show (v_X11_measured_9 S) = r_X11_measured S from (if_pos c1_13).symm)⟩, endW hP0 hK hD0 ht hW⟩, hS0.F ht⟩) hS0.2.2 dX11_measured_51
    refine lv_icmp_eq (tgt := 34) hx hb dX11_measured_21 (by decide) (fun c4_21 => ?_) (fun c4_21 => ?_)
    · refine lv_iconst (v := 0) hx hb dX11_measured_34 (by decide) ?_
      refine lv_goto (tgt := 51) hx hb dX11_measured_35 (by decide) ?_
      refine lv_asi (y := (v_X11_measured_9 S)) (show (v_X11_measured_9 S) = 0 from (if_pos c4_21)).symm ?_
      exact J2_21
    · refine lv_aload_n hx hb dX11_measured_24 rfl (lv_at hl1 1 rfl) ?_
      refine va_get (D := D) (ci := 11) (v := .int (S.1 25)) (C := RX11) (T := TX11) (N := 37) hx hb hts (fun _ h => List.mem_cons_of_mem _ (List.mem_append_right _ (h))) hown hK hP0 0 rfl rfl 25 (by decide) (hts (.fieldLink RX11 96 "PhaselockModel" "bits" "I") (List.mem_cons_of_mem _ (List.mem_append_left _ (List.mem_of_getElem? (i := 0) rfl)))) (fun _ h9 => h9) rfl dX11_measured_25 ?_
      refine lv_iconst (v := 1) hx hb dX11_measured_28 (by decide) ?_
      refine lv_iand hx hb dX11_measured_29 ?_
      refine lv_asi (y := (v_X11_measured_8 S)) rfl ?_
      refine lv_iload_n hx hb dX11_measured_30 rfl (lv_at hl1 0 rfl) ?_
      refine lv_icmp_ne (tgt := 38) hx hb dX11_measured_31 (by decide) (fun c5_31 => ?_) (fun c5_31 => ?_)
      · refine lv_aload_n hx hb dX11_measured_38 rfl (lv_at hl1 1 rfl) ?_
        refine va_get (D := D) (ci := 11) (v := .int (S.1 21)) (C := RX11) (T := TX11) (N := 37) hx hb hts (fun _ h => List.mem_cons_of_mem _ (List.mem_append_right _ (h))) hown hK hP0 0 rfl rfl 21 (by decide) (hts (.fieldLink RX11 102 "PhaselockModel" "middleValue" "I") (List.mem_cons_of_mem _ (List.mem_append_left _ (List.mem_of_getElem? (i := 3) rfl)))) (fun _ h9 => h9) rfl dX11_measured_39 ?_
        refine lv_iload_n hx hb dX11_measured_42 rfl (lv_at hl1 0 rfl) ?_
        refine lv_icmp_ne (tgt := 50) hx hb dX11_measured_43 (by decide) (fun c6_43 => ?_) (fun c6_43 => ?_)
        · refine lv_iconst (v := 1) hx hb dX11_measured_50 (by decide) ?_
          refine lv_asi (y := (v_X11_measured_9 S)) (show (v_X11_measured_9 S) = 1 from ((if_neg c4_21).trans ((if_neg c5_31).trans (if_neg c6_43)))).symm ?_
          exact J2_21
        · refine lv_iconst (v := (-1)) hx hb dX11_measured_46 (by decide) ?_
          refine lv_goto (tgt := 51) hx hb dX11_measured_47 (by decide) ?_
          refine lv_asi (y := (v_X11_measured_9 S)) (show (v_X11_measured_9 S) = (-1) from ((if_neg c4_21).trans ((if_neg c5_31).trans (if_pos c6_43)))).symm ?_
          exact J2_21
      · refine lv_iconst (v := 0) hx hb dX11_measured_34 (by decide) ?_
        refine lv_goto (tgt := 51) hx hb dX11_measured_35 (by decide) ?_
        refine lv_asi (y := (v_X11_measured_9 S)) (show (v_X11_measured_9 S) = 0 from ((if_neg c4_21).trans (if_pos c5_31))).symm ?_
        exact J2_21
