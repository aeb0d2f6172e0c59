def v_X10_run_1 (S : St) (p0 : Int32) : Int32 := r_X10_isWithin S p0 1 800
def itP (S : St) : Nat → St
  | 0 => S
  | i + 1 => s_X10_passTick (itP S i)
def v_X10_run_2 (S : St) (p0 : Int32) : Int32 := ((itP S p0.toNatClampNeg).1 24) - (S.1 24)
def s_X10_run_4 (S : St) (p0 : Int32) (i : Nat) : St := s_X10_passTick (itP S i)
def v_X10_run_5 (S : St) (p0 : Int32) (i : Nat) : Int32 := (nI i) + 1
def s_X10_run (S : St) (p0 : Int32) : St := if (v_X10_run_1 S p0) = 0 then S else (itP S p0.toNatClampNeg)
def r_X10_run (S : St) (p0 : Int32) : Int32 := if (v_X10_run_1 S p0) = 0 then 0 else (v_X10_run_2 S p0)
def x_X10_run (S : St) (p0 : Int32) : Int32 := if (v_X10_run_1 S p0) = 0 then 1 else 0
def rm_X10_run : Room := { frames := 6, cells := 1, slots := 6, locals := 131 }
theorem j9sh {S : St} : (s_X9_shiftRegister S).1 3 = S.1 3 := si_ne (by decide)
theorem j9sn {S : St} : (s_X9_sendNextBit S).1 3 = S.1 3 := by
  have e2 : (s_X9_sendNextBit_2 S).1 3 = S.1 3 := si_ne (by decide)
  unfold s_X9_sendNextBit s_X9_sendNextBit_11
  split
  · exact (si_ne (by decide)).trans (j9sh.trans e2)
  · exact (si_ne (by decide)).trans e2
theorem j9dd {S : St} : (s_X9_drawDeviation S).1 3 = S.1 3 := by
  unfold s_X9_drawDeviation
  split <;> rfl
theorem j9 {S : St} : (s_X9_advance S).1 3 = S.1 3 := by
  have e5 : (s_X9_advance_5 S).1 3 = S.1 3 := (si_ne (by decide)).trans j9dd
  unfold s_X9_advance s_X9_advance_9
  split
  · exact e5
  · exact j9sn.trans ((si_ne (by decide)).trans e5)
theorem j6 {S : St} {p1 : Int32} : (s_X6_watchLine S p1).1 3 = S.1 3 := by
  have e5 : (s_X6_watchLine_5 S p1).1 3 = S.1 3 := by
    unfold s_X6_watchLine_5
    split
    · rfl
    · exact si_ne (by decide)
  unfold s_X6_watchLine s_X6_watchLine_11
  split
  · exact e5
  · exact (si_ne (by decide)).trans e5
theorem j5 {S : St} {p0 : Int32} : (s_X5_advance S p0).1 3 = S.1 3 := by
  have e3 : (s_X5_advance_3 S p0).1 3 = S.1 3 := si_ne (by decide)
  have e12 : (s_X5_advance_12 S p0).1 3 = S.1 3 := (si_ne (by decide)).trans e3
  unfold s_X5_advance
  split
  · split
    · split
      · exact e3
      · exact e3
    · exact e3
  · exact e12
theorem j4 {S : St} {p0 : Int32} : (s_X4_takeError S p0).1 3 = S.1 3 := (si_ne (by decide)).trans ((si_ne (by decide)).trans (si_ne (by decide)))
theorem j0v {S : St} {p0 : Int32} : (s_X0_verify S p0).1 3 = S.1 3 := by
  have e2 : (s_X0_verify_2 S p0).1 3 = S.1 3 := si_ne (by decide)
  unfold s_X0_verify
  split
  · exact si_ne (by decide)
  · unfold s_X0_verify_5
    split
    · exact (si_ne (by decide)).trans ((si_ne (by decide)).trans e2)
    · exact e2
theorem j0w {S : St} {p0 : Int32} : (s_X0_watchSync S p0).1 3 = S.1 3 := by
  have e2 : (s_X0_watchSync_2 S p0).1 3 = S.1 3 := si_ne (by decide)
  unfold s_X0_watchSync
  split
  · unfold s_X0_watchSync_6
    split
    · exact (si_ne (by decide)).trans ((si_ne (by decide)).trans e2)
    · exact e2
  · exact (si_ne (by decide)).trans (si_ne (by decide))
theorem j0 {S : St} {p0 : Int32} : (s_X0_take S p0).1 3 = S.1 3 := by
  have e2 : (s_X0_take_2 S p0).1 3 = S.1 3 := si_ne (by decide)
  have e3 : (s_X0_take_3 S p0).1 3 = S.1 3 := (si_ne (by decide)).trans e2
  unfold s_X0_take
  split
  · unfold s_X0_take_12
    split
    · rfl
    · exact (si_ne (by decide)).trans ((si_ne (by decide)).trans (si_ne (by decide)))
  · split
    · unfold s_X0_take_6
      split
      · exact j0v.trans e3
      · exact j0w.trans e3
    · exact e2
theorem j8 {S : St} {p0 : Int32} : (s_X8_compare S p0).1 3 = S.1 3 := by
  have e4 : (s_X8_compare_4 S p0).1 3 = S.1 3 := (si_ne (by decide)).trans (si_ne (by decide))
  unfold s_X8_compare s_X8_compare_10
  split
  · exact (si_ne (by decide)).trans e4
  · split
    · exact e4
    · exact (si_ne (by decide)).trans e4
theorem j7 {S : St} {p0 p1 : Int32} : (s_X7_add S p0 p1).1 3 = S.1 3 := (si_ne (by decide)).trans ((si_ne (by decide)).trans (si_ne (by decide)))
theorem jd {S : St} : (s_X10_actOnDataStrobe S).1 3 = S.1 3 := by
  have e4 : (s_X10_actOnDataStrobe_4 S).1 3 = S.1 3 := by
    unfold s_X10_actOnDataStrobe_4
    split
    · rfl
    · exact j4
  have e5 : (s_X10_actOnDataStrobe_5 S).1 3 = S.1 3 := ((si_ne (by decide)).trans ((si_ne (by decide)).trans (si_ne (by decide)))).trans e4
  have e6 : (s_X10_actOnDataStrobe_6 S).1 3 = S.1 3 := ((si_ne (by decide)).trans (si_ne (by decide))).trans e5
  exact j0.trans (j7.trans (j8.trans e6))
theorem js {S : St} {p0 : Int32} : (s_X10_actOnStrobe S p0).1 3 = S.1 3 := by
  unfold s_X10_actOnStrobe s_X10_actOnStrobe_9
  split
  · split
    · exact j4
    · rfl
  · split
    · exact (si_ne (by decide)).trans (si_ne (by decide))
    · split
      · exact si_ne (by decide)
      · split
        · exact jd
        · rfl
theorem okJ_tick {S : St} (h : okJ S) : okJ (s_X10_passTick S) := by
  have e2 : (s_X10_passTick_2 S).1 3 = S.1 3 := (si_ne (by decide)).trans j9
  have e4 : (s_X10_passTick_4 S).1 3 = S.1 3 := (show (s_X2_add_2 (s_X10_passTick_2 S) (v_X10_passTick_3 S)).1 3 = S.1 3 from (si_ne (by decide)).trans e2)
  have e : (s_X10_passTick S).1 3 = S.1 3 := js.trans (j5.trans (j6.trans e4))
  unfold okJ
  rw [e]
  exact h
theorem okJ_it {S : St} (h : okJ S) : ∀ i, okJ (itP S i)
  | 0 => h
  | i + 1 => okJ_tick (okJ_it h i)
theorem run_gP {S : St} {p0 : Int32} (c : ¬ v_X10_run_1 S p0 = 0) : p0 = nI p0.toNatClampNeg ∧ p0.toNatClampNeg ≤ 800 := by
  apply run_g
  · intro q
    exact c (if_pos q)
  · intro q
    apply c
    show (if p0 < 1 then (0 : Int32) else if 800 < p0 then 0 else 1) = 0
    rw [if_pos q]
    exact ite_self 0
set_option maxRecDepth 100000 in
set_option maxHeartbeats 4000000 in
theorem k_X10_run (l : Launch) (hfl : l.stackTraces = false) (D : va_G) (a : Nat → Nat) (cZ cI : ClassId) (S : St) (sz : Nat) (p0 : Int32) (hj : okJ S) : vx_Met l yX10_run wsX10_run rm_X10_run (va_Pc [.ref (a 0), .int p0] (pY D (tyZI cZ cI) (wP a cZ cI S) sz (adP a))) (va_Qi (fun (r : Int32) (u : St) => x_X10_run S p0 = 0 ∧ u = s_X10_run S p0 ∧ r = r_X10_run S p0) (fun u t => oW D (tyZI cZ cI) (wP a cZ cI u) (aA (adP a) sz) t) (aA (adP a) sz)) (vx_X (fun u : St => u = S ∧ x_X10_run S p0 = 1) (fun E u t => E = "java/lang/IllegalArgumentException" ∧ oW D (tyZI cZ cI) (wP a cZ cI u) (aA (adP a) sz) t) (aA (adP a) sz)) 1 6 (aA (adP a) sz) := by
  refine vx_ofW (cc := cX10_run) (maxL := 4) (ret := (some .int)) (by decide +kernel) rfl ?_
  intro p e s m args below meth c s₁ B hml hex hv
  obtain ⟨rfl, ⟨hsz, hP0, hK, hD9, hNX⟩, hZ⟩ := hv
  have hN := hNX.1
  have hx := B.exec
  have hb := B.bytes
  have hr := B.returns
  have hts := atoms_spec (ws := wsX10_run) B.pre
  have hown : s.vm.findClass RX10 = some m.cls := findClass_of_methodNamed B.named
  have hlocks := B.notSynchronized
  subst hsz
  have hD0 := aA_self (sz := s.heap.size) (as := adP a) hD9 rfl
  generalize hAe : aA (adP a) s.heap.size = A at hD0 hZ ⊢
  have hA : ∀ q : Nat, s.heap.size ≤ q → A q := fun q h => by rw [← hAe]; exact Or.inr h
  have hAc : ∀ q : Nat, q ∈ adP a → A q := fun q h => by rw [← hAe]; exact Or.inl h
  have hS0 : va_S A s.heap s.heap [] := va_S.rf
  have hl0 := lv_entry ([.ref (a 0), .int p0]) (n := 4) (Nat.le_of_ble_eq_true rfl)
  rw [lg_entry_eq]
  generalize (lg_sl ([.ref (a 0), .int p0]) ++ List.replicate (4 - (lg_sl ([.ref (a 0), .int p0])).length) Slot.unset).toArray = ls0 at hl0 ⊢
  have hl0 : lv_has ls0 4 [(0, .ref (a 0)), (1, .int p0)] := hl0
  generalize hQ : vx_MQ below _ _ _ s _ _ _ = Q
  clear hD9 B
  refine lv_iload_n hx hb dX10_run_0 rfl (lv_at hl0 1 rfl) ?_
  refine lv_iconst (v := 1) hx hb dX10_run_1 (by decide) ?_
  refine lv_sipush (v := 800) hx hb dX10_run_2 (by decide) ?_
  refine va_calli (va_runS (As := [.int p0, .int 1, .int 800]) (rest := []) ⟨hx, hb, hml, hown, hts⟩ (k_X10_isWithin l D a cZ cI S s.heap.size p0 1 800) (va_cwS 3 hts gX10_run_X10_isWithin rfl rfl rfl (by decide +kernel) ⟨Nat.le_of_ble_eq_true rfl, Nat.le_of_ble_eq_true rfl⟩) ⟨blW okN_P, preW hP0 hK hD0 okN_P hN⟩ rfl rfl hl0.1 rfl (lv_room (Nat.le_of_ble_eq_true rfl)) dX10_run_5 ⟨Nat.zero_le _, Nat.zero_le _⟩) hS0 (aA_in hAc) (aA_free hAc hA hS0) (fun r1 u1 t1 H1 L1 ht1 hvm1 hw1 hB1 _ _ hS1 => ?_)
  obtain ⟨hP1, hD1⟩ := backW hB1 ht1 (aA_free hAc hA hS0)
  clear hB1 ht1 hvm1 t1
  obtain ⟨hu1, hr1⟩ := hw1
  subst u1; subst r1
  clear hP0 hD0 hS0
  refine lv_asi (y := (v_X10_run_1 S p0)) rfl ?_
  refine lv_if_ne (tgt := 21) hx hb dX10_run_8 (by decide) (fun c1_8 => ?_) (fun c1_8 => ?_)
  · refine lv_aload_n hx hb dX10_run_21 rfl (lv_at hl0 0 rfl) ?_
    refine va_get (D := D) (ci := 10) (v := .ref (a 7)) (C := RX10) (T := TX10) (N := 10) hx hb hts (fun _ h => List.mem_cons_of_mem _ (List.mem_append_left _ (List.mem_append_left _ (List.mem_append_left _ (List.mem_append_left _ (List.mem_append_left _ (List.mem_append_left _ (List.mem_append_left _ (List.mem_append_left _ (List.mem_append_left _ (List.mem_append_left _ (List.mem_append_left _ (List.mem_append_right _ (h)))))))))))))) hown hK hP1 0 rfl rfl 6 (by decide) (hts (.fieldLink RX10 54 "Phaselock" "bits" "LPhaselock$BitLog;") (List.mem_cons_of_mem _ (List.mem_append_left _ (List.mem_append_left _ (List.mem_append_left _ (List.mem_append_left _ (List.mem_append_left _ (List.mem_append_left _ (List.mem_append_left _ (List.mem_append_left _ (List.mem_append_left _ (List.mem_append_left _ (List.mem_append_left _ (List.mem_append_left _ (List.mem_append_left _ (List.mem_of_getElem? (i := 2) rfl)))))))))))))))) (fun _ h9 => h9) rfl dX10_run_22 ?_
    refine va_get (D := D) (ci := 1) (v := .int (S.1 24)) (C := RX1) (T := TX1) (N := 2) hx hb hts (fun _ h => List.mem_cons_of_mem _ (List.mem_append_left _ (List.mem_append_left _ (List.mem_append_left _ (List.mem_append_left _ (List.mem_append_left _ (List.mem_append_left _ (List.mem_append_left _ (List.mem_append_left _ (List.mem_append_left _ (List.mem_append_left _ (List.mem_append_right _ (h))))))))))))) hown hK hP1 7 rfl rfl 0 (by decide) (hts (.fieldLink RX10 134 "Phaselock$BitLog" "count" "I") (List.mem_cons_of_mem _ (List.mem_append_left _ (List.mem_append_left _ (List.mem_append_left _ (List.mem_append_left _ (List.mem_append_left _ (List.mem_append_left _ (List.mem_append_left _ (List.mem_append_left _ (List.mem_append_left _ (List.mem_append_left _ (List.mem_append_left _ (List.mem_append_left _ (List.mem_append_left _ (List.mem_of_getElem? (i := 3) rfl)))))))))))))))) (fun _ h9 => h9) rfl dX10_run_25 ?_
    refine lv_istore_n (lv' := [(2, .int (S.1 24)), (0, .ref (a 0)), (1, .int p0)]) hx hb dX10_run_28 rfl hl0 (by decide) rfl (fun ls1 hl1 => ?_)
    clear hl0
    refine lv_iconst (v := 0) hx hb dX10_run_29 (by decide) ?_
    refine lv_istore_n (lv' := [(3, .int 0), (2, .int (S.1 24)), (0, .ref (a 0)), (1, .int p0)]) hx hb dX10_run_30 rfl hl1 (by decide) rfl (fun ls2 hl2 => ?_)
    clear hl1
    have LOOP : ∀ (fu i : Nat), i ≤ p0.toNatClampNeg → p0.toNatClampNeg < i + fu → ∀ (H2 : Heap) (L2 : List Loc), va_P D vwCl (wP a cZ cI (itP S i)) H2 → va_D A (wP a cZ cI (itP S i)) → va_S A s.heap H2 L2 → ∀ ls3 : Array Slot, lv_has ls3 4 [(3, .int (nI i)), (2, .int (S.1 24)), (0, .ref (a 0)), (1, .int p0)] → W p l e (headSpec wsX10_run rm_X10_run).room s m ([.ref (a 0), .int p0] : List Value).toArray below meth c H2 L2 0 0 Q (F0 m 31 ls3 []) := by
      clear hP1 hD1 hS1 hl2
      intro fu
      induction fu with
      | zero => exact fun i h1 h2 => absurd h2 (by omega)
      | succ fu ih =>
        intro i hi hin H2 L2 hP2 hD2 hS2 ls3 hl3
        have hg := run_gP c1_8
        refine lv_iload_n hx hb dX10_run_31 rfl (lv_at hl3 0 rfl) ?_
        refine lv_iload_n hx hb dX10_run_32 rfl (lv_at hl3 3 rfl) ?_
        refine lv_icmp_ge (tgt := 46) hx hb dX10_run_33 (by decide) (fun c2_33 => ?_) (fun c2_33 => ?_)
        · have hie : i = p0.toNatClampNeg := lp_geP hg hi c2_33
          subst hie
          refine lv_aload_n hx hb dX10_run_46 rfl (lv_at hl3 2 rfl) ?_
          refine va_get (D := D) (ci := 10) (v := .ref (a 7)) (C := RX10) (T := TX10) (N := 10) hx hb hts (fun _ h => List.mem_cons_of_mem _ (List.mem_append_left _ (List.mem_append_left _ (List.mem_append_left _ (List.mem_append_left _ (List.mem_append_left _ (List.mem_append_left _ (List.mem_append_left _ (List.mem_append_left _ (List.mem_append_left _ (List.mem_append_left _ (List.mem_append_left _ (List.mem_append_right _ (h)))))))))))))) hown hK hP2 0 rfl rfl 6 (by decide) (hts (.fieldLink RX10 54 "Phaselock" "bits" "LPhaselock$BitLog;") (List.mem_cons_of_mem _ (List.mem_append_left _ (List.mem_append_left _ (List.mem_append_left _ (List.mem_append_left _ (List.mem_append_left _ (List.mem_append_left _ (List.mem_append_left _ (List.mem_append_left _ (List.mem_append_left _ (List.mem_append_left _ (List.mem_append_left _ (List.mem_append_left _ (List.mem_append_left _ (List.mem_of_getElem? (i := 2) rfl)))))))))))))))) (fun _ h9 => h9) rfl dX10_run_47 ?_
          refine va_get (D := D) (ci := 1) (v := .int ((itP S p0.toNatClampNeg).1 24)) (C := RX1) (T := TX1) (N := 2) hx hb hts (fun _ h => List.mem_cons_of_mem _ (List.mem_append_left _ (List.mem_append_left _ (List.mem_append_left _ (List.mem_append_left _ (List.mem_append_left _ (List.mem_append_left _ (List.mem_append_left _ (List.mem_append_left _ (List.mem_append_left _ (List.mem_append_left _ (List.mem_append_right _ (h))))))))))))) hown hK hP2 7 rfl rfl 0 (by decide) (hts (.fieldLink RX10 134 "Phaselock$BitLog" "count" "I") (List.mem_cons_of_mem _ (List.mem_append_left _ (List.mem_append_left _ (List.mem_append_left _ (List.mem_append_left _ (List.mem_append_left _ (List.mem_append_left _ (List.mem_append_left _ (List.mem_append_left _ (List.mem_append_left _ (List.mem_append_left _ (List.mem_append_left _ (List.mem_append_left _ (List.mem_append_left _ (List.mem_of_getElem? (i := 3) rfl)))))))))))))))) (fun _ h9 => h9) rfl dX10_run_50 ?_
          refine lv_iload_n hx hb dX10_run_53 rfl (lv_at hl3 1 rfl) ?_
          refine lv_isub hx hb dX10_run_54 ?_
          refine lv_asi (y := (v_X10_run_2 S p0)) rfl ?_
          subst hQ; refine vx_ret (W.widen (k := 1) (n := 6) (by decide) (by decide) ?_); exact W.iret (v := (v_X10_run_2 S p0)) hx hb hr (fun t ht hW => ⟨⟨(v_X10_run_2 S p0), (itP S p0.toNatClampNeg), rfl, ⟨(show x_X10_run S p0 = 0 from (if_neg c1_8)), (show (itP S p0.toNatClampNeg) = s_X10_run S p0 from (if_neg c1_8).symm), (show (v_X10_run_2 S p0) = r_X10_run S p0 from (if_neg c1_8).symm)⟩, endW hP2 hK hD2 ht hW⟩, hS2.F ht⟩) hS2.2.2 dX10_run_55
        · have hlt : i < p0.toNatClampNeg := lp_ltP hg hi c2_33
          refine lv_aload_n hx hb dX10_run_36 rfl (lv_at hl3 2 rfl) ?_
          refine va_callv (va_runV (As := []) (rest := []) ⟨hx, hb, hml, hown, hts⟩ (k_X10_passTick l D a cZ cI (itP S i) H2.size (okJ_it hj i)) (cwV 0 hts gX10_run_X10_passTick rfl rfl rfl (by decide +kernel) ⟨Nat.le_of_ble_eq_true rfl, Nat.le_of_ble_eq_true rfl⟩) ⟨blW okN_P, va_recv hK hP2 (ci := 10) (q0 := 0) rfl rfl, preW hP2 hK hD2 okN_P hN⟩ rfl rfl hl3.1 rfl (lv_room (Nat.le_of_ble_eq_true rfl)) dX10_run_37 ⟨Nat.zero_le _, Nat.zero_le _⟩) hS2 (aA_in hAc) (aA_free hAc hA hS2) (fun u3 t3 H3 L3 ht3 hvm3 hw3 hB3 _ _ hS3 => ?_)
          obtain ⟨hP3, hD3⟩ := backW hB3 ht3 (aA_free hAc hA hS2)
          clear hB3 ht3 hvm3 t3
          have hu3 : u3 = _ := hw3
          clear hw3; subst u3
          replace hP3 : va_P D vwCl (wP a cZ cI (s_X10_run_4 S p0 i)) H3 := hP3
          replace hD3 : va_D A (wP a cZ cI (s_X10_run_4 S p0 i)) := hD3
          clear hP2 hD2 hS2
          refine lv_iinc (v := (v_X10_run_5 S p0 i)) (lv' := [(3, .int (v_X10_run_5 S p0 i)), (2, .int (S.1 24)), (0, .ref (a 0)), (1, .int p0)]) hx hb dX10_run_40 hl3 (k := 0) rfl rfl (by decide) rfl (fun ls4 hl4 => ?_)
          clear hl3
          refine lv_goto (tgt := 31) hx hb dX10_run_43 (by decide) ?_
          exact ih (i + 1) (by omega) (by omega) _ _ (va_asS (P := fun u => va_P D vwCl (wP a cZ cI u) H3) (show (itP S (i + 1)) = (s_X10_run_4 S p0 i) from rfl) hP3) (va_asS (P := fun u => va_D A (wP a cZ cI u)) (show (itP S (i + 1)) = (s_X10_run_4 S p0 i) from rfl) hD3) hS3 _ (by rw [show (nI (i + 1)) = (v_X10_run_5 S p0 i) from (nI_1 i).symm]; exact lv_sub (l' := [(3, .int (v_X10_run_5 S p0 i)), (2, .int (S.1 24)), (0, .ref (a 0)), (1, .int p0)]) hl4 [0, 1, 2, 3] rfl)
    exact LOOP (p0.toNatClampNeg + 1) 0 (Nat.zero_le _) (by omega) _ _ hP1 hD1 hS1 _ (lv_sub (l' := [(3, .int (nI 0)), (2, .int (S.1 24)), (0, .ref (a 0)), (1, .int p0)]) hl2 [0, 1, 2, 3] rfl)
  · obtain ⟨sa, hstr⟩ := sy_132 hNX; subst hQ; exact vx_throwS (A := A) hx hb hfl (own := RX10) (cls := "java/lang/IllegalArgumentException") (text := "ticks is out of range") (names := ["java/lang/RuntimeException", "java/lang/Exception"]) (ik := 83) (is := 132) (ic := 87) (sa := sa) hown (by decide +kernel) (by decide +kernel) (hts (.classLink RX10 83 "java/lang/IllegalArgumentException") (List.mem_cons_of_mem _ (List.mem_append_left _ (List.mem_append_left _ (List.mem_append_left _ (List.mem_append_left _ (List.mem_append_left _ (List.mem_append_left _ (List.mem_append_left _ (List.mem_append_left _ (List.mem_append_left _ (List.mem_append_left _ (List.mem_append_left _ (List.mem_append_left _ (List.mem_append_left _ (List.mem_of_getElem? (i := 0) rfl)))))))))))))))) (hts (.initialized "java/lang/IllegalArgumentException") (List.mem_cons_of_mem _ (List.mem_append_left _ (List.mem_append_left _ (List.mem_append_left _ (List.mem_append_left _ (List.mem_append_left _ (List.mem_append_left _ (List.mem_append_left _ (List.mem_append_left _ (List.mem_append_left _ (List.mem_append_left _ (List.mem_append_left _ (List.mem_append_left _ (List.mem_append_left _ (List.mem_of_getElem? (i := 1) rfl)))))))))))))))) hstr (vx_hat (B := [.castable "java/lang/IllegalArgumentException" "java/lang/IllegalArgumentException", .declares ⟨"java/lang/RuntimeException", "<init>", "(Ljava/lang/String;)V"⟩, .declares ⟨"java/lang/Exception", "<init>", "(Ljava/lang/String;)V"⟩, .declares ⟨"java/lang/Throwable", "<init>", "(Ljava/lang/String;)V"⟩]) (fun w h => hts w (List.mem_cons_of_mem _ (List.mem_append_right _ (h)))) (by decide +kernel) (vx_c (va_Nw.use rfl hNX.2.1) (vx_c (va_Nw.use rfl hNX.2.2.2.2.1) (vx_c (va_Nw.use rfl hNX.2.2.2.2.2.1) (vx_c (va_Nw.use rfl hNX.2.2.2.2.2.2.1) vx_n))))) (by decide +kernel) hZ.1 hZ.2 hS1 (hl0.1.trans hml.symm) dX10_run_11 dX10_run_14 dX10_run_15 dX10_run_17 dX10_run_20 (fun x hx => (hex x hx).elim) (Nat.le_of_ble_eq_true rfl) (Nat.le_of_ble_eq_true rfl) (Nat.le_of_ble_eq_true rfl) (Nat.le_of_ble_eq_true rfl) hlocks (fun t hvm hsz hkp => thrW (px := fun u : St => u = S ∧ x_X10_run S p0 = 1) (P0 := wP a cZ cI) ⟨rfl, (show x_X10_run S p0 = 1 from (if_pos c1_8))⟩ hP1 hK hD1 hS1 hvm hsz hkp) hS1.2.2 (Nat.le_of_ble_eq_true rfl) (Nat.le_of_ble_eq_true rfl)
