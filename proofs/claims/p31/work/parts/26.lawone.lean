def rm_L_isLineSo : Room := { frames := 3, cells := 0, slots := 0, locals := 60 }
set_option maxRecDepth 100000 in
set_option maxHeartbeats 4000000 in
theorem k_L_isLineSo (l : Launch) (hfl : l.stackTraces = false) (D : va_G) (a : Nat → Nat) (cZ cI : ClassId) (sz : Nat) : Met l yL_isLineSo wsL_isLineSo rm_L_isLineSo (va_Pc [.ref (a 0)] (pY D (tyZI cZ cI) (wP a cZ cI st0) sz (adP a))) (va_Qi (fun (r : Int32) (_ : Unit) => r = 1) (fun _ t => oW D (tyZI cZ cI) (wP a cZ cI st0) (aA (adP a) sz) t) (aA (adP a) sz)) 0 0 (aA (adP a) sz) := by
  refine Met.ofW (cc := cL_isLineSo) (maxL := 2) (ret := (some .boolean)) (by decide +kernel) rfl ?_
  intro p e s m args below meth c s₁ B hml hv
  obtain ⟨rfl, ⟨hsz, hP0, hK, hD9, hNY⟩, hZ⟩ := hv
  have hN := hNY.1
  have hx := B.exec
  have hb := B.bytes
  have hr := B.returns
  have hts := atoms_spec (ws := wsL_isLineSo) B.pre
  have hown : s.vm.findClass RL = some m.cls := findClass_of_methodNamed B.named
  have hlocks := B.notSynchronized
  subst hsz
  have hD := aA_self (sz := s.heap.size) (as := adP a) hD9 rfl
  generalize hAe : aA (adP a) s.heap.size = A at hD hZ ⊢
  have hA : ∀ q : Nat, s.heap.size ≤ q → A q := fun q h => by rw [← hAe]; exact Or.inr h
  have hAc : ∀ q : Nat, q ∈ adP a → A q := fun q h => by rw [← hAe]; exact Or.inl h
  have hS0 : va_S A s.heap s.heap [] := va_S.rf
  have hn0 : s.heap.size + 0 ≤ s.heap.size := Nat.le_refl _
  have hl0 := lv_entry ([.ref (a 0)]) (n := 2) (Nat.le_of_ble_eq_true rfl)
  rw [lg_entry_eq]
  generalize (lg_sl ([.ref (a 0)]) ++ List.replicate (2 - (lg_sl ([.ref (a 0)])).length) Slot.unset).toArray = ls0 at hl0 ⊢
  have hl0 : lv_has ls0 2 [(0, .ref (a 0))] := hl0
  generalize hQ : MQ below _ _ s _ _ _ = Q
  clear hD9 B
  refine lv_aload_n hx hb dL_isLineSo_0 rfl (lv_at hl0 0 rfl) ?_
  refine va_calli (va_runV (As := []) (rest := []) ⟨hx, hb, hml, hown, hts⟩ (k_X10_line l D a cZ cI st0 s.heap.size) (cwV 0 hts gL_isLineSo_X10_line rfl rfl rfl (by decide +kernel) ⟨Nat.le_of_ble_eq_true rfl, Nat.le_of_ble_eq_true rfl⟩) ⟨blW okN_P, va_recv hK hP0 (ci := 10) (q0 := 0) rfl rfl, preW hP0 hK hD okN_P hN⟩ rfl rfl hl0.1 rfl (lv_room (Nat.le_of_ble_eq_true rfl)) dL_isLineSo_1 ⟨Nat.le_of_ble_eq_true rfl, Nat.le_of_ble_eq_true rfl⟩) hS0 (aA_in hAc) (aA_free hAc hA hS0) (fun r1 u1 t1 H1 L1 ht1 hvm1 hw1 hB1 hz1 hk1 hS1 => ?_)
  obtain ⟨hu1, hr1⟩ := hw1
  subst u1; subst r1
  have hP1 : va_P D vwCl (wP a cZ cI st0) H1 := (by rw [← ht1]; exact hB1.1)
  have hn1 : s.heap.size + 0 ≤ H1.size := Nat.le_trans hn0 hz1
  clear ht1 hvm1 hB1 hz1 hk1
  refine lv_asi (y := 1) ev_line ?_
  refine lv_if_lt (tgt := 145) hx hb dL_isLineSo_4 (by decide) (fun c1 => absurd c1 (by decide)) (fun c1 => ?_)
  refine lv_aload_n hx hb dL_isLineSo_7 rfl (lv_at hl0 0 rfl) ?_
  refine va_calli (va_runV (As := []) (rest := []) ⟨hx, hb, hml, hown, hts⟩ (k_X10_line l D a cZ cI st0 H1.size) (cwV 0 hts gL_isLineSo_X10_line rfl rfl rfl (by decide +kernel) ⟨Nat.le_of_ble_eq_true rfl, Nat.le_of_ble_eq_true rfl⟩) ⟨blW okN_P, va_recv hK hP1 (ci := 10) (q0 := 0) rfl rfl, preW hP1 hK hD okN_P hN⟩ rfl rfl hl0.1 rfl (lv_room (Nat.le_of_ble_eq_true rfl)) dL_isLineSo_8 ⟨Nat.le_of_ble_eq_true rfl, Nat.le_of_ble_eq_true rfl⟩) hS1 (aA_in hAc) (aA_free hAc hA hS1) (fun r2 u2 t2 H2 L2 ht2 hvm2 hw2 hB2 hz2 hk2 hS2 => ?_)
  obtain ⟨hu2, hr2⟩ := hw2
  subst u2; subst r2
  have hP2 : va_P D vwCl (wP a cZ cI st0) H2 := (by rw [← ht2]; exact hB2.1)
  have hn2 : s.heap.size + 0 ≤ H2.size := Nat.le_trans hn1 hz2
  clear ht2 hvm2 hB2 hz2 hk2
  refine lv_asi (y := 1) ev_line ?_
  refine lv_iconst (v := 2) hx hb dL_isLineSo_11 (by decide) ?_
  refine lv_icmp_ge (tgt := 145) hx hb dL_isLineSo_12 (by decide) (fun c1 => absurd c1 (by decide)) (fun c1 => ?_)
  refine lv_aload_n hx hb dL_isLineSo_15 rfl (lv_at hl0 0 rfl) ?_
  refine va_calli (va_runV (As := []) (rest := []) ⟨hx, hb, hml, hown, hts⟩ (k_X10_level l D a cZ cI st0 H2.size) (cwV 0 hts gL_isLineSo_X10_level rfl rfl rfl (by decide +kernel) ⟨Nat.le_of_ble_eq_true rfl, Nat.le_of_ble_eq_true rfl⟩) ⟨blW okN_P, va_recv hK hP2 (ci := 10) (q0 := 0) rfl rfl, preW hP2 hK hD okN_P hN⟩ rfl rfl hl0.1 rfl (lv_room (Nat.le_of_ble_eq_true rfl)) dL_isLineSo_16 ⟨Nat.le_of_ble_eq_true rfl, Nat.le_of_ble_eq_true rfl⟩) hS2 (aA_in hAc) (aA_free hAc hA hS2) (fun r3 u3 t3 H3 L3 ht3 hvm3 hw3 hB3 hz3 hk3 hS3 => ?_)
  obtain ⟨hu3, hr3⟩ := hw3
  subst u3; subst r3
  have hP3 : va_P D vwCl (wP a cZ cI st0) H3 := (by rw [← ht3]; exact hB3.1)
  have hn3 : s.heap.size + 0 ≤ H3.size := Nat.le_trans hn2 hz3
  clear ht3 hvm3 hB3 hz3 hk3
  refine lv_asi (y := 8) ev_level ?_
  refine lv_iconst (v := 2) hx hb dL_isLineSo_19 (by decide) ?_
  refine lv_irem hx hb dL_isLineSo_20 (by decide) ?_
  refine lv_asi (y := 0) (by decide +kernel) ?_
  refine lv_if_ne (tgt := 145) hx hb dL_isLineSo_21 (by decide) (fun c1 => absurd c1 (by decide)) (fun c1 => ?_)
  refine lv_aload_n hx hb dL_isLineSo_24 rfl (lv_at hl0 0 rfl) ?_
  refine va_calli (va_runV (As := []) (rest := []) ⟨hx, hb, hml, hown, hts⟩ (k_X10_level l D a cZ cI st0 H3.size) (cwV 0 hts gL_isLineSo_X10_level rfl rfl rfl (by decide +kernel) ⟨Nat.le_of_ble_eq_true rfl, Nat.le_of_ble_eq_true rfl⟩) ⟨blW okN_P, va_recv hK hP3 (ci := 10) (q0 := 0) rfl rfl, preW hP3 hK hD okN_P hN⟩ rfl rfl hl0.1 rfl (lv_room (Nat.le_of_ble_eq_true rfl)) dL_isLineSo_25 ⟨Nat.le_of_ble_eq_true rfl, Nat.le_of_ble_eq_true rfl⟩) hS3 (aA_in hAc) (aA_free hAc hA hS3) (fun r4 u4 t4 H4 L4 ht4 hvm4 hw4 hB4 hz4 hk4 hS4 => ?_)
  obtain ⟨hu4, hr4⟩ := hw4
  subst u4; subst r4
  have hP4 : va_P D vwCl (wP a cZ cI st0) H4 := (by rw [← ht4]; exact hB4.1)
  have hn4 : s.heap.size + 0 ≤ H4.size := Nat.le_trans hn3 hz4
  clear ht4 hvm4 hB4 hz4 hk4
  refine lv_asi (y := 8) ev_level ?_
  refine lv_bipush (v := (-8)) hx hb dL_isLineSo_28 (by decide) ?_
  refine lv_icmp_lt (tgt := 145) hx hb dL_isLineSo_30 (by decide) (fun c1 => absurd c1 (by decide)) (fun c1 => ?_)
  refine lv_aload_n hx hb dL_isLineSo_33 rfl (lv_at hl0 0 rfl) ?_
  refine va_calli (va_runV (As := []) (rest := []) ⟨hx, hb, hml, hown, hts⟩ (k_X10_level l D a cZ cI st0 H4.size) (cwV 0 hts gL_isLineSo_X10_level rfl rfl rfl (by decide +kernel) ⟨Nat.le_of_ble_eq_true rfl, Nat.le_of_ble_eq_true rfl⟩) ⟨blW okN_P, va_recv hK hP4 (ci := 10) (q0 := 0) rfl rfl, preW hP4 hK hD okN_P hN⟩ rfl rfl hl0.1 rfl (lv_room (Nat.le_of_ble_eq_true rfl)) dL_isLineSo_34 ⟨Nat.le_of_ble_eq_true rfl, Nat.le_of_ble_eq_true rfl⟩) hS4 (aA_in hAc) (aA_free hAc hA hS4) (fun r5 u5 t5 H5 L5 ht5 hvm5 hw5 hB5 hz5 hk5 hS5 => ?_)
  obtain ⟨hu5, hr5⟩ := hw5
  subst u5; subst r5
  have hP5 : va_P D vwCl (wP a cZ cI st0) H5 := (by rw [← ht5]; exact hB5.1)
  have hn5 : s.heap.size + 0 ≤ H5.size := Nat.le_trans hn4 hz5
  clear ht5 hvm5 hB5 hz5 hk5
  refine lv_asi (y := 8) ev_level ?_
  refine lv_bipush (v := 8) hx hb dL_isLineSo_37 (by decide) ?_
  refine lv_icmp_gt (tgt := 145) hx hb dL_isLineSo_39 (by decide) (fun c1 => absurd c1 (by decide)) (fun c1 => ?_)
  refine lv_aload_n hx hb dL_isLineSo_42 rfl (lv_at hl0 0 rfl) ?_
  refine va_calli (va_runV (As := []) (rest := []) ⟨hx, hb, hml, hown, hts⟩ (k_X10_sender l D a cZ cI st0 H5.size) (cwV 0 hts gL_isLineSo_X10_sender rfl rfl rfl (by decide +kernel) ⟨Nat.le_of_ble_eq_true rfl, Nat.le_of_ble_eq_true rfl⟩) ⟨blW okN_P, va_recv hK hP5 (ci := 10) (q0 := 0) rfl rfl, preW hP5 hK hD okN_P hN⟩ rfl rfl hl0.1 rfl (lv_room (Nat.le_of_ble_eq_true rfl)) dL_isLineSo_43 ⟨Nat.le_of_ble_eq_true rfl, Nat.le_of_ble_eq_true rfl⟩) hS5 (aA_in hAc) (aA_free hAc hA hS5) (fun r6 u6 t6 H6 L6 ht6 hvm6 hw6 hB6 hz6 hk6 hS6 => ?_)
  obtain ⟨hu6, hr6⟩ := hw6
  subst u6; subst r6
  have hP6 : va_P D vwCl (wP a cZ cI st0) H6 := (by rw [← ht6]; exact hB6.1)
  have hn6 : s.heap.size + 0 ≤ H6.size := Nat.le_trans hn5 hz6
  clear ht6 hvm6 hB6 hz6 hk6
  refine lv_asi (y := 0) ev_sender ?_
  refine lv_if_lt (tgt := 145) hx hb dL_isLineSo_46 (by decide) (fun c1 => absurd c1 (by decide)) (fun c1 => ?_)
  refine lv_aload_n hx hb dL_isLineSo_49 rfl (lv_at hl0 0 rfl) ?_
  refine va_calli (va_runV (As := []) (rest := []) ⟨hx, hb, hml, hown, hts⟩ (k_X10_sender l D a cZ cI st0 H6.size) (cwV 0 hts gL_isLineSo_X10_sender rfl rfl rfl (by decide +kernel) ⟨Nat.le_of_ble_eq_true rfl, Nat.le_of_ble_eq_true rfl⟩) ⟨blW okN_P, va_recv hK hP6 (ci := 10) (q0 := 0) rfl rfl, preW hP6 hK hD okN_P hN⟩ rfl rfl hl0.1 rfl (lv_room (Nat.le_of_ble_eq_true rfl)) dL_isLineSo_50 ⟨Nat.le_of_ble_eq_true rfl, Nat.le_of_ble_eq_true rfl⟩) hS6 (aA_in hAc) (aA_free hAc hA hS6) (fun r7 u7 t7 H7 L7 ht7 hvm7 hw7 hB7 hz7 hk7 hS7 => ?_)
  obtain ⟨hu7, hr7⟩ := hw7
  subst u7; subst r7
  have hP7 : va_P D vwCl (wP a cZ cI st0) H7 := (by rw [← ht7]; exact hB7.1)
  have hn7 : s.heap.size + 0 ≤ H7.size := Nat.le_trans hn6 hz7
  clear ht7 hvm7 hB7 hz7 hk7
  refine lv_asi (y := 0) ev_sender ?_
  refine lv_ldc (v := 65536) hx hb hown (hts (.constant RL 61 (65536)) (List.mem_cons_of_mem _ (List.mem_append_left _ (List.mem_append_left _ (List.mem_append_left _ (List.mem_append_left _ (List.mem_append_left _ (List.mem_append_left _ (List.mem_append_left _ (List.mem_of_getElem? (i := 0) rfl)))))))))) dL_isLineSo_53 ?_
  refine lv_icmp_ge (tgt := 145) hx hb dL_isLineSo_55 (by decide) (fun c1 => absurd c1 (by decide)) (fun c1 => ?_)
  refine lv_aload_n hx hb dL_isLineSo_58 rfl (lv_at hl0 0 rfl) ?_
  refine va_calli (va_runV (As := []) (rest := []) ⟨hx, hb, hml, hown, hts⟩ (k_X10_receiver l D a cZ cI st0 H7.size) (cwV 0 hts gL_isLineSo_X10_receiver rfl rfl rfl (by decide +kernel) ⟨Nat.le_of_ble_eq_true rfl, Nat.le_of_ble_eq_true rfl⟩) ⟨blW okN_P, va_recv hK hP7 (ci := 10) (q0 := 0) rfl rfl, preW hP7 hK hD okN_P hN⟩ rfl rfl hl0.1 rfl (lv_room (Nat.le_of_ble_eq_true rfl)) dL_isLineSo_59 ⟨Nat.le_of_ble_eq_true rfl, Nat.le_of_ble_eq_true rfl⟩) hS7 (aA_in hAc) (aA_free hAc hA hS7) (fun r8 u8 t8 H8 L8 ht8 hvm8 hw8 hB8 hz8 hk8 hS8 => ?_)
  obtain ⟨hu8, hr8⟩ := hw8
  subst u8; subst r8
  have hP8 : va_P D vwCl (wP a cZ cI st0) H8 := (by rw [← ht8]; exact hB8.1)
  have hn8 : s.heap.size + 0 ≤ H8.size := Nat.le_trans hn7 hz8
  clear ht8 hvm8 hB8 hz8 hk8
  refine lv_asi (y := 0) ev_receiver ?_
  refine lv_if_lt (tgt := 145) hx hb dL_isLineSo_62 (by decide) (fun c1 => absurd c1 (by decide)) (fun c1 => ?_)
  refine lv_aload_n hx hb dL_isLineSo_65 rfl (lv_at hl0 0 rfl) ?_
  refine va_calli (va_runV (As := []) (rest := []) ⟨hx, hb, hml, hown, hts⟩ (k_X10_receiver l D a cZ cI st0 H8.size) (cwV 0 hts gL_isLineSo_X10_receiver rfl rfl rfl (by decide +kernel) ⟨Nat.le_of_ble_eq_true rfl, Nat.le_of_ble_eq_true rfl⟩) ⟨blW okN_P, va_recv hK hP8 (ci := 10) (q0 := 0) rfl rfl, preW hP8 hK hD okN_P hN⟩ rfl rfl hl0.1 rfl (lv_room (Nat.le_of_ble_eq_true rfl)) dL_isLineSo_66 ⟨Nat.le_of_ble_eq_true rfl, Nat.le_of_ble_eq_true rfl⟩) hS8 (aA_in hAc) (aA_free hAc hA hS8) (fun r9 u9 t9 H9 L9 ht9 hvm9 hw9 hB9 hz9 hk9 hS9 => ?_)
  obtain ⟨hu9, hr9⟩ := hw9
  subst u9; subst r9
  have hP9 : va_P D vwCl (wP a cZ cI st0) H9 := (by rw [← ht9]; exact hB9.1)
  have hn9 : s.heap.size + 0 ≤ H9.size := Nat.le_trans hn8 hz9
  clear ht9 hvm9 hB9 hz9 hk9
  refine lv_asi (y := 0) ev_receiver ?_
  refine lv_ldc (v := 65536) hx hb hown (hts (.constant RL 61 (65536)) (List.mem_cons_of_mem _ (List.mem_append_left _ (List.mem_append_left _ (List.mem_append_left _ (List.mem_append_left _ (List.mem_append_left _ (List.mem_append_left _ (List.mem_append_left _ (List.mem_of_getElem? (i := 0) rfl)))))))))) dL_isLineSo_69 ?_
  refine lv_icmp_ge (tgt := 145) hx hb dL_isLineSo_71 (by decide) (fun c1 => absurd c1 (by decide)) (fun c1 => ?_)
  refine lv_aload_n hx hb dL_isLineSo_74 rfl (lv_at hl0 0 rfl) ?_
  refine va_calli (va_runV (As := []) (rest := []) ⟨hx, hb, hml, hown, hts⟩ (k_X10_integral l D a cZ cI st0 H9.size) (cwV 0 hts gL_isLineSo_X10_integral rfl rfl rfl (by decide +kernel) ⟨Nat.le_of_ble_eq_true rfl, Nat.le_of_ble_eq_true rfl⟩) ⟨blW okN_P, va_recv hK hP9 (ci := 10) (q0 := 0) rfl rfl, preW hP9 hK hD okN_P hN⟩ rfl rfl hl0.1 rfl (lv_room (Nat.le_of_ble_eq_true rfl)) dL_isLineSo_75 ⟨Nat.le_of_ble_eq_true rfl, Nat.le_of_ble_eq_true rfl⟩) hS9 (aA_in hAc) (aA_free hAc hA hS9) (fun r10 u10 t10 H10 L10 ht10 hvm10 hw10 hB10 hz10 hk10 hS10 => ?_)
  obtain ⟨hu10, hr10⟩ := hw10
  subst u10; subst r10
  have hP10 : va_P D vwCl (wP a cZ cI st0) H10 := (by rw [← ht10]; exact hB10.1)
  have hn10 : s.heap.size + 0 ≤ H10.size := Nat.le_trans hn9 hz10
  clear ht10 hvm10 hB10 hz10 hk10
  refine lv_asi (y := 0) ev_integral ?_
  refine lv_ldc (v := (-262144)) hx hb hown (hts (.constant RL 122 (-262144)) (List.mem_cons_of_mem _ (List.mem_append_left _ (List.mem_append_left _ (List.mem_append_left _ (List.mem_append_left _ (List.mem_append_left _ (List.mem_append_left _ (List.mem_append_left _ (List.mem_of_getElem? (i := 1) rfl)))))))))) dL_isLineSo_78 ?_
  refine lv_icmp_lt (tgt := 145) hx hb dL_isLineSo_80 (by decide) (fun c1 => absurd c1 (by decide)) (fun c1 => ?_)
  refine lv_aload_n hx hb dL_isLineSo_83 rfl (lv_at hl0 0 rfl) ?_
  refine va_calli (va_runV (As := []) (rest := []) ⟨hx, hb, hml, hown, hts⟩ (k_X10_integral l D a cZ cI st0 H10.size) (cwV 0 hts gL_isLineSo_X10_integral rfl rfl rfl (by decide +kernel) ⟨Nat.le_of_ble_eq_true rfl, Nat.le_of_ble_eq_true rfl⟩) ⟨blW okN_P, va_recv hK hP10 (ci := 10) (q0 := 0) rfl rfl, preW hP10 hK hD okN_P hN⟩ rfl rfl hl0.1 rfl (lv_room (Nat.le_of_ble_eq_true rfl)) dL_isLineSo_84 ⟨Nat.le_of_ble_eq_true rfl, Nat.le_of_ble_eq_true rfl⟩) hS10 (aA_in hAc) (aA_free hAc hA hS10) (fun r11 u11 t11 H11 L11 ht11 hvm11 hw11 hB11 hz11 hk11 hS11 => ?_)
  obtain ⟨hu11, hr11⟩ := hw11
  subst u11; subst r11
  have hP11 : va_P D vwCl (wP a cZ cI st0) H11 := (by rw [← ht11]; exact hB11.1)
  have hn11 : s.heap.size + 0 ≤ H11.size := Nat.le_trans hn10 hz11
  clear ht11 hvm11 hB11 hz11 hk11
  refine lv_asi (y := 0) ev_integral ?_
  refine lv_ldc (v := 262144) hx hb hown (hts (.constant RL 123 (262144)) (List.mem_cons_of_mem _ (List.mem_append_left _ (List.mem_append_left _ (List.mem_append_left _ (List.mem_append_left _ (List.mem_append_left _ (List.mem_append_left _ (List.mem_append_left _ (List.mem_of_getElem? (i := 2) rfl)))))))))) dL_isLineSo_87 ?_
  refine lv_icmp_gt (tgt := 145) hx hb dL_isLineSo_89 (by decide) (fun c1 => absurd c1 (by decide)) (fun c1 => ?_)
  refine lv_aload_n hx hb dL_isLineSo_92 rfl (lv_at hl0 0 rfl) ?_
  refine va_calli (va_runV (As := []) (rest := []) ⟨hx, hb, hml, hown, hts⟩ (k_X10_control l D a cZ cI st0 H11.size) (cwV 0 hts gL_isLineSo_X10_control rfl rfl rfl (by decide +kernel) ⟨Nat.le_of_ble_eq_true rfl, Nat.le_of_ble_eq_true rfl⟩) ⟨blW okN_P, va_recv hK hP11 (ci := 10) (q0 := 0) rfl rfl, preW hP11 hK hD okN_P hN⟩ rfl rfl hl0.1 rfl (lv_room (Nat.le_of_ble_eq_true rfl)) dL_isLineSo_93 ⟨Nat.le_of_ble_eq_true rfl, Nat.le_of_ble_eq_true rfl⟩) hS11 (aA_in hAc) (aA_free hAc hA hS11) (fun r12 u12 t12 H12 L12 ht12 hvm12 hw12 hB12 hz12 hk12 hS12 => ?_)
  obtain ⟨hu12, hr12⟩ := hw12
  subst u12; subst r12
  have hP12 : va_P D vwCl (wP a cZ cI st0) H12 := (by rw [← ht12]; exact hB12.1)
  have hn12 : s.heap.size + 0 ≤ H12.size := Nat.le_trans hn11 hz12
  clear ht12 hvm12 hB12 hz12 hk12
  refine lv_asi (y := 0) ev_control ?_
  refine lv_sipush (v := (-1024)) hx hb dL_isLineSo_96 (by decide) ?_
  refine lv_icmp_lt (tgt := 145) hx hb dL_isLineSo_99 (by decide) (fun c1 => absurd c1 (by decide)) (fun c1 => ?_)
  refine lv_aload_n hx hb dL_isLineSo_102 rfl (lv_at hl0 0 rfl) ?_
  refine va_calli (va_runV (As := []) (rest := []) ⟨hx, hb, hml, hown, hts⟩ (k_X10_control l D a cZ cI st0 H12.size) (cwV 0 hts gL_isLineSo_X10_control rfl rfl rfl (by decide +kernel) ⟨Nat.le_of_ble_eq_true rfl, Nat.le_of_ble_eq_true rfl⟩) ⟨blW okN_P, va_recv hK hP12 (ci := 10) (q0 := 0) rfl rfl, preW hP12 hK hD okN_P hN⟩ rfl rfl hl0.1 rfl (lv_room (Nat.le_of_ble_eq_true rfl)) dL_isLineSo_103 ⟨Nat.le_of_ble_eq_true rfl, Nat.le_of_ble_eq_true rfl⟩) hS12 (aA_in hAc) (aA_free hAc hA hS12) (fun r13 u13 t13 H13 L13 ht13 hvm13 hw13 hB13 hz13 hk13 hS13 => ?_)
  obtain ⟨hu13, hr13⟩ := hw13
  subst u13; subst r13
  have hP13 : va_P D vwCl (wP a cZ cI st0) H13 := (by rw [← ht13]; exact hB13.1)
  have hn13 : s.heap.size + 0 ≤ H13.size := Nat.le_trans hn12 hz13
  clear ht13 hvm13 hB13 hz13 hk13
  refine lv_asi (y := 0) ev_control ?_
  refine lv_sipush (v := 1024) hx hb dL_isLineSo_106 (by decide) ?_
  refine lv_icmp_gt (tgt := 145) hx hb dL_isLineSo_109 (by decide) (fun c1 => absurd c1 (by decide)) (fun c1 => ?_)
  refine lv_aload_n hx hb dL_isLineSo_112 rfl (lv_at hl0 0 rfl) ?_
  refine va_calli (va_runV (As := []) (rest := []) ⟨hx, hb, hml, hown, hts⟩ (k_X10_error l D a cZ cI st0 H13.size) (cwV 0 hts gL_isLineSo_X10_error rfl rfl rfl (by decide +kernel) ⟨Nat.le_of_ble_eq_true rfl, Nat.le_of_ble_eq_true rfl⟩) ⟨blW okN_P, va_recv hK hP13 (ci := 10) (q0 := 0) rfl rfl, preW hP13 hK hD okN_P hN⟩ rfl rfl hl0.1 rfl (lv_room (Nat.le_of_ble_eq_true rfl)) dL_isLineSo_113 ⟨Nat.le_of_ble_eq_true rfl, Nat.le_of_ble_eq_true rfl⟩) hS13 (aA_in hAc) (aA_free hAc hA hS13) (fun r14 u14 t14 H14 L14 ht14 hvm14 hw14 hB14 hz14 hk14 hS14 => ?_)
  obtain ⟨hu14, hr14⟩ := hw14
  subst u14; subst r14
  have hP14 : va_P D vwCl (wP a cZ cI st0) H14 := (by rw [← ht14]; exact hB14.1)
  have hn14 : s.heap.size + 0 ≤ H14.size := Nat.le_trans hn13 hz14
  clear ht14 hvm14 hB14 hz14 hk14
  refine lv_asi (y := 0) ev_error ?_
  refine lv_bipush (v := (-128)) hx hb dL_isLineSo_116 (by decide) ?_
  refine lv_aload_n hx hb dL_isLineSo_118 rfl (lv_at hl0 0 rfl) ?_
  refine va_calli (va_runV (As := []) (rest := [.int (-128), .int 0]) ⟨hx, hb, hml, hown, hts⟩ (k_X10_ticks l D a cZ cI st0 H14.size) (cwV 0 hts gL_isLineSo_X10_ticks rfl rfl rfl (by decide +kernel) ⟨Nat.le_of_ble_eq_true rfl, Nat.le_of_ble_eq_true rfl⟩) ⟨blW okN_P, va_recv hK hP14 (ci := 10) (q0 := 0) rfl rfl, preW hP14 hK hD okN_P hN⟩ rfl rfl hl0.1 rfl (lv_room (Nat.le_of_ble_eq_true rfl)) dL_isLineSo_119 ⟨Nat.le_of_ble_eq_true rfl, Nat.le_of_ble_eq_true rfl⟩) hS14 (aA_in hAc) (aA_free hAc hA hS14) (fun r15 u15 t15 H15 L15 ht15 hvm15 hw15 hB15 hz15 hk15 hS15 => ?_)
  obtain ⟨hu15, hr15⟩ := hw15
  subst u15; subst r15
  have hP15 : va_P D vwCl (wP a cZ cI st0) H15 := (by rw [← ht15]; exact hB15.1)
  have hn15 : s.heap.size + 0 ≤ H15.size := Nat.le_trans hn14 hz15
  clear ht15 hvm15 hB15 hz15 hk15
  refine lv_asi (y := 0) ev_ticks ?_
  refine lv_isub hx hb dL_isLineSo_122 ?_
  refine lv_asi (y := (-128)) (by decide +kernel) ?_
  refine lv_icmp_lt (tgt := 145) hx hb dL_isLineSo_123 (by decide) (fun c1 => absurd c1 (by decide)) (fun c1 => ?_)
  refine lv_aload_n hx hb dL_isLineSo_126 rfl (lv_at hl0 0 rfl) ?_
  refine va_calli (va_runV (As := []) (rest := []) ⟨hx, hb, hml, hown, hts⟩ (k_X10_error l D a cZ cI st0 H15.size) (cwV 0 hts gL_isLineSo_X10_error rfl rfl rfl (by decide +kernel) ⟨Nat.le_of_ble_eq_true rfl, Nat.le_of_ble_eq_true rfl⟩) ⟨blW okN_P, va_recv hK hP15 (ci := 10) (q0 := 0) rfl rfl, preW hP15 hK hD okN_P hN⟩ rfl rfl hl0.1 rfl (lv_room (Nat.le_of_ble_eq_true rfl)) dL_isLineSo_127 ⟨Nat.le_of_ble_eq_true rfl, Nat.le_of_ble_eq_true rfl⟩) hS15 (aA_in hAc) (aA_free hAc hA hS15) (fun r16 u16 t16 H16 L16 ht16 hvm16 hw16 hB16 hz16 hk16 hS16 => ?_)
  obtain ⟨hu16, hr16⟩ := hw16
  subst u16; subst r16
  have hP16 : va_P D vwCl (wP a cZ cI st0) H16 := (by rw [← ht16]; exact hB16.1)
  have hn16 : s.heap.size + 0 ≤ H16.size := Nat.le_trans hn15 hz16
  clear ht16 hvm16 hB16 hz16 hk16
  refine lv_asi (y := 0) ev_error ?_
  refine lv_sipush (v := 128) hx hb dL_isLineSo_130 (by decide) ?_
  refine lv_aload_n hx hb dL_isLineSo_133 rfl (lv_at hl0 0 rfl) ?_
  refine va_calli (va_runV (As := []) (rest := [.int 128, .int 0]) ⟨hx, hb, hml, hown, hts⟩ (k_X10_ticks l D a cZ cI st0 H16.size) (cwV 0 hts gL_isLineSo_X10_ticks rfl rfl rfl (by decide +kernel) ⟨Nat.le_of_ble_eq_true rfl, Nat.le_of_ble_eq_true rfl⟩) ⟨blW okN_P, va_recv hK hP16 (ci := 10) (q0 := 0) rfl rfl, preW hP16 hK hD okN_P hN⟩ rfl rfl hl0.1 rfl (lv_room (Nat.le_of_ble_eq_true rfl)) dL_isLineSo_134 ⟨Nat.le_of_ble_eq_true rfl, Nat.le_of_ble_eq_true rfl⟩) hS16 (aA_in hAc) (aA_free hAc hA hS16) (fun r17 u17 t17 H17 L17 ht17 hvm17 hw17 hB17 hz17 hk17 hS17 => ?_)
  obtain ⟨hu17, hr17⟩ := hw17
  subst u17; subst r17
  have hP17 : va_P D vwCl (wP a cZ cI st0) H17 := (by rw [← ht17]; exact hB17.1)
  have hn17 : s.heap.size + 0 ≤ H17.size := Nat.le_trans hn16 hz17
  clear ht17 hvm17 hB17 hz17 hk17
  refine lv_asi (y := 0) ev_ticks ?_
  refine lv_iadd hx hb dL_isLineSo_137 ?_
  refine lv_asi (y := 128) (by decide +kernel) ?_
  refine lv_icmp_gt (tgt := 145) hx hb dL_isLineSo_138 (by decide) (fun c1 => absurd c1 (by decide)) (fun c1 => ?_)
  refine lv_iconst (v := 1) hx hb dL_isLineSo_141 (by decide) ?_
  refine lv_goto (tgt := 146) hx hb dL_isLineSo_142 (by decide) ?_
  refine lv_istore_n (lv' := [(1, .int 1), (0, .ref (a 0))]) hx hb dL_isLineSo_146 rfl hl0 (by decide) rfl (fun ls1 hl1 => ?_)
  refine lv_iload_n hx hb dL_isLineSo_147 rfl (lv_at hl1 0 rfl) ?_
  refine lv_if_eq (tgt := 206) hx hb dL_isLineSo_148 (by decide) (fun c1 => absurd c1 (by decide)) (fun c1 => ?_)
  refine lv_aload_n hx hb dL_isLineSo_151 rfl (lv_at hl1 1 rfl) ?_
  refine va_calli (va_runV (As := []) (rest := []) ⟨hx, hb, hml, hown, hts⟩ (k_X10_sent l D a cZ cI st0 H17.size) (cwV 0 hts gL_isLineSo_X10_sent rfl rfl rfl (by decide +kernel) ⟨Nat.le_of_ble_eq_true rfl, Nat.le_of_ble_eq_true rfl⟩) ⟨blW okN_P, va_recv hK hP17 (ci := 10) (q0 := 0) rfl rfl, preW hP17 hK hD okN_P hN⟩ rfl rfl hl1.1 rfl (lv_room (Nat.le_of_ble_eq_true rfl)) dL_isLineSo_152 ⟨Nat.le_of_ble_eq_true rfl, Nat.le_of_ble_eq_true rfl⟩) hS17 (aA_in hAc) (aA_free hAc hA hS17) (fun r18 u18 t18 H18 L18 ht18 hvm18 hw18 hB18 hz18 hk18 hS18 => ?_)
  obtain ⟨hu18, hr18⟩ := hw18
  subst u18; subst r18
  have hP18 : va_P D vwCl (wP a cZ cI st0) H18 := (by rw [← ht18]; exact hB18.1)
  have hn18 : s.heap.size + 0 ≤ H18.size := Nat.le_trans hn17 hz18
  clear ht18 hvm18 hB18 hz18 hk18
  refine lv_asi (y := 0) ev_sent ?_
  refine lv_if_lt (tgt := 206) hx hb dL_isLineSo_155 (by decide) (fun c1 => absurd c1 (by decide)) (fun c1 => ?_)
  refine lv_aload_n hx hb dL_isLineSo_158 rfl (lv_at hl1 1 rfl) ?_
  refine va_calli (va_runV (As := []) (rest := []) ⟨hx, hb, hml, hown, hts⟩ (k_X10_sent l D a cZ cI st0 H18.size) (cwV 0 hts gL_isLineSo_X10_sent rfl rfl rfl (by decide +kernel) ⟨Nat.le_of_ble_eq_true rfl, Nat.le_of_ble_eq_true rfl⟩) ⟨blW okN_P, va_recv hK hP18 (ci := 10) (q0 := 0) rfl rfl, preW hP18 hK hD okN_P hN⟩ rfl rfl hl1.1 rfl (lv_room (Nat.le_of_ble_eq_true rfl)) dL_isLineSo_159 ⟨Nat.le_of_ble_eq_true rfl, Nat.le_of_ble_eq_true rfl⟩) hS18 (aA_in hAc) (aA_free hAc hA hS18) (fun r19 u19 t19 H19 L19 ht19 hvm19 hw19 hB19 hz19 hk19 hS19 => ?_)
  obtain ⟨hu19, hr19⟩ := hw19
  subst u19; subst r19
  have hP19 : va_P D vwCl (wP a cZ cI st0) H19 := (by rw [← ht19]; exact hB19.1)
  have hn19 : s.heap.size + 0 ≤ H19.size := Nat.le_trans hn18 hz19
  clear ht19 hvm19 hB19 hz19 hk19
  refine lv_asi (y := 0) ev_sent ?_
  refine lv_aload_n hx hb dL_isLineSo_162 rfl (lv_at hl1 1 rfl) ?_
  refine va_calli (va_runV (As := []) (rest := [.int 0]) ⟨hx, hb, hml, hown, hts⟩ (k_X10_ticks l D a cZ cI st0 H19.size) (cwV 0 hts gL_isLineSo_X10_ticks rfl rfl rfl (by decide +kernel) ⟨Nat.le_of_ble_eq_true rfl, Nat.le_of_ble_eq_true rfl⟩) ⟨blW okN_P, va_recv hK hP19 (ci := 10) (q0 := 0) rfl rfl, preW hP19 hK hD okN_P hN⟩ rfl rfl hl1.1 rfl (lv_room (Nat.le_of_ble_eq_true rfl)) dL_isLineSo_163 ⟨Nat.le_of_ble_eq_true rfl, Nat.le_of_ble_eq_true rfl⟩) hS19 (aA_in hAc) (aA_free hAc hA hS19) (fun r20 u20 t20 H20 L20 ht20 hvm20 hw20 hB20 hz20 hk20 hS20 => ?_)
  obtain ⟨hu20, hr20⟩ := hw20
  subst u20; subst r20
  have hP20 : va_P D vwCl (wP a cZ cI st0) H20 := (by rw [← ht20]; exact hB20.1)
  have hn20 : s.heap.size + 0 ≤ H20.size := Nat.le_trans hn19 hz20
  clear ht20 hvm20 hB20 hz20 hk20
  refine lv_asi (y := 0) ev_ticks ?_
  refine lv_icmp_gt (tgt := 206) hx hb dL_isLineSo_166 (by decide) (fun c1 => absurd c1 (by decide)) (fun c1 => ?_)
  refine lv_aload_n hx hb dL_isLineSo_169 rfl (lv_at hl1 1 rfl) ?_
  refine va_calli (va_runV (As := []) (rest := []) ⟨hx, hb, hml, hown, hts⟩ (k_X10_level l D a cZ cI st0 H20.size) (cwV 0 hts gL_isLineSo_X10_level rfl rfl rfl (by decide +kernel) ⟨Nat.le_of_ble_eq_true rfl, Nat.le_of_ble_eq_true rfl⟩) ⟨blW okN_P, va_recv hK hP20 (ci := 10) (q0 := 0) rfl rfl, preW hP20 hK hD okN_P hN⟩ rfl rfl hl1.1 rfl (lv_room (Nat.le_of_ble_eq_true rfl)) dL_isLineSo_170 ⟨Nat.le_of_ble_eq_true rfl, Nat.le_of_ble_eq_true rfl⟩) hS20 (aA_in hAc) (aA_free hAc hA hS20) (fun r21 u21 t21 H21 L21 ht21 hvm21 hw21 hB21 hz21 hk21 hS21 => ?_)
  obtain ⟨hu21, hr21⟩ := hw21
  subst u21; subst r21
  have hP21 : va_P D vwCl (wP a cZ cI st0) H21 := (by rw [← ht21]; exact hB21.1)
  have hn21 : s.heap.size + 0 ≤ H21.size := Nat.le_trans hn20 hz21
  clear ht21 hvm21 hB21 hz21 hk21
  refine lv_asi (y := 8) ev_level ?_
  refine lv_bipush (v := 8) hx hb dL_isLineSo_173 (by decide) ?_
  refine lv_icmp_lt (tgt := 186) hx hb dL_isLineSo_175 (by decide) (fun c1 => absurd c1 (by decide)) (fun c1 => ?_)
  refine lv_aload_n hx hb dL_isLineSo_178 rfl (lv_at hl1 1 rfl) ?_
  refine va_calli (va_runV (As := []) (rest := []) ⟨hx, hb, hml, hown, hts⟩ (k_X10_line l D a cZ cI st0 H21.size) (cwV 0 hts gL_isLineSo_X10_line rfl rfl rfl (by decide +kernel) ⟨Nat.le_of_ble_eq_true rfl, Nat.le_of_ble_eq_true rfl⟩) ⟨blW okN_P, va_recv hK hP21 (ci := 10) (q0 := 0) rfl rfl, preW hP21 hK hD okN_P hN⟩ rfl rfl hl1.1 rfl (lv_room (Nat.le_of_ble_eq_true rfl)) dL_isLineSo_179 ⟨Nat.le_of_ble_eq_true rfl, Nat.le_of_ble_eq_true rfl⟩) hS21 (aA_in hAc) (aA_free hAc hA hS21) (fun r22 u22 t22 H22 L22 ht22 hvm22 hw22 hB22 hz22 hk22 hS22 => ?_)
  obtain ⟨hu22, hr22⟩ := hw22
  subst u22; subst r22
  have hP22 : va_P D vwCl (wP a cZ cI st0) H22 := (by rw [← ht22]; exact hB22.1)
  have hn22 : s.heap.size + 0 ≤ H22.size := Nat.le_trans hn21 hz22
  clear ht22 hvm22 hB22 hz22 hk22
  refine lv_asi (y := 1) ev_line ?_
  refine lv_iconst (v := 1) hx hb dL_isLineSo_182 (by decide) ?_
  refine lv_icmp_ne (tgt := 206) hx hb dL_isLineSo_183 (by decide) (fun c1 => absurd c1 (by decide)) (fun c1 => ?_)
  refine lv_aload_n hx hb dL_isLineSo_186 rfl (lv_at hl1 1 rfl) ?_
  refine va_calli (va_runV (As := []) (rest := []) ⟨hx, hb, hml, hown, hts⟩ (k_X10_level l D a cZ cI st0 H22.size) (cwV 0 hts gL_isLineSo_X10_level rfl rfl rfl (by decide +kernel) ⟨Nat.le_of_ble_eq_true rfl, Nat.le_of_ble_eq_true rfl⟩) ⟨blW okN_P, va_recv hK hP22 (ci := 10) (q0 := 0) rfl rfl, preW hP22 hK hD okN_P hN⟩ rfl rfl hl1.1 rfl (lv_room (Nat.le_of_ble_eq_true rfl)) dL_isLineSo_187 ⟨Nat.le_of_ble_eq_true rfl, Nat.le_of_ble_eq_true rfl⟩) hS22 (aA_in hAc) (aA_free hAc hA hS22) (fun r23 u23 t23 H23 L23 ht23 hvm23 hw23 hB23 hz23 hk23 hS23 => ?_)
  obtain ⟨hu23, hr23⟩ := hw23
  subst u23; subst r23
  have hP23 : va_P D vwCl (wP a cZ cI st0) H23 := (by rw [← ht23]; exact hB23.1)
  have hn23 : s.heap.size + 0 ≤ H23.size := Nat.le_trans hn22 hz23
  clear ht23 hvm23 hB23 hz23 hk23
  refine lv_asi (y := 8) ev_level ?_
  refine lv_bipush (v := (-8)) hx hb dL_isLineSo_190 (by decide) ?_
  refine lv_icmp_gt (tgt := 202) hx hb dL_isLineSo_192 (by decide) (fun c1 => ?_) (fun c1 => absurd c1 (by decide))
  refine lv_iconst (v := 1) hx hb dL_isLineSo_202 (by decide) ?_
  refine lv_goto (tgt := 207) hx hb dL_isLineSo_203 (by decide) ?_
  subst hQ; exact W.zret (v := 1) hx hb hr (by decide) (fun t ht hW => ⟨⟨1, (), rfl, rfl, endW hP23 hK hD ht hW⟩, hS23.F ht⟩) hS23.2.2 dL_isLineSo_207

def rm_L_areBitsSo : Room := { frames := 8, cells := 35, slots := 210, locals := 125 }
set_option maxRecDepth 100000 in
set_option maxHeartbeats 4000000 in
theorem k_L_areBitsSo (l : Launch) (hfl : l.stackTraces = false) (D : va_G) (a : Nat → Nat) (cZ cI : ClassId) (sz : Nat) : Met l yL_areBitsSo wsL_areBitsSo rm_L_areBitsSo (va_Pc [.ref (a 0)] (pY D (tyZI cZ cI) (wP a cZ cI st0) sz (adP a))) (va_Qi (fun (r : Int32) (_ : Unit) => r = 1) (fun _ t => oW D (tyZI cZ cI) (wP a cZ cI st0) (aA (adP a) sz) t ∧ sz + 35 ≤ t.heap.size) (aA (adP a) sz)) 35 210 (aA (adP a) sz) := by
  refine Met.ofW (cc := cL_areBitsSo) (maxL := 5) (ret := (some .boolean)) (by decide +kernel) rfl ?_
  intro p e s m args below meth c s₁ B hml hv
  obtain ⟨rfl, ⟨hsz, hP0, hK, hD9, hNY⟩, hZ⟩ := hv
  have hN := hNY.1
  have hx := B.exec
  have hb := B.bytes
  have hr := B.returns
  have hts := atoms_spec (ws := wsL_areBitsSo) B.pre
  have hown : s.vm.findClass RL = some m.cls := findClass_of_methodNamed B.named
  have hlocks := B.notSynchronized
  subst hsz
  have hD := aA_self (sz := s.heap.size) (as := adP a) hD9 rfl
  generalize hAe : aA (adP a) s.heap.size = A at hD hZ ⊢
  have hA : ∀ q : Nat, s.heap.size ≤ q → A q := fun q h => by rw [← hAe]; exact Or.inr h
  have hAc : ∀ q : Nat, q ∈ adP a → A q := fun q h => by rw [← hAe]; exact Or.inl h
  have hS0 : va_S A s.heap s.heap [] := va_S.rf
  have hn0 : s.heap.size + 0 ≤ s.heap.size := Nat.le_refl _
  have hl0 := lv_entry ([.ref (a 0)]) (n := 5) (Nat.le_of_ble_eq_true rfl)
  rw [lg_entry_eq]
  generalize (lg_sl ([.ref (a 0)]) ++ List.replicate (5 - (lg_sl ([.ref (a 0)])).length) Slot.unset).toArray = ls0 at hl0 ⊢
  have hl0 : lv_has ls0 5 [(0, .ref (a 0))] := hl0
  generalize hQ : MQ below _ _ s _ _ _ = Q
  clear hD9 B
  refine lv_aload_n hx hb dL_areBitsSo_0 rfl (lv_at hl0 0 rfl) ?_
  refine va_calli (va_runV (As := []) (rest := []) ⟨hx, hb, hml, hown, hts⟩ (k_X10_received l D a cZ cI st0 s.heap.size) (cwV 0 hts gL_areBitsSo_X10_received rfl rfl rfl (by decide +kernel) ⟨Nat.le_of_ble_eq_true rfl, Nat.le_of_ble_eq_true rfl⟩) ⟨blW okN_P, va_recv hK hP0 (ci := 10) (q0 := 0) rfl rfl, preW hP0 hK hD okN_P hN⟩ rfl rfl hl0.1 rfl (lv_room (Nat.le_of_ble_eq_true rfl)) dL_areBitsSo_1 ⟨Nat.le_of_ble_eq_true rfl, Nat.le_of_ble_eq_true rfl⟩) hS0 (aA_in hAc) (aA_free hAc hA hS0) (fun r1 u1 t1 H1 L1 ht1 hvm1 hw1 hB1 hz1 hk1 hS1 => ?_)
  obtain ⟨hu1, hr1⟩ := hw1
  subst u1; subst r1
  have hP1 : va_P D vwCl (wP a cZ cI st0) H1 := (by rw [← ht1]; exact hB1.1)
  have hn1 : s.heap.size + 0 ≤ H1.size := Nat.le_trans hn0 hz1
  clear ht1 hvm1 hB1 hz1 hk1
  refine lv_asi (y := 0) ev_received ?_
  refine lv_istore_n (lv' := [(1, .int 0), (0, .ref (a 0))]) hx hb dL_areBitsSo_4 rfl hl0 (by decide) rfl (fun ls1 hl1 => ?_)
  refine lv_iload_n hx hb dL_areBitsSo_5 rfl (lv_at hl1 0 rfl) ?_
  refine lv_if_lt (tgt := 96) hx hb dL_areBitsSo_6 (by decide) (fun c1 => absurd c1 (by decide)) (fun c1 => ?_)
  refine lv_iload_n hx hb dL_areBitsSo_9 rfl (lv_at hl1 0 rfl) ?_
  refine lv_aload_n hx hb dL_areBitsSo_10 rfl (lv_at hl1 1 rfl) ?_
  refine va_calli (va_runV (As := []) (rest := [.int 0]) ⟨hx, hb, hml, hown, hts⟩ (k_X10_ticks l D a cZ cI st0 H1.size) (cwV 0 hts gL_areBitsSo_X10_ticks rfl rfl rfl (by decide +kernel) ⟨Nat.le_of_ble_eq_true rfl, Nat.le_of_ble_eq_true rfl⟩) ⟨blW okN_P, va_recv hK hP1 (ci := 10) (q0 := 0) rfl rfl, preW hP1 hK hD okN_P hN⟩ rfl rfl hl1.1 rfl (lv_room (Nat.le_of_ble_eq_true rfl)) dL_areBitsSo_11 ⟨Nat.le_of_ble_eq_true rfl, Nat.le_of_ble_eq_true rfl⟩) hS1 (aA_in hAc) (aA_free hAc hA hS1) (fun r2 u2 t2 H2 L2 ht2 hvm2 hw2 hB2 hz2 hk2 hS2 => ?_)
  obtain ⟨hu2, hr2⟩ := hw2
  subst u2; subst r2
  have hP2 : va_P D vwCl (wP a cZ cI st0) H2 := (by rw [← ht2]; exact hB2.1)
  have hn2 : s.heap.size + 0 ≤ H2.size := Nat.le_trans hn1 hz2
  clear ht2 hvm2 hB2 hz2 hk2
  refine lv_asi (y := 0) ev_ticks ?_
  refine lv_icmp_gt (tgt := 96) hx hb dL_areBitsSo_14 (by decide) (fun c1 => absurd c1 (by decide)) (fun c1 => ?_)
  refine lv_aload_n hx hb dL_areBitsSo_17 rfl (lv_at hl1 1 rfl) ?_
  refine va_calli (va_runV (As := []) (rest := []) ⟨hx, hb, hml, hown, hts⟩ (k_X10_repeated l D a cZ cI st0 H2.size) (cwV 0 hts gL_areBitsSo_X10_repeated rfl rfl rfl (by decide +kernel) ⟨Nat.le_of_ble_eq_true rfl, Nat.le_of_ble_eq_true rfl⟩) ⟨blW okN_P, va_recv hK hP2 (ci := 10) (q0 := 0) rfl rfl, preW hP2 hK hD okN_P hN⟩ rfl rfl hl1.1 rfl (lv_room (Nat.le_of_ble_eq_true rfl)) dL_areBitsSo_18 ⟨Nat.le_of_ble_eq_true rfl, Nat.le_of_ble_eq_true rfl⟩) hS2 (aA_in hAc) (aA_free hAc hA hS2) (fun r3 u3 t3 H3 L3 ht3 hvm3 hw3 hB3 hz3 hk3 hS3 => ?_)
  obtain ⟨hu3, hr3⟩ := hw3
  subst u3; subst r3
  have hP3 : va_P D vwCl (wP a cZ cI st0) H3 := (by rw [← ht3]; exact hB3.1)
  have hn3 : s.heap.size + 0 ≤ H3.size := Nat.le_trans hn2 hz3
  clear ht3 hvm3 hB3 hz3 hk3
  refine lv_asi (y := 0) ev_repeated ?_
  refine lv_if_lt (tgt := 96) hx hb dL_areBitsSo_21 (by decide) (fun c1 => absurd c1 (by decide)) (fun c1 => ?_)
  refine lv_aload_n hx hb dL_areBitsSo_24 rfl (lv_at hl1 1 rfl) ?_
  refine va_calli (va_runV (As := []) (rest := []) ⟨hx, hb, hml, hown, hts⟩ (k_X10_repeated l D a cZ cI st0 H3.size) (cwV 0 hts gL_areBitsSo_X10_repeated rfl rfl rfl (by decide +kernel) ⟨Nat.le_of_ble_eq_true rfl, Nat.le_of_ble_eq_true rfl⟩) ⟨blW okN_P, va_recv hK hP3 (ci := 10) (q0 := 0) rfl rfl, preW hP3 hK hD okN_P hN⟩ rfl rfl hl1.1 rfl (lv_room (Nat.le_of_ble_eq_true rfl)) dL_areBitsSo_25 ⟨Nat.le_of_ble_eq_true rfl, Nat.le_of_ble_eq_true rfl⟩) hS3 (aA_in hAc) (aA_free hAc hA hS3) (fun r4 u4 t4 H4 L4 ht4 hvm4 hw4 hB4 hz4 hk4 hS4 => ?_)
  obtain ⟨hu4, hr4⟩ := hw4
  subst u4; subst r4
  have hP4 : va_P D vwCl (wP a cZ cI st0) H4 := (by rw [← ht4]; exact hB4.1)
  have hn4 : s.heap.size + 0 ≤ H4.size := Nat.le_trans hn3 hz4
  clear ht4 hvm4 hB4 hz4 hk4
  refine lv_asi (y := 0) ev_repeated ?_
  refine lv_iload_n hx hb dL_areBitsSo_28 rfl (lv_at hl1 0 rfl) ?_
  refine lv_icmp_gt (tgt := 96) hx hb dL_areBitsSo_29 (by decide) (fun c1 => absurd c1 (by decide)) (fun c1 => ?_)
  refine lv_aload_n hx hb dL_areBitsSo_32 rfl (lv_at hl1 1 rfl) ?_
  refine va_calli (va_runV (As := []) (rest := []) ⟨hx, hb, hml, hown, hts⟩ (k_X10_skipped l D a cZ cI st0 H4.size) (cwV 0 hts gL_areBitsSo_X10_skipped rfl rfl rfl (by decide +kernel) ⟨Nat.le_of_ble_eq_true rfl, Nat.le_of_ble_eq_true rfl⟩) ⟨blW okN_P, va_recv hK hP4 (ci := 10) (q0 := 0) rfl rfl, preW hP4 hK hD okN_P hN⟩ rfl rfl hl1.1 rfl (lv_room (Nat.le_of_ble_eq_true rfl)) dL_areBitsSo_33 ⟨Nat.le_of_ble_eq_true rfl, Nat.le_of_ble_eq_true rfl⟩) hS4 (aA_in hAc) (aA_free hAc hA hS4) (fun r5 u5 t5 H5 L5 ht5 hvm5 hw5 hB5 hz5 hk5 hS5 => ?_)
  obtain ⟨hu5, hr5⟩ := hw5
  subst u5; subst r5
  have hP5 : va_P D vwCl (wP a cZ cI st0) H5 := (by rw [← ht5]; exact hB5.1)
  have hn5 : s.heap.size + 0 ≤ H5.size := Nat.le_trans hn4 hz5
  clear ht5 hvm5 hB5 hz5 hk5
  refine lv_asi (y := 0) ev_skipped ?_
  refine lv_if_lt (tgt := 96) hx hb dL_areBitsSo_36 (by decide) (fun c1 => absurd c1 (by decide)) (fun c1 => ?_)
  refine lv_aload_n hx hb dL_areBitsSo_39 rfl (lv_at hl1 1 rfl) ?_
  refine va_calli (va_runV (As := []) (rest := []) ⟨hx, hb, hml, hown, hts⟩ (k_X10_skipped l D a cZ cI st0 H5.size) (cwV 0 hts gL_areBitsSo_X10_skipped rfl rfl rfl (by decide +kernel) ⟨Nat.le_of_ble_eq_true rfl, Nat.le_of_ble_eq_true rfl⟩) ⟨blW okN_P, va_recv hK hP5 (ci := 10) (q0 := 0) rfl rfl, preW hP5 hK hD okN_P hN⟩ rfl rfl hl1.1 rfl (lv_room (Nat.le_of_ble_eq_true rfl)) dL_areBitsSo_40 ⟨Nat.le_of_ble_eq_true rfl, Nat.le_of_ble_eq_true rfl⟩) hS5 (aA_in hAc) (aA_free hAc hA hS5) (fun r6 u6 t6 H6 L6 ht6 hvm6 hw6 hB6 hz6 hk6 hS6 => ?_)
  obtain ⟨hu6, hr6⟩ := hw6
  subst u6; subst r6
  have hP6 : va_P D vwCl (wP a cZ cI st0) H6 := (by rw [← ht6]; exact hB6.1)
  have hn6 : s.heap.size + 0 ≤ H6.size := Nat.le_trans hn5 hz6
  clear ht6 hvm6 hB6 hz6 hk6
  refine lv_asi (y := 0) ev_skipped ?_
  refine lv_aload_n hx hb dL_areBitsSo_43 rfl (lv_at hl1 1 rfl) ?_
  refine va_calli (va_runV (As := []) (rest := [.int 0]) ⟨hx, hb, hml, hown, hts⟩ (k_X10_sent l D a cZ cI st0 H6.size) (cwV 0 hts gL_areBitsSo_X10_sent rfl rfl rfl (by decide +kernel) ⟨Nat.le_of_ble_eq_true rfl, Nat.le_of_ble_eq_true rfl⟩) ⟨blW okN_P, va_recv hK hP6 (ci := 10) (q0 := 0) rfl rfl, preW hP6 hK hD okN_P hN⟩ rfl rfl hl1.1 rfl (lv_room (Nat.le_of_ble_eq_true rfl)) dL_areBitsSo_44 ⟨Nat.le_of_ble_eq_true rfl, Nat.le_of_ble_eq_true rfl⟩) hS6 (aA_in hAc) (aA_free hAc hA hS6) (fun r7 u7 t7 H7 L7 ht7 hvm7 hw7 hB7 hz7 hk7 hS7 => ?_)
  obtain ⟨hu7, hr7⟩ := hw7
  subst u7; subst r7
  have hP7 : va_P D vwCl (wP a cZ cI st0) H7 := (by rw [← ht7]; exact hB7.1)
  have hn7 : s.heap.size + 0 ≤ H7.size := Nat.le_trans hn6 hz7
  clear ht7 hvm7 hB7 hz7 hk7
  refine lv_asi (y := 0) ev_sent ?_
  refine lv_icmp_gt (tgt := 96) hx hb dL_areBitsSo_47 (by decide) (fun c1 => absurd c1 (by decide)) (fun c1 => ?_)
  refine lv_aload_n hx hb dL_areBitsSo_50 rfl (lv_at hl1 1 rfl) ?_
  refine va_calli (vx_runSW (As := [.ref (a 0)]) (rest := []) ⟨hx, hb, hml, hown, hts⟩ (k_L_phase l hfl D a cZ cI H7.size) (vx_cwSW 1 hts gL_areBitsSo_L_phase rfl rfl rfl (by decide +kernel) ⟨Nat.le_of_ble_eq_true rfl, Nat.le_of_ble_eq_true rfl⟩) ⟨blY, preY hP7 hK hD hNY hZ hS7 (aA_free hAc hA hS7)⟩ rfl rfl hl1.1 rfl (lv_room (Nat.le_of_ble_eq_true rfl)) dL_areBitsSo_51 ⟨Nat.le_of_ble_eq_true rfl, Nat.le_of_ble_eq_true rfl⟩) hS7 (aA_in hAc) (aA_free hAc hA hS7) (fun r8 u8 t8 H8 L8 ht8 hvm8 hw8 hB8 hz8 hk8 hS8 => ?_)
  replace hw8 : r8 = (-99999) := hw8
  subst r8
  have hg8 := hB8.2
  rw [ht8] at hg8
  have hP8 : va_P D vwCl (wP a cZ cI st0) H8 := (by rw [← ht8]; exact hB8.1.1)
  have hn8 : s.heap.size + 1 ≤ H8.size := Nat.lt_of_le_of_lt hn7 hg8
  clear ht8 hvm8 hB8 hz8 hk8
  refine W.widen (k := 1) (n := 6) (by decide) (by decide) ?_
  refine lv_ldc (v := (-99999)) hx hb hown (hts (.constant RL 25 (-99999)) (List.mem_cons_of_mem _ (List.mem_append_left _ (List.mem_append_left _ (List.mem_append_left _ (List.mem_append_left _ (List.mem_append_left _ (List.mem_append_left _ (List.mem_append_left _ (List.mem_append_left _ (List.mem_append_left _ (List.mem_append_left _ (List.mem_of_getElem? (i := 0) rfl))))))))))))) dL_areBitsSo_54 ?_
  refine lv_icmp_ne (tgt := 63) hx hb dL_areBitsSo_56 (by decide) (fun c1 => absurd c1 (by decide)) (fun c1 => ?_)
  refine lv_iconst (v := 1) hx hb dL_areBitsSo_59 (by decide) ?_
  refine lv_goto (tgt := 64) hx hb dL_areBitsSo_60 (by decide) ?_
  refine lv_iload_n hx hb dL_areBitsSo_64 rfl (lv_at hl1 0 rfl) ?_
  refine lv_if_ne (tgt := 72) hx hb dL_areBitsSo_65 (by decide) (fun c1 => absurd c1 (by decide)) (fun c1 => ?_)
  refine lv_iconst (v := 1) hx hb dL_areBitsSo_68 (by decide) ?_
  refine lv_goto (tgt := 73) hx hb dL_areBitsSo_69 (by decide) ?_
  refine lv_icmp_ne (tgt := 96) hx hb dL_areBitsSo_73 (by decide) (fun c1 => absurd c1 (by decide)) (fun c1 => ?_)
  refine lv_aload_n hx hb dL_areBitsSo_76 rfl (lv_at hl1 1 rfl) ?_
  refine va_calli (va_runV (As := []) (rest := []) ⟨hx, hb, hml, hown, hts⟩ (k_X10_wander l D a cZ cI st0 H8.size) (cwV 0 hts gL_areBitsSo_X10_wander rfl rfl rfl (by decide +kernel) ⟨Nat.le_of_ble_eq_true rfl, Nat.le_of_ble_eq_true rfl⟩) ⟨blW okN_P, va_recv hK hP8 (ci := 10) (q0 := 0) rfl rfl, preW hP8 hK hD okN_P hN⟩ rfl rfl hl1.1 rfl (lv_room (Nat.le_of_ble_eq_true rfl)) dL_areBitsSo_77 ⟨Nat.le_of_ble_eq_true rfl, Nat.le_of_ble_eq_true rfl⟩) hS8 (aA_in hAc) (aA_free hAc hA hS8) (fun r9 u9 t9 H9 L9 ht9 hvm9 hw9 hB9 hz9 hk9 hS9 => ?_)
  obtain ⟨hu9, hr9⟩ := hw9
  subst u9; subst r9
  have hP9 : va_P D vwCl (wP a cZ cI st0) H9 := (by rw [← ht9]; exact hB9.1)
  have hn9 : s.heap.size + 1 ≤ H9.size := Nat.le_trans hn8 hz9
  clear ht9 hvm9 hB9 hz9 hk9
  refine lv_asi (y := 0) ev_wander ?_
  refine lv_if_lt (tgt := 96) hx hb dL_areBitsSo_80 (by decide) (fun c1 => absurd c1 (by decide)) (fun c1 => ?_)
  refine lv_aload_n hx hb dL_areBitsSo_83 rfl (lv_at hl1 1 rfl) ?_
  refine va_calli (va_runV (As := []) (rest := []) ⟨hx, hb, hml, hown, hts⟩ (k_X10_wander l D a cZ cI st0 H9.size) (cwV 0 hts gL_areBitsSo_X10_wander rfl rfl rfl (by decide +kernel) ⟨Nat.le_of_ble_eq_true rfl, Nat.le_of_ble_eq_true rfl⟩) ⟨blW okN_P, va_recv hK hP9 (ci := 10) (q0 := 0) rfl rfl, preW hP9 hK hD okN_P hN⟩ rfl rfl hl1.1 rfl (lv_room (Nat.le_of_ble_eq_true rfl)) dL_areBitsSo_84 ⟨Nat.le_of_ble_eq_true rfl, Nat.le_of_ble_eq_true rfl⟩) hS9 (aA_in hAc) (aA_free hAc hA hS9) (fun r10 u10 t10 H10 L10 ht10 hvm10 hw10 hB10 hz10 hk10 hS10 => ?_)
  obtain ⟨hu10, hr10⟩ := hw10
  subst u10; subst r10
  have hP10 : va_P D vwCl (wP a cZ cI st0) H10 := (by rw [← ht10]; exact hB10.1)
  have hn10 : s.heap.size + 1 ≤ H10.size := Nat.le_trans hn9 hz10
  clear ht10 hvm10 hB10 hz10 hk10
  refine lv_asi (y := 0) ev_wander ?_
  refine lv_ldc (v := 1048576) hx hb hown (hts (.constant RL 124 (1048576)) (List.mem_cons_of_mem _ (List.mem_append_left _ (List.mem_append_left _ (List.mem_append_left _ (List.mem_append_left _ (List.mem_append_left _ (List.mem_append_left _ (List.mem_append_left _ (List.mem_append_left _ (List.mem_append_left _ (List.mem_append_left _ (List.mem_of_getElem? (i := 1) rfl))))))))))))) dL_areBitsSo_87 ?_
  refine lv_icmp_gt (tgt := 96) hx hb dL_areBitsSo_89 (by decide) (fun c1 => absurd c1 (by decide)) (fun c1 => ?_)
  refine lv_iconst (v := 1) hx hb dL_areBitsSo_92 (by decide) ?_
  refine lv_goto (tgt := 97) hx hb dL_areBitsSo_93 (by decide) ?_
  refine lv_istore_n (lv' := [(2, .int 1), (1, .int 0), (0, .ref (a 0))]) hx hb dL_areBitsSo_97 rfl hl1 (by decide) rfl (fun ls2 hl2 => ?_)
  refine lv_iconst (v := 0) hx hb dL_areBitsSo_98 (by decide) ?_
  refine lv_istore_n (lv' := [(3, .int 0), (2, .int 1), (1, .int 0), (0, .ref (a 0))]) hx hb dL_areBitsSo_99 rfl hl2 (by decide) rfl (fun ls3 hl3 => ?_)
  have LOOP : ∀ (fu i : Nat), i ≤ 34 → 34 < i + fu → ∀ (H11 : Heap) (L11 : List Loc), va_P D vwCl (wP a cZ cI st0) H11 → va_S A s.heap H11 L11 → s.heap.size + (1 + i) ≤ H11.size → ∀ ls4 : Array Slot, lv_has ls4 5 [(3, .int (nI i)), (2, .int 1), (1, .int 0), (0, .ref (a 0))] → W p l e (headSpec wsL_areBitsSo rm_L_areBitsSo).room s m ([.ref (a 0)] : List Value).toArray below meth c H11 L11 (1 + i) (6 + 6 * i) Q (F0 m 100 ls4 []) := by
    clear hP10 hS10 hn10 hl3
    intro fu
    induction fu with
    | zero => exact fun i h1 h2 => absurd h2 (by omega)
    | succ fu ih =>
      intro i hi hin H11 L11 hP11 hS11 hn11 ls4 hl4
      refine lv_iload_n hx hb dL_areBitsSo_100 rfl (lv_at hl4 0 rfl) ?_
      refine lv_bipush (v := 34) hx hb dL_areBitsSo_101 (by decide) ?_
      refine lv_icmp_ge (tgt := 170) hx hb dL_areBitsSo_103 (by decide) (fun c1 => ?_) (fun c1 => ?_)
      · have hie : i = 34 := lp_ge (N := 34) (by decide) hi c1
        subst hie
        have hn11 : s.heap.size + 35 ≤ H11.size := hn11
        refine W.widen (k := 35) (n := 210) (by decide) (by decide) ?_
        refine lv_iload_n hx hb dL_areBitsSo_170 rfl (lv_at hl4 1 rfl) ?_
        refine lv_if_eq (tgt := 224) hx hb dL_areBitsSo_171 (by decide) (fun c1 => absurd c1 (by decide)) (fun c1 => ?_)
        refine lv_iload_n hx hb dL_areBitsSo_174 rfl (lv_at hl4 2 rfl) ?_
        refine lv_if_eq (tgt := 198) hx hb dL_areBitsSo_175 (by decide) (fun c1 => ?_) (fun c1 => absurd c1 (by decide))
        refine lv_aload_n hx hb dL_areBitsSo_198 rfl (lv_at hl4 3 rfl) ?_
        refine va_calli (va_runV (As := []) (rest := []) ⟨hx, hb, hml, hown, hts⟩ (k_X10_isLocked l D a cZ cI st0 H11.size) (cwV 0 hts gL_areBitsSo_X10_isLocked rfl rfl rfl (by decide +kernel) ⟨Nat.le_of_ble_eq_true rfl, Nat.le_of_ble_eq_true rfl⟩) ⟨blW okN_P, va_recv hK hP11 (ci := 10) (q0 := 0) rfl rfl, preW hP11 hK hD okN_P hN⟩ rfl rfl hl4.1 rfl (lv_room (Nat.le_of_ble_eq_true rfl)) dL_areBitsSo_199 ⟨Nat.le_of_ble_eq_true rfl, Nat.le_of_ble_eq_true rfl⟩) hS11 (aA_in hAc) (aA_free hAc hA hS11) (fun r12 u12 t12 H12 L12 ht12 hvm12 hw12 hB12 hz12 hk12 hS12 => ?_)
        obtain ⟨hu12, hr12⟩ := hw12
        subst u12; subst r12
        have hP12 : va_P D vwCl (wP a cZ cI st0) H12 := (by rw [← ht12]; exact hB12.1)
        have hn12 : s.heap.size + 35 ≤ H12.size := Nat.le_trans hn11 hz12
        clear ht12 hvm12 hB12 hz12 hk12
        refine lv_asi (y := 0) ev_isLocked ?_
        refine lv_if_eq (tgt := 220) hx hb dL_areBitsSo_202 (by decide) (fun c1 => ?_) (fun c1 => absurd c1 (by decide))
        refine lv_iconst (v := 1) hx hb dL_areBitsSo_220 (by decide) ?_
        refine lv_goto (tgt := 225) hx hb dL_areBitsSo_221 (by decide) ?_
        refine lv_istore_n (lv' := [(2, .int 1), (3, .int (nI 34)), (1, .int 0), (0, .ref (a 0))]) hx hb dL_areBitsSo_225 rfl hl4 (by decide) rfl (fun ls5 hl5 => ?_)
        refine lv_iload_n hx hb dL_areBitsSo_226 rfl (lv_at hl5 0 rfl) ?_
        refine lv_if_eq (tgt := 284) hx hb dL_areBitsSo_227 (by decide) (fun c1 => absurd c1 (by decide)) (fun c1 => ?_)
        refine lv_aload_n hx hb dL_areBitsSo_230 rfl (lv_at hl5 3 rfl) ?_
        refine va_calli (va_runV (As := []) (rest := []) ⟨hx, hb, hml, hown, hts⟩ (k_X10_alignment l D a cZ cI st0 H12.size) (cwV 0 hts gL_areBitsSo_X10_alignment rfl rfl rfl (by decide +kernel) ⟨Nat.le_of_ble_eq_true rfl, Nat.le_of_ble_eq_true rfl⟩) ⟨blW okN_P, va_recv hK hP12 (ci := 10) (q0 := 0) rfl rfl, preW hP12 hK hD okN_P hN⟩ rfl rfl hl5.1 rfl (lv_room (Nat.le_of_ble_eq_true rfl)) dL_areBitsSo_231 ⟨Nat.le_of_ble_eq_true rfl, Nat.le_of_ble_eq_true rfl⟩) hS12 (aA_in hAc) (aA_free hAc hA hS12) (fun r13 u13 t13 H13 L13 ht13 hvm13 hw13 hB13 hz13 hk13 hS13 => ?_)
        obtain ⟨hu13, hr13⟩ := hw13
        subst u13; subst r13
        have hP13 : va_P D vwCl (wP a cZ cI st0) H13 := (by rw [← ht13]; exact hB13.1)
        have hn13 : s.heap.size + 35 ≤ H13.size := Nat.le_trans hn12 hz13
        clear ht13 hvm13 hB13 hz13 hk13
        refine lv_asi (y := 0) ev_alignment ?_
        refine lv_if_lt (tgt := 284) hx hb dL_areBitsSo_234 (by decide) (fun c1 => absurd c1 (by decide)) (fun c1 => ?_)
        refine lv_aload_n hx hb dL_areBitsSo_237 rfl (lv_at hl5 3 rfl) ?_
        refine va_calli (va_runV (As := []) (rest := []) ⟨hx, hb, hml, hown, hts⟩ (k_X10_alignment l D a cZ cI st0 H13.size) (cwV 0 hts gL_areBitsSo_X10_alignment rfl rfl rfl (by decide +kernel) ⟨Nat.le_of_ble_eq_true rfl, Nat.le_of_ble_eq_true rfl⟩) ⟨blW okN_P, va_recv hK hP13 (ci := 10) (q0 := 0) rfl rfl, preW hP13 hK hD okN_P hN⟩ rfl rfl hl5.1 rfl (lv_room (Nat.le_of_ble_eq_true rfl)) dL_areBitsSo_238 ⟨Nat.le_of_ble_eq_true rfl, Nat.le_of_ble_eq_true rfl⟩) hS13 (aA_in hAc) (aA_free hAc hA hS13) (fun r14 u14 t14 H14 L14 ht14 hvm14 hw14 hB14 hz14 hk14 hS14 => ?_)
        obtain ⟨hu14, hr14⟩ := hw14
        subst u14; subst r14
        have hP14 : va_P D vwCl (wP a cZ cI st0) H14 := (by rw [← ht14]; exact hB14.1)
        have hn14 : s.heap.size + 35 ≤ H14.size := Nat.le_trans hn13 hz14
        clear ht14 hvm14 hB14 hz14 hk14
        refine lv_asi (y := 0) ev_alignment ?_
        refine lv_iconst (v := 2) hx hb dL_areBitsSo_241 (by decide) ?_
        refine lv_icmp_gt (tgt := 284) hx hb dL_areBitsSo_242 (by decide) (fun c1 => absurd c1 (by decide)) (fun c1 => ?_)
        refine lv_bipush (v := 24) hx hb dL_areBitsSo_245 (by decide) ?_
        refine lv_aload_n hx hb dL_areBitsSo_247 rfl (lv_at hl5 3 rfl) ?_
        refine va_calli (va_runV (As := []) (rest := [.int 24]) ⟨hx, hb, hml, hown, hts⟩ (k_X10_frames l D a cZ cI st0 H14.size) (cwV 0 hts gL_areBitsSo_X10_frames rfl rfl rfl (by decide +kernel) ⟨Nat.le_of_ble_eq_true rfl, Nat.le_of_ble_eq_true rfl⟩) ⟨blW okN_P, va_recv hK hP14 (ci := 10) (q0 := 0) rfl rfl, preW hP14 hK hD okN_P hN⟩ rfl rfl hl5.1 rfl (lv_room (Nat.le_of_ble_eq_true rfl)) dL_areBitsSo_248 ⟨Nat.le_of_ble_eq_true rfl, Nat.le_of_ble_eq_true rfl⟩) hS14 (aA_in hAc) (aA_free hAc hA hS14) (fun r15 u15 t15 H15 L15 ht15 hvm15 hw15 hB15 hz15 hk15 hS15 => ?_)
        obtain ⟨hu15, hr15⟩ := hw15
        subst u15; subst r15
        have hP15 : va_P D vwCl (wP a cZ cI st0) H15 := (by rw [← ht15]; exact hB15.1)
        have hn15 : s.heap.size + 35 ≤ H15.size := Nat.le_trans hn14 hz15
        clear ht15 hvm15 hB15 hz15 hk15
        refine lv_asi (y := 0) ev_frames ?_
        refine lv_imul hx hb dL_areBitsSo_251 ?_
        refine lv_asi (y := 0) (by decide +kernel) ?_
        refine lv_iload_n hx hb dL_areBitsSo_252 rfl (lv_at hl5 2 rfl) ?_
        refine lv_icmp_gt (tgt := 284) hx hb dL_areBitsSo_253 (by decide) (fun c1 => absurd c1 (by decide)) (fun c1 => ?_)
        refine lv_bipush (v := 72) hx hb dL_areBitsSo_256 (by decide) ?_
        refine lv_aload_n hx hb dL_areBitsSo_258 rfl (lv_at hl5 3 rfl) ?_
        refine va_calli (va_runV (As := []) (rest := [.int 72]) ⟨hx, hb, hml, hown, hts⟩ (k_X10_losses l D a cZ cI st0 H15.size) (cwV 0 hts gL_areBitsSo_X10_losses rfl rfl rfl (by decide +kernel) ⟨Nat.le_of_ble_eq_true rfl, Nat.le_of_ble_eq_true rfl⟩) ⟨blW okN_P, va_recv hK hP15 (ci := 10) (q0 := 0) rfl rfl, preW hP15 hK hD okN_P hN⟩ rfl rfl hl5.1 rfl (lv_room (Nat.le_of_ble_eq_true rfl)) dL_areBitsSo_259 ⟨Nat.le_of_ble_eq_true rfl, Nat.le_of_ble_eq_true rfl⟩) hS15 (aA_in hAc) (aA_free hAc hA hS15) (fun r16 u16 t16 H16 L16 ht16 hvm16 hw16 hB16 hz16 hk16 hS16 => ?_)
        obtain ⟨hu16, hr16⟩ := hw16
        subst u16; subst r16
        have hP16 : va_P D vwCl (wP a cZ cI st0) H16 := (by rw [← ht16]; exact hB16.1)
        have hn16 : s.heap.size + 35 ≤ H16.size := Nat.le_trans hn15 hz16
        clear ht16 hvm16 hB16 hz16 hk16
        refine lv_asi (y := 0) ev_losses ?_
        refine lv_imul hx hb dL_areBitsSo_262 ?_
        refine lv_asi (y := 0) (by decide +kernel) ?_
        refine lv_iload_n hx hb dL_areBitsSo_263 rfl (lv_at hl5 2 rfl) ?_
        refine lv_icmp_gt (tgt := 284) hx hb dL_areBitsSo_264 (by decide) (fun c1 => absurd c1 (by decide)) (fun c1 => ?_)
        refine lv_aload_n hx hb dL_areBitsSo_267 rfl (lv_at hl5 3 rfl) ?_
        refine va_calli (va_runV (As := []) (rest := []) ⟨hx, hb, hml, hown, hts⟩ (k_X10_alignment l D a cZ cI st0 H16.size) (cwV 0 hts gL_areBitsSo_X10_alignment rfl rfl rfl (by decide +kernel) ⟨Nat.le_of_ble_eq_true rfl, Nat.le_of_ble_eq_true rfl⟩) ⟨blW okN_P, va_recv hK hP16 (ci := 10) (q0 := 0) rfl rfl, preW hP16 hK hD okN_P hN⟩ rfl rfl hl5.1 rfl (lv_room (Nat.le_of_ble_eq_true rfl)) dL_areBitsSo_268 ⟨Nat.le_of_ble_eq_true rfl, Nat.le_of_ble_eq_true rfl⟩) hS16 (aA_in hAc) (aA_free hAc hA hS16) (fun r17 u17 t17 H17 L17 ht17 hvm17 hw17 hB17 hz17 hk17 hS17 => ?_)
        obtain ⟨hu17, hr17⟩ := hw17
        subst u17; subst r17
        have hP17 : va_P D vwCl (wP a cZ cI st0) H17 := (by rw [← ht17]; exact hB17.1)
        have hn17 : s.heap.size + 35 ≤ H17.size := Nat.le_trans hn16 hz17
        clear ht17 hvm17 hB17 hz17 hk17
        refine lv_asi (y := 0) ev_alignment ?_
        refine lv_if_eq (tgt := 280) hx hb dL_areBitsSo_271 (by decide) (fun c1 => ?_) (fun c1 => absurd c1 (by decide))
        refine lv_iconst (v := 1) hx hb dL_areBitsSo_280 (by decide) ?_
        refine lv_goto (tgt := 285) hx hb dL_areBitsSo_281 (by decide) ?_
        subst hQ; exact W.zret (v := 1) hx hb hr (by decide) (fun t ht hW => ⟨⟨1, (), rfl, rfl, ⟨endW hP17 hK hD ht hW, by rw [ht]; exact hn17⟩⟩, hS17.F ht⟩) hS17.2.2 dL_areBitsSo_285
      · have hlt : i < 34 := lp_lt (N := 34) (by decide) hi c1
        refine lv_iload_n hx hb dL_areBitsSo_106 rfl (lv_at hl4 1 rfl) ?_
        refine lv_if_eq (tgt := 170) hx hb dL_areBitsSo_107 (by decide) (fun c1 => absurd c1 (by decide)) (fun c1 => ?_)
        refine lv_aload_n hx hb dL_areBitsSo_110 rfl (lv_at hl4 3 rfl) ?_
        refine lv_iload_n hx hb dL_areBitsSo_111 rfl (lv_at hl4 0 rfl) ?_
        refine va_calli (vx_runSW (As := [.ref (a 0), .int (nI i)]) (rest := []) ⟨hx, hb, hml, hown, hts⟩ (k_L_bit l hfl D a cZ cI H11.size (nI i)) (vx_cwSW 2 hts gL_areBitsSo_L_bit rfl rfl rfl (by decide +kernel) ⟨Nat.le_of_ble_eq_true rfl, Nat.le_of_ble_eq_true rfl⟩) ⟨blY, preY hP11 hK hD hNY hZ hS11 (aA_free hAc hA hS11)⟩ rfl rfl hl4.1 rfl (lv_room (Nat.le_of_ble_eq_true rfl)) dL_areBitsSo_112 ⟨by show (1 + i) + 1 ≤ 35; omega, by show (6 + 6 * i) + 6 ≤ 210; omega⟩) hS11 (aA_in hAc) (aA_free hAc hA hS11) (fun r18 u18 t18 H18 L18 ht18 hvm18 hw18 hB18 hz18 hk18 hS18 => ?_)
        replace hw18 : r18 = (-99999) := hw18
        subst r18
        have hg18 := hB18.2
        rw [ht18] at hg18
        have hP18 : va_P D vwCl (wP a cZ cI st0) H18 := (by rw [← ht18]; exact hB18.1.1)
        have hn18 : s.heap.size + (1 + (i + 1)) ≤ H18.size := (by have := hg18; have := hn11; omega)
        clear ht18 hvm18 hB18 hz18 hk18
        refine lv_istore (lv' := [(4, .int (-99999)), (3, .int (nI i)), (2, .int 1), (1, .int 0), (0, .ref (a 0))]) hx hb dL_areBitsSo_115 hl4 (by decide) rfl (fun ls5 hl5 => ?_)
        refine W.widen (k := 1 + (i + 1)) (n := 6 + 6 * (i + 1)) (by omega) (by omega) ?_
        have J151 : W p l e (headSpec wsL_areBitsSo rm_L_areBitsSo).room s m ([.ref (a 0)] : List Value).toArray below meth c H18 L18 (1 + (i + 1)) (6 + 6 * (i + 1)) Q (F0 m 151 ls5 []) := by
          refine lv_iload hx hb dL_areBitsSo_151 (lv_at hl5 0 rfl) ?_
          refine lv_ldc (v := (-99999)) hx hb hown (hts (.constant RL 25 (-99999)) (List.mem_cons_of_mem _ (List.mem_append_left _ (List.mem_append_left _ (List.mem_append_left _ (List.mem_append_left _ (List.mem_append_left _ (List.mem_append_left _ (List.mem_append_left _ (List.mem_append_left _ (List.mem_append_left _ (List.mem_append_left _ (List.mem_of_getElem? (i := 0) rfl))))))))))))) dL_areBitsSo_153 ?_
          refine lv_icmp_ne (tgt := 162) hx hb dL_areBitsSo_155 (by decide) (fun c1 => absurd c1 (by decide)) (fun c1 => ?_)
          refine lv_iconst (v := 1) hx hb dL_areBitsSo_158 (by decide) ?_
          refine lv_goto (tgt := 163) hx hb dL_areBitsSo_159 (by decide) ?_
          refine lv_istore_n (lv' := [(2, .int 1), (4, .int (-99999)), (3, .int (nI i)), (1, .int 0), (0, .ref (a 0))]) hx hb dL_areBitsSo_163 rfl hl5 (by decide) rfl (fun ls6 hl6 => ?_)
          refine lv_iinc (v := nI (i + 1)) (lv' := [(3, .int (nI (i + 1))), (2, .int 1), (4, .int (-99999)), (1, .int 0), (0, .ref (a 0))]) hx hb dL_areBitsSo_164 hl6 (k := 2) rfl (nI_add i 1) (by decide) rfl (fun ls7 hl7 => ?_)
          refine lv_goto (tgt := 100) hx hb dL_areBitsSo_167 (by decide) ?_
          exact ih (i + 1) (by omega) (by omega) _ _ hP18 hS18 hn18 _ (lv_sub (l' := [(3, .int (nI (i + 1))), (2, .int 1), (1, .int 0), (0, .ref (a 0))]) hl7 [0, 1, 3, 4] rfl)
        refine lv_iload_n hx hb dL_areBitsSo_117 rfl (lv_at hl5 1 rfl) ?_
        refine lv_if_le (tgt := 151) hx hb dL_areBitsSo_118 (by decide) (fun _ => J151) (fun c2 => ?_)
        refine lv_iload_n hx hb dL_areBitsSo_121 rfl (lv_at hl5 1 rfl) ?_
        refine lv_iload_n hx hb dL_areBitsSo_122 rfl (lv_at hl5 3 rfl) ?_
        exact lv_icmp_gt (tgt := 151) hx hb dL_areBitsSo_123 (by decide) (fun _ => J151) (fun c3 => absurd (Int32.not_le.mp c2) c3)
  exact LOOP 35 0 (Nat.zero_le _) (by omega) _ _ hP10 hS10 hn10 _ (lv_sub (l' := [(3, .int (nI 0)), (2, .int 1), (1, .int 0), (0, .ref (a 0))]) hl3 [0, 1, 2, 3] rfl)

def rm_L_act : Room := { frames := 1, cells := 0, slots := 0, locals := 21 }
set_option maxRecDepth 100000 in
set_option maxHeartbeats 4000000 in
theorem k_L_act (l : Launch) (hfl : l.stackTraces = false) (D : va_G) (a : Nat → Nat) (cZ cI : ClassId) (sz : Nat) : Met l yL_act wsL_act rm_L_act (va_Pc [.ref (a 0), .int 5] (pY D (tyZI cZ cI) (wP a cZ cI st0) sz (adP a))) (va_Qi (fun (r : Int32) (_ : Unit) => r = 0) (fun _ t => oW D (tyZI cZ cI) (wP a cZ cI st0) (aA (adP a) sz) t) (aA (adP a) sz)) 0 0 (aA (adP a) sz) := by
  refine Met.ofW (cc := cL_act) (maxL := 4) (ret := (some .int)) (by decide +kernel) rfl ?_
  intro p e s m args below meth c s₁ B hml hv
  obtain ⟨rfl, ⟨hsz, hP0, hK, hD9, hNY⟩, hZ⟩ := hv
  have hN := hNY.1
  have hx := B.exec
  have hb := B.bytes
  have hr := B.returns
  have hts := atoms_spec (ws := wsL_act) B.pre
  have hown : s.vm.findClass RL = some m.cls := findClass_of_methodNamed B.named
  have hlocks := B.notSynchronized
  subst hsz
  have hD := aA_self (sz := s.heap.size) (as := adP a) hD9 rfl
  generalize hAe : aA (adP a) s.heap.size = A at hD hZ ⊢
  have hA : ∀ q : Nat, s.heap.size ≤ q → A q := fun q h => by rw [← hAe]; exact Or.inr h
  have hAc : ∀ q : Nat, q ∈ adP a → A q := fun q h => by rw [← hAe]; exact Or.inl h
  have hS0 : va_S A s.heap s.heap [] := va_S.rf
  have hn0 : s.heap.size + 0 ≤ s.heap.size := Nat.le_refl _
  have hl0 := lv_entry ([.ref (a 0), .int 5]) (n := 4) (Nat.le_of_ble_eq_true rfl)
  rw [lg_entry_eq]
  generalize (lg_sl ([.ref (a 0), .int 5]) ++ List.replicate (4 - (lg_sl ([.ref (a 0), .int 5])).length) Slot.unset).toArray = ls0 at hl0 ⊢
  have hl0 : lv_has ls0 4 [(0, .ref (a 0)), (1, .int 5)] := hl0
  generalize hQ : MQ below _ _ s _ _ _ = Q
  clear hD9 B
  refine lv_iload_n hx hb dL_act_0 rfl (lv_at hl0 1 rfl) ?_
  refine lv_bipush (v := 24) hx hb dL_act_1 (by decide) ?_
  refine lv_ishr hx hb dL_act_3 ?_
  refine lv_asi (y := 0) (by decide +kernel) ?_
  refine lv_bipush (v := 8) hx hb dL_act_4 (by decide) ?_
  refine va_calli (va_runS (As := [.int 0, .int 8]) (rest := []) ⟨hx, hb, hml, hown, hts⟩ (k_L_low l s.heap.size 0 8 (by decide)) (va_cwS 2 hts gL_act_L_low rfl rfl rfl (by decide +kernel) ⟨Nat.le_of_ble_eq_true rfl, Nat.le_of_ble_eq_true rfl⟩) ⟨blS, fun U hU hW => ⟨rfl, congrArg Array.size hU⟩⟩ rfl rfl hl0.1 rfl (lv_room (Nat.le_of_ble_eq_true rfl)) dL_act_6 ⟨Nat.le_of_ble_eq_true rfl, Nat.le_of_ble_eq_true rfl⟩) hS0 (fun q h1 h2 => absurd h1 (Nat.not_lt.mpr h2)) (fun q h => hA q (Nat.le_trans hS0.1 h)) (fun r1 u1 t1 H1 L1 ht1 hvm1 hw1 hB1 hz1 hk1 hS1 => ?_)
  replace hw1 : r1 = _ := hw1
  subst r1
  have hP1 : va_P D vwCl (wP a cZ cI st0) H1 := hP0.kept (fun k q h => hk1 q.1 (hP0 k q h).lt (Nat.not_le.mpr (hP0 k q h).lt))
  have hn1 : s.heap.size + 0 ≤ H1.size := Nat.le_trans hn0 hz1
  refine lv_asi (y := 0) (by decide +kernel) ?_
  refine lv_if_ne (tgt := 16) hx hb dL_act_9 (by decide) (fun c1 => absurd c1 (by decide)) (fun c1 => ?_)
  refine lv_iconst (v := 1) hx hb dL_act_12 (by decide) ?_
  refine lv_goto (tgt := 17) hx hb dL_act_13 (by decide) ?_
  refine lv_istore_n (lv' := [(2, .int 1), (0, .ref (a 0)), (1, .int 5)]) hx hb dL_act_17 rfl hl0 (by decide) rfl (fun ls1 hl1 => ?_)
  refine lv_iload_n hx hb dL_act_18 rfl (lv_at hl1 2 rfl) ?_
  refine lv_bipush (v := 14) hx hb dL_act_19 (by decide) ?_
  refine va_calli (va_runS (As := [.int 5, .int 14]) (rest := []) ⟨hx, hb, hml, hown, hts⟩ (k_L_low l H1.size 5 14 (by decide)) (va_cwS 2 hts gL_act_L_low rfl rfl rfl (by decide +kernel) ⟨Nat.le_of_ble_eq_true rfl, Nat.le_of_ble_eq_true rfl⟩) ⟨blS, fun U hU hW => ⟨rfl, congrArg Array.size hU⟩⟩ rfl rfl hl1.1 rfl (lv_room (Nat.le_of_ble_eq_true rfl)) dL_act_21 ⟨Nat.le_of_ble_eq_true rfl, Nat.le_of_ble_eq_true rfl⟩) hS1 (fun q h1 h2 => absurd h1 (Nat.not_lt.mpr h2)) (fun q h => hA q (Nat.le_trans hS1.1 h)) (fun r2 u2 t2 H2 L2 ht2 hvm2 hw2 hB2 hz2 hk2 hS2 => ?_)
  replace hw2 : r2 = _ := hw2
  subst r2
  have hP2 : va_P D vwCl (wP a cZ cI st0) H2 := hP1.kept (fun k q h => hk2 q.1 (hP1 k q h).lt (Nat.not_le.mpr (hP1 k q h).lt))
  have hn2 : s.heap.size + 0 ≤ H2.size := Nat.le_trans hn1 hz2
  refine lv_asi (y := 5) (by decide +kernel) ?_
  refine lv_istore_n (lv' := [(3, .int 5), (2, .int 1), (0, .ref (a 0)), (1, .int 5)]) hx hb dL_act_24 rfl hl1 (by decide) rfl (fun ls2 hl2 => ?_)
  refine lv_iload_n hx hb dL_act_25 rfl (lv_at hl2 0 rfl) ?_
  refine lv_if_ne (tgt := 68) hx hb dL_act_26 (by decide) (fun c1 => ?_) (fun c1 => absurd c1 (by decide))
  refine lv_iload_n hx hb dL_act_68 rfl (lv_at hl2 0 rfl) ?_
  refine lv_iconst (v := 1) hx hb dL_act_69 (by decide) ?_
  refine lv_icmp_ne (tgt := 123) hx hb dL_act_70 (by decide) (fun c1 => ?_) (fun c1 => absurd c1 (by decide))
  refine lv_iload_n hx hb dL_act_123 rfl (lv_at hl2 0 rfl) ?_
  refine lv_iconst (v := 2) hx hb dL_act_124 (by decide) ?_
  refine lv_icmp_ne (tgt := 150) hx hb dL_act_125 (by decide) (fun c1 => ?_) (fun c1 => absurd c1 (by decide))
  refine lv_iload_n hx hb dL_act_150 rfl (lv_at hl2 0 rfl) ?_
  refine lv_iconst (v := 3) hx hb dL_act_151 (by decide) ?_
  refine lv_icmp_ne (tgt := 195) hx hb dL_act_152 (by decide) (fun c1 => ?_) (fun c1 => absurd c1 (by decide))
  refine lv_iload_n hx hb dL_act_195 rfl (lv_at hl2 0 rfl) ?_
  refine lv_iconst (v := 4) hx hb dL_act_196 (by decide) ?_
  refine lv_icmp_ne (tgt := 223) hx hb dL_act_197 (by decide) (fun c1 => ?_) (fun c1 => absurd c1 (by decide))
  refine lv_iload_n hx hb dL_act_223 rfl (lv_at hl2 0 rfl) ?_
  refine lv_iconst (v := 5) hx hb dL_act_224 (by decide) ?_
  refine lv_icmp_ne (tgt := 234) hx hb dL_act_225 (by decide) (fun c1 => absurd c1 (by decide)) (fun c1 => ?_)
  refine lv_aload_n hx hb dL_act_228 rfl (lv_at hl2 2 rfl) ?_
  refine va_callv (va_runV (As := []) (rest := []) ⟨hx, hb, hml, hown, hts⟩ (k_X10_release l D a cZ cI st0 H2.size) (cwV 0 hts gL_act_X10_release rfl rfl rfl (by decide +kernel) ⟨Nat.le_of_ble_eq_true rfl, Nat.le_of_ble_eq_true rfl⟩) ⟨blW okN_P, va_recv hK hP2 (ci := 10) (q0 := 0) rfl rfl, preW hP2 hK hD okN_P hN⟩ rfl rfl hl2.1 rfl (lv_room (Nat.le_of_ble_eq_true rfl)) dL_act_229 ⟨Nat.le_of_ble_eq_true rfl, Nat.le_of_ble_eq_true rfl⟩) hS2 (aA_in hAc) (aA_free hAc hA hS2) (fun u3 t3 H3 L3 ht3 hvm3 hw3 hB3 hz3 hk3 hS3 => ?_)
  replace hw3 : u3 = s_X10_release st0 := hw3
  rw [rel0] at hw3
  subst u3
  have hP3 : va_P D vwCl (wP a cZ cI st0) H3 := (by rw [← ht3]; exact hB3.1)
  have hn3 : s.heap.size + 0 ≤ H3.size := Nat.le_trans hn2 hz3
  clear ht3 hvm3 hB3 hz3 hk3
  refine lv_iconst (v := 0) hx hb dL_act_232 (by decide) ?_
  subst hQ; exact W.iret (v := 0) hx hb hr (fun t ht hW => ⟨⟨0, (), rfl, rfl, endW hP3 hK hD ht hW⟩, hS3.F ht⟩) hS3.2.2 dL_act_233
