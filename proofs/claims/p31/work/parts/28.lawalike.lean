def rm_L_areAlike : Room := { frames := 8, cells := 68, slots := 408, locals := 125 }
set_option maxRecDepth 100000 in
set_option maxHeartbeats 4000000 in
theorem k_L_areAlike (l : Launch) (hfl : l.stackTraces = false) (D : va_G) (a : Nat → Nat) (cZ cI : ClassId) (b : Nat → Nat) (cZ2 cI2 : ClassId) (sz : Nat) : Met l yL_areAlike wsL_areAlike rm_L_areAlike (va_Pc [.ref (a 0), .ref (b 0)] (pY D [(cZ, .boolean), (cI, .int), (cZ2, .boolean), (cI2, .int)] (wP a cZ cI st0 ++ wP b cZ2 cI2 st0) sz (adP a ++ adP b))) (va_Qi (fun (r : Int32) (_ : Unit) => r = 1) (fun _ t => oW D [(cZ, .boolean), (cI, .int), (cZ2, .boolean), (cI2, .int)] (wP a cZ cI st0 ++ wP b cZ2 cI2 st0) (aA (adP a ++ adP b) sz) t ∧ sz + 66 ≤ t.heap.size) (aA (adP a ++ adP b) sz)) 68 408 (aA (adP a ++ adP b) sz) := by
  refine Met.ofW (cc := cL_areAlike) (maxL := 4) (ret := (some .boolean)) (by decide +kernel) rfl ?_
  intro p e s m args below meth c s₁ B hml hv
  obtain ⟨rfl, ⟨hsz, hP0, hK, hD9, hNY⟩, hZ⟩ := hv
  have hN := hNY.1
  have hx := B.exec
  have hb := B.bytes
  have hr := B.returns
  have hts := atoms_spec (ws := wsL_areAlike) B.pre
  have hown : s.vm.findClass RL = some m.cls := findClass_of_methodNamed B.named
  have hlocks := B.notSynchronized
  subst hsz
  have hD := aA_self (sz := s.heap.size) (as := adP a ++ adP b) hD9 rfl
  generalize hAe : aA (adP a ++ adP b) s.heap.size = A at hD hZ ⊢
  have hA : ∀ q : Nat, s.heap.size ≤ q → A q := fun q h => by rw [← hAe]; exact Or.inr h
  have hAo : ∀ q : Nat, q ∈ adP a → A q := fun q h => by rw [← hAe]; exact Or.inl (List.mem_append_left _ h)
  have hAp : ∀ q : Nat, q ∈ adP b → A q := fun q h => by rw [← hAe]; exact Or.inl (List.mem_append_right _ h)
  have hKo := hK.sub (tys' := tyZI cZ cI) [0, 1] rfl
  have hKp := hK.sub (tys' := tyZI cZ2 cI2) [2, 3] rfl
  have hS0 : va_S A s.heap s.heap [] := va_S.rf
  have hn0 : s.heap.size + 0 ≤ s.heap.size := Nat.le_refl _
  have hl0 := lv_entry ([.ref (a 0), .ref (b 0)]) (n := 4) (Nat.le_of_ble_eq_true rfl)
  rw [lg_entry_eq]
  generalize (lg_sl ([.ref (a 0), .ref (b 0)]) ++ List.replicate (4 - (lg_sl ([.ref (a 0), .ref (b 0)])).length) Slot.unset).toArray = ls0 at hl0 ⊢
  have hl0 : lv_has ls0 4 [(0, .ref (a 0)), (1, .ref (b 0))] := hl0
  generalize hQ : MQ below _ _ s _ _ _ = Q
  clear hD9 B
  refine lv_aload_n hx hb dL_areAlike_0 rfl (lv_at hl0 0 rfl) ?_
  refine va_calli (va_runV (As := []) (rest := []) ⟨hx, hb, hml, hown, hts⟩ (k_X10_ticks l D a cZ cI st0 s.heap.size) (cwV 0 hts gL_areAlike_X10_ticks rfl rfl rfl (by decide +kernel) ⟨Nat.le_of_ble_eq_true rfl, Nat.le_of_ble_eq_true rfl⟩) ⟨blW okN_P, va_recv hKo (twoO hP0) (ci := 10) (q0 := 0) rfl rfl, preW (twoO hP0) hKo (twoOD hD) okN_P hN⟩ rfl rfl hl0.1 rfl (lv_room (Nat.le_of_ble_eq_true rfl)) dL_areAlike_1 ⟨Nat.le_of_ble_eq_true rfl, Nat.le_of_ble_eq_true rfl⟩) hS0 (aA_in hAo) (aA_free hAo hA hS0) (fun r1 u1 t1 H1 L1 ht1 hvm1 hw1 hB1 hz1 hk1 hS1 => ?_)
  obtain ⟨hu1, hr1⟩ := hw1
  subst u1; subst r1
  have hP1 : va_P D vwCl (wP a cZ cI st0 ++ wP b cZ2 cI2 st0) H1 := backO hP0 hD rfl hk1 (by rw [← ht1]; exact hB1.1)
  have hn1 : s.heap.size + 0 ≤ H1.size := Nat.le_trans hn0 hz1
  clear ht1 hvm1 hB1 hz1 hk1
  refine lv_asi (y := 0) ev_ticks ?_
  refine lv_aload_n hx hb dL_areAlike_4 rfl (lv_at hl0 1 rfl) ?_
  refine va_calli (va_runV (As := []) (rest := [.int 0]) ⟨hx, hb, hml, hown, hts⟩ (k_X10_ticks l D b cZ2 cI2 st0 H1.size) (cwV 0 hts gL_areAlike_X10_ticks rfl rfl rfl (by decide +kernel) ⟨Nat.le_of_ble_eq_true rfl, Nat.le_of_ble_eq_true rfl⟩) ⟨blW okN_P, va_recv hKp (twoP hP1) (ci := 10) (q0 := 0) rfl rfl, preW (twoP hP1) hKp (twoPD hD) okN_P hN⟩ rfl rfl hl0.1 rfl (lv_room (Nat.le_of_ble_eq_true rfl)) dL_areAlike_5 ⟨Nat.le_of_ble_eq_true rfl, Nat.le_of_ble_eq_true rfl⟩) hS1 (aA_in hAp) (aA_free hAp hA hS1) (fun r2 u2 t2 H2 L2 ht2 hvm2 hw2 hB2 hz2 hk2 hS2 => ?_)
  obtain ⟨hu2, hr2⟩ := hw2
  subst u2; subst r2
  have hP2 : va_P D vwCl (wP a cZ cI st0 ++ wP b cZ2 cI2 st0) H2 := backP hP1 hD rfl hk2 (by rw [← ht2]; exact hB2.1)
  have hn2 : s.heap.size + 0 ≤ H2.size := Nat.le_trans hn1 hz2
  clear ht2 hvm2 hB2 hz2 hk2
  refine lv_asi (y := 0) ev_ticks ?_
  refine lv_icmp_ne (tgt := 158) hx hb dL_areAlike_8 (by decide) (fun c1 => absurd c1 (by decide)) (fun c1 => ?_)
  refine lv_aload_n hx hb dL_areAlike_11 rfl (lv_at hl0 0 rfl) ?_
  refine va_calli (va_runV (As := []) (rest := []) ⟨hx, hb, hml, hown, hts⟩ (k_X10_sent l D a cZ cI st0 H2.size) (cwV 0 hts gL_areAlike_X10_sent rfl rfl rfl (by decide +kernel) ⟨Nat.le_of_ble_eq_true rfl, Nat.le_of_ble_eq_true rfl⟩) ⟨blW okN_P, va_recv hKo (twoO hP2) (ci := 10) (q0 := 0) rfl rfl, preW (twoO hP2) hKo (twoOD hD) okN_P hN⟩ rfl rfl hl0.1 rfl (lv_room (Nat.le_of_ble_eq_true rfl)) dL_areAlike_12 ⟨Nat.le_of_ble_eq_true rfl, Nat.le_of_ble_eq_true rfl⟩) hS2 (aA_in hAo) (aA_free hAo hA hS2) (fun r3 u3 t3 H3 L3 ht3 hvm3 hw3 hB3 hz3 hk3 hS3 => ?_)
  obtain ⟨hu3, hr3⟩ := hw3
  subst u3; subst r3
  have hP3 : va_P D vwCl (wP a cZ cI st0 ++ wP b cZ2 cI2 st0) H3 := backO hP2 hD rfl hk3 (by rw [← ht3]; exact hB3.1)
  have hn3 : s.heap.size + 0 ≤ H3.size := Nat.le_trans hn2 hz3
  clear ht3 hvm3 hB3 hz3 hk3
  refine lv_asi (y := 0) ev_sent ?_
  refine lv_aload_n hx hb dL_areAlike_15 rfl (lv_at hl0 1 rfl) ?_
  refine va_calli (va_runV (As := []) (rest := [.int 0]) ⟨hx, hb, hml, hown, hts⟩ (k_X10_sent l D b cZ2 cI2 st0 H3.size) (cwV 0 hts gL_areAlike_X10_sent rfl rfl rfl (by decide +kernel) ⟨Nat.le_of_ble_eq_true rfl, Nat.le_of_ble_eq_true rfl⟩) ⟨blW okN_P, va_recv hKp (twoP hP3) (ci := 10) (q0 := 0) rfl rfl, preW (twoP hP3) hKp (twoPD hD) okN_P hN⟩ rfl rfl hl0.1 rfl (lv_room (Nat.le_of_ble_eq_true rfl)) dL_areAlike_16 ⟨Nat.le_of_ble_eq_true rfl, Nat.le_of_ble_eq_true rfl⟩) hS3 (aA_in hAp) (aA_free hAp hA hS3) (fun r4 u4 t4 H4 L4 ht4 hvm4 hw4 hB4 hz4 hk4 hS4 => ?_)
  obtain ⟨hu4, hr4⟩ := hw4
  subst u4; subst r4
  have hP4 : va_P D vwCl (wP a cZ cI st0 ++ wP b cZ2 cI2 st0) H4 := backP hP3 hD rfl hk4 (by rw [← ht4]; exact hB4.1)
  have hn4 : s.heap.size + 0 ≤ H4.size := Nat.le_trans hn3 hz4
  clear ht4 hvm4 hB4 hz4 hk4
  refine lv_asi (y := 0) ev_sent ?_
  refine lv_icmp_ne (tgt := 158) hx hb dL_areAlike_19 (by decide) (fun c1 => absurd c1 (by decide)) (fun c1 => ?_)
  refine lv_aload_n hx hb dL_areAlike_22 rfl (lv_at hl0 0 rfl) ?_
  refine va_calli (va_runV (As := []) (rest := []) ⟨hx, hb, hml, hown, hts⟩ (k_X10_sender l D a cZ cI st0 H4.size) (cwV 0 hts gL_areAlike_X10_sender rfl rfl rfl (by decide +kernel) ⟨Nat.le_of_ble_eq_true rfl, Nat.le_of_ble_eq_true rfl⟩) ⟨blW okN_P, va_recv hKo (twoO hP4) (ci := 10) (q0 := 0) rfl rfl, preW (twoO hP4) hKo (twoOD hD) okN_P hN⟩ rfl rfl hl0.1 rfl (lv_room (Nat.le_of_ble_eq_true rfl)) dL_areAlike_23 ⟨Nat.le_of_ble_eq_true rfl, Nat.le_of_ble_eq_true rfl⟩) hS4 (aA_in hAo) (aA_free hAo hA hS4) (fun r5 u5 t5 H5 L5 ht5 hvm5 hw5 hB5 hz5 hk5 hS5 => ?_)
  obtain ⟨hu5, hr5⟩ := hw5
  subst u5; subst r5
  have hP5 : va_P D vwCl (wP a cZ cI st0 ++ wP b cZ2 cI2 st0) H5 := backO hP4 hD rfl hk5 (by rw [← ht5]; exact hB5.1)
  have hn5 : s.heap.size + 0 ≤ H5.size := Nat.le_trans hn4 hz5
  clear ht5 hvm5 hB5 hz5 hk5
  refine lv_asi (y := 0) ev_sender ?_
  refine lv_aload_n hx hb dL_areAlike_26 rfl (lv_at hl0 1 rfl) ?_
  refine va_calli (va_runV (As := []) (rest := [.int 0]) ⟨hx, hb, hml, hown, hts⟩ (k_X10_sender l D b cZ2 cI2 st0 H5.size) (cwV 0 hts gL_areAlike_X10_sender rfl rfl rfl (by decide +kernel) ⟨Nat.le_of_ble_eq_true rfl, Nat.le_of_ble_eq_true rfl⟩) ⟨blW okN_P, va_recv hKp (twoP hP5) (ci := 10) (q0 := 0) rfl rfl, preW (twoP hP5) hKp (twoPD hD) okN_P hN⟩ rfl rfl hl0.1 rfl (lv_room (Nat.le_of_ble_eq_true rfl)) dL_areAlike_27 ⟨Nat.le_of_ble_eq_true rfl, Nat.le_of_ble_eq_true rfl⟩) hS5 (aA_in hAp) (aA_free hAp hA hS5) (fun r6 u6 t6 H6 L6 ht6 hvm6 hw6 hB6 hz6 hk6 hS6 => ?_)
  obtain ⟨hu6, hr6⟩ := hw6
  subst u6; subst r6
  have hP6 : va_P D vwCl (wP a cZ cI st0 ++ wP b cZ2 cI2 st0) H6 := backP hP5 hD rfl hk6 (by rw [← ht6]; exact hB6.1)
  have hn6 : s.heap.size + 0 ≤ H6.size := Nat.le_trans hn5 hz6
  clear ht6 hvm6 hB6 hz6 hk6
  refine lv_asi (y := 0) ev_sender ?_
  refine lv_icmp_ne (tgt := 158) hx hb dL_areAlike_30 (by decide) (fun c1 => absurd c1 (by decide)) (fun c1 => ?_)
  refine lv_aload_n hx hb dL_areAlike_33 rfl (lv_at hl0 0 rfl) ?_
  refine va_calli (va_runV (As := []) (rest := []) ⟨hx, hb, hml, hown, hts⟩ (k_X10_receiver l D a cZ cI st0 H6.size) (cwV 0 hts gL_areAlike_X10_receiver rfl rfl rfl (by decide +kernel) ⟨Nat.le_of_ble_eq_true rfl, Nat.le_of_ble_eq_true rfl⟩) ⟨blW okN_P, va_recv hKo (twoO hP6) (ci := 10) (q0 := 0) rfl rfl, preW (twoO hP6) hKo (twoOD hD) okN_P hN⟩ rfl rfl hl0.1 rfl (lv_room (Nat.le_of_ble_eq_true rfl)) dL_areAlike_34 ⟨Nat.le_of_ble_eq_true rfl, Nat.le_of_ble_eq_true rfl⟩) hS6 (aA_in hAo) (aA_free hAo hA hS6) (fun r7 u7 t7 H7 L7 ht7 hvm7 hw7 hB7 hz7 hk7 hS7 => ?_)
  obtain ⟨hu7, hr7⟩ := hw7
  subst u7; subst r7
  have hP7 : va_P D vwCl (wP a cZ cI st0 ++ wP b cZ2 cI2 st0) H7 := backO hP6 hD rfl hk7 (by rw [← ht7]; exact hB7.1)
  have hn7 : s.heap.size + 0 ≤ H7.size := Nat.le_trans hn6 hz7
  clear ht7 hvm7 hB7 hz7 hk7
  refine lv_asi (y := 0) ev_receiver ?_
  refine lv_aload_n hx hb dL_areAlike_37 rfl (lv_at hl0 1 rfl) ?_
  refine va_calli (va_runV (As := []) (rest := [.int 0]) ⟨hx, hb, hml, hown, hts⟩ (k_X10_receiver l D b cZ2 cI2 st0 H7.size) (cwV 0 hts gL_areAlike_X10_receiver rfl rfl rfl (by decide +kernel) ⟨Nat.le_of_ble_eq_true rfl, Nat.le_of_ble_eq_true rfl⟩) ⟨blW okN_P, va_recv hKp (twoP hP7) (ci := 10) (q0 := 0) rfl rfl, preW (twoP hP7) hKp (twoPD hD) okN_P hN⟩ rfl rfl hl0.1 rfl (lv_room (Nat.le_of_ble_eq_true rfl)) dL_areAlike_38 ⟨Nat.le_of_ble_eq_true rfl, Nat.le_of_ble_eq_true rfl⟩) hS7 (aA_in hAp) (aA_free hAp hA hS7) (fun r8 u8 t8 H8 L8 ht8 hvm8 hw8 hB8 hz8 hk8 hS8 => ?_)
  obtain ⟨hu8, hr8⟩ := hw8
  subst u8; subst r8
  have hP8 : va_P D vwCl (wP a cZ cI st0 ++ wP b cZ2 cI2 st0) H8 := backP hP7 hD rfl hk8 (by rw [← ht8]; exact hB8.1)
  have hn8 : s.heap.size + 0 ≤ H8.size := Nat.le_trans hn7 hz8
  clear ht8 hvm8 hB8 hz8 hk8
  refine lv_asi (y := 0) ev_receiver ?_
  refine lv_icmp_ne (tgt := 158) hx hb dL_areAlike_41 (by decide) (fun c1 => absurd c1 (by decide)) (fun c1 => ?_)
  refine lv_aload_n hx hb dL_areAlike_44 rfl (lv_at hl0 0 rfl) ?_
  refine va_calli (va_runV (As := []) (rest := []) ⟨hx, hb, hml, hown, hts⟩ (k_X10_error l D a cZ cI st0 H8.size) (cwV 0 hts gL_areAlike_X10_error rfl rfl rfl (by decide +kernel) ⟨Nat.le_of_ble_eq_true rfl, Nat.le_of_ble_eq_true rfl⟩) ⟨blW okN_P, va_recv hKo (twoO hP8) (ci := 10) (q0 := 0) rfl rfl, preW (twoO hP8) hKo (twoOD hD) okN_P hN⟩ rfl rfl hl0.1 rfl (lv_room (Nat.le_of_ble_eq_true rfl)) dL_areAlike_45 ⟨Nat.le_of_ble_eq_true rfl, Nat.le_of_ble_eq_true rfl⟩) hS8 (aA_in hAo) (aA_free hAo hA hS8) (fun r9 u9 t9 H9 L9 ht9 hvm9 hw9 hB9 hz9 hk9 hS9 => ?_)
  obtain ⟨hu9, hr9⟩ := hw9
  subst u9; subst r9
  have hP9 : va_P D vwCl (wP a cZ cI st0 ++ wP b cZ2 cI2 st0) H9 := backO hP8 hD rfl hk9 (by rw [← ht9]; exact hB9.1)
  have hn9 : s.heap.size + 0 ≤ H9.size := Nat.le_trans hn8 hz9
  clear ht9 hvm9 hB9 hz9 hk9
  refine lv_asi (y := 0) ev_error ?_
  refine lv_aload_n hx hb dL_areAlike_48 rfl (lv_at hl0 1 rfl) ?_
  refine va_calli (va_runV (As := []) (rest := [.int 0]) ⟨hx, hb, hml, hown, hts⟩ (k_X10_error l D b cZ2 cI2 st0 H9.size) (cwV 0 hts gL_areAlike_X10_error rfl rfl rfl (by decide +kernel) ⟨Nat.le_of_ble_eq_true rfl, Nat.le_of_ble_eq_true rfl⟩) ⟨blW okN_P, va_recv hKp (twoP hP9) (ci := 10) (q0 := 0) rfl rfl, preW (twoP hP9) hKp (twoPD hD) okN_P hN⟩ rfl rfl hl0.1 rfl (lv_room (Nat.le_of_ble_eq_true rfl)) dL_areAlike_49 ⟨Nat.le_of_ble_eq_true rfl, Nat.le_of_ble_eq_true rfl⟩) hS9 (aA_in hAp) (aA_free hAp hA hS9) (fun r10 u10 t10 H10 L10 ht10 hvm10 hw10 hB10 hz10 hk10 hS10 => ?_)
  obtain ⟨hu10, hr10⟩ := hw10
  subst u10; subst r10
  have hP10 : va_P D vwCl (wP a cZ cI st0 ++ wP b cZ2 cI2 st0) H10 := backP hP9 hD rfl hk10 (by rw [← ht10]; exact hB10.1)
  have hn10 : s.heap.size + 0 ≤ H10.size := Nat.le_trans hn9 hz10
  clear ht10 hvm10 hB10 hz10 hk10
  refine lv_asi (y := 0) ev_error ?_
  refine lv_icmp_ne (tgt := 158) hx hb dL_areAlike_52 (by decide) (fun c1 => absurd c1 (by decide)) (fun c1 => ?_)
  refine lv_aload_n hx hb dL_areAlike_55 rfl (lv_at hl0 0 rfl) ?_
  refine va_calli (va_runV (As := []) (rest := []) ⟨hx, hb, hml, hown, hts⟩ (k_X10_integral l D a cZ cI st0 H10.size) (cwV 0 hts gL_areAlike_X10_integral rfl rfl rfl (by decide +kernel) ⟨Nat.le_of_ble_eq_true rfl, Nat.le_of_ble_eq_true rfl⟩) ⟨blW okN_P, va_recv hKo (twoO hP10) (ci := 10) (q0 := 0) rfl rfl, preW (twoO hP10) hKo (twoOD hD) okN_P hN⟩ rfl rfl hl0.1 rfl (lv_room (Nat.le_of_ble_eq_true rfl)) dL_areAlike_56 ⟨Nat.le_of_ble_eq_true rfl, Nat.le_of_ble_eq_true rfl⟩) hS10 (aA_in hAo) (aA_free hAo hA hS10) (fun r11 u11 t11 H11 L11 ht11 hvm11 hw11 hB11 hz11 hk11 hS11 => ?_)
  obtain ⟨hu11, hr11⟩ := hw11
  subst u11; subst r11
  have hP11 : va_P D vwCl (wP a cZ cI st0 ++ wP b cZ2 cI2 st0) H11 := backO hP10 hD rfl hk11 (by rw [← ht11]; exact hB11.1)
  have hn11 : s.heap.size + 0 ≤ H11.size := Nat.le_trans hn10 hz11
  clear ht11 hvm11 hB11 hz11 hk11
  refine lv_asi (y := 0) ev_integral ?_
  refine lv_aload_n hx hb dL_areAlike_59 rfl (lv_at hl0 1 rfl) ?_
  refine va_calli (va_runV (As := []) (rest := [.int 0]) ⟨hx, hb, hml, hown, hts⟩ (k_X10_integral l D b cZ2 cI2 st0 H11.size) (cwV 0 hts gL_areAlike_X10_integral rfl rfl rfl (by decide +kernel) ⟨Nat.le_of_ble_eq_true rfl, Nat.le_of_ble_eq_true rfl⟩) ⟨blW okN_P, va_recv hKp (twoP hP11) (ci := 10) (q0 := 0) rfl rfl, preW (twoP hP11) hKp (twoPD hD) okN_P hN⟩ rfl rfl hl0.1 rfl (lv_room (Nat.le_of_ble_eq_true rfl)) dL_areAlike_60 ⟨Nat.le_of_ble_eq_true rfl, Nat.le_of_ble_eq_true rfl⟩) hS11 (aA_in hAp) (aA_free hAp hA hS11) (fun r12 u12 t12 H12 L12 ht12 hvm12 hw12 hB12 hz12 hk12 hS12 => ?_)
  obtain ⟨hu12, hr12⟩ := hw12
  subst u12; subst r12
  have hP12 : va_P D vwCl (wP a cZ cI st0 ++ wP b cZ2 cI2 st0) H12 := backP hP11 hD rfl hk12 (by rw [← ht12]; exact hB12.1)
  have hn12 : s.heap.size + 0 ≤ H12.size := Nat.le_trans hn11 hz12
  clear ht12 hvm12 hB12 hz12 hk12
  refine lv_asi (y := 0) ev_integral ?_
  refine lv_icmp_ne (tgt := 158) hx hb dL_areAlike_63 (by decide) (fun c1 => absurd c1 (by decide)) (fun c1 => ?_)
  refine lv_aload_n hx hb dL_areAlike_66 rfl (lv_at hl0 0 rfl) ?_
  refine va_calli (va_runV (As := []) (rest := []) ⟨hx, hb, hml, hown, hts⟩ (k_X10_control l D a cZ cI st0 H12.size) (cwV 0 hts gL_areAlike_X10_control rfl rfl rfl (by decide +kernel) ⟨Nat.le_of_ble_eq_true rfl, Nat.le_of_ble_eq_true rfl⟩) ⟨blW okN_P, va_recv hKo (twoO hP12) (ci := 10) (q0 := 0) rfl rfl, preW (twoO hP12) hKo (twoOD hD) okN_P hN⟩ rfl rfl hl0.1 rfl (lv_room (Nat.le_of_ble_eq_true rfl)) dL_areAlike_67 ⟨Nat.le_of_ble_eq_true rfl, Nat.le_of_ble_eq_true rfl⟩) hS12 (aA_in hAo) (aA_free hAo hA hS12) (fun r13 u13 t13 H13 L13 ht13 hvm13 hw13 hB13 hz13 hk13 hS13 => ?_)
  obtain ⟨hu13, hr13⟩ := hw13
  subst u13; subst r13
  have hP13 : va_P D vwCl (wP a cZ cI st0 ++ wP b cZ2 cI2 st0) H13 := backO hP12 hD rfl hk13 (by rw [← ht13]; exact hB13.1)
  have hn13 : s.heap.size + 0 ≤ H13.size := Nat.le_trans hn12 hz13
  clear ht13 hvm13 hB13 hz13 hk13
  refine lv_asi (y := 0) ev_control ?_
  refine lv_aload_n hx hb dL_areAlike_70 rfl (lv_at hl0 1 rfl) ?_
  refine va_calli (va_runV (As := []) (rest := [.int 0]) ⟨hx, hb, hml, hown, hts⟩ (k_X10_control l D b cZ2 cI2 st0 H13.size) (cwV 0 hts gL_areAlike_X10_control rfl rfl rfl (by decide +kernel) ⟨Nat.le_of_ble_eq_true rfl, Nat.le_of_ble_eq_true rfl⟩) ⟨blW okN_P, va_recv hKp (twoP hP13) (ci := 10) (q0 := 0) rfl rfl, preW (twoP hP13) hKp (twoPD hD) okN_P hN⟩ rfl rfl hl0.1 rfl (lv_room (Nat.le_of_ble_eq_true rfl)) dL_areAlike_71 ⟨Nat.le_of_ble_eq_true rfl, Nat.le_of_ble_eq_true rfl⟩) hS13 (aA_in hAp) (aA_free hAp hA hS13) (fun r14 u14 t14 H14 L14 ht14 hvm14 hw14 hB14 hz14 hk14 hS14 => ?_)
  obtain ⟨hu14, hr14⟩ := hw14
  subst u14; subst r14
  have hP14 : va_P D vwCl (wP a cZ cI st0 ++ wP b cZ2 cI2 st0) H14 := backP hP13 hD rfl hk14 (by rw [← ht14]; exact hB14.1)
  have hn14 : s.heap.size + 0 ≤ H14.size := Nat.le_trans hn13 hz14
  clear ht14 hvm14 hB14 hz14 hk14
  refine lv_asi (y := 0) ev_control ?_
  refine lv_icmp_ne (tgt := 158) hx hb dL_areAlike_74 (by decide) (fun c1 => absurd c1 (by decide)) (fun c1 => ?_)
  refine lv_aload_n hx hb dL_areAlike_77 rfl (lv_at hl0 0 rfl) ?_
  refine va_calli (va_runV (As := []) (rest := []) ⟨hx, hb, hml, hown, hts⟩ (k_X10_received l D a cZ cI st0 H14.size) (cwV 0 hts gL_areAlike_X10_received rfl rfl rfl (by decide +kernel) ⟨Nat.le_of_ble_eq_true rfl, Nat.le_of_ble_eq_true rfl⟩) ⟨blW okN_P, va_recv hKo (twoO hP14) (ci := 10) (q0 := 0) rfl rfl, preW (twoO hP14) hKo (twoOD hD) okN_P hN⟩ rfl rfl hl0.1 rfl (lv_room (Nat.le_of_ble_eq_true rfl)) dL_areAlike_78 ⟨Nat.le_of_ble_eq_true rfl, Nat.le_of_ble_eq_true rfl⟩) hS14 (aA_in hAo) (aA_free hAo hA hS14) (fun r15 u15 t15 H15 L15 ht15 hvm15 hw15 hB15 hz15 hk15 hS15 => ?_)
  obtain ⟨hu15, hr15⟩ := hw15
  subst u15; subst r15
  have hP15 : va_P D vwCl (wP a cZ cI st0 ++ wP b cZ2 cI2 st0) H15 := backO hP14 hD rfl hk15 (by rw [← ht15]; exact hB15.1)
  have hn15 : s.heap.size + 0 ≤ H15.size := Nat.le_trans hn14 hz15
  clear ht15 hvm15 hB15 hz15 hk15
  refine lv_asi (y := 0) ev_received ?_
  refine lv_aload_n hx hb dL_areAlike_81 rfl (lv_at hl0 1 rfl) ?_
  refine va_calli (va_runV (As := []) (rest := [.int 0]) ⟨hx, hb, hml, hown, hts⟩ (k_X10_received l D b cZ2 cI2 st0 H15.size) (cwV 0 hts gL_areAlike_X10_received rfl rfl rfl (by decide +kernel) ⟨Nat.le_of_ble_eq_true rfl, Nat.le_of_ble_eq_true rfl⟩) ⟨blW okN_P, va_recv hKp (twoP hP15) (ci := 10) (q0 := 0) rfl rfl, preW (twoP hP15) hKp (twoPD hD) okN_P hN⟩ rfl rfl hl0.1 rfl (lv_room (Nat.le_of_ble_eq_true rfl)) dL_areAlike_82 ⟨Nat.le_of_ble_eq_true rfl, Nat.le_of_ble_eq_true rfl⟩) hS15 (aA_in hAp) (aA_free hAp hA hS15) (fun r16 u16 t16 H16 L16 ht16 hvm16 hw16 hB16 hz16 hk16 hS16 => ?_)
  obtain ⟨hu16, hr16⟩ := hw16
  subst u16; subst r16
  have hP16 : va_P D vwCl (wP a cZ cI st0 ++ wP b cZ2 cI2 st0) H16 := backP hP15 hD rfl hk16 (by rw [← ht16]; exact hB16.1)
  have hn16 : s.heap.size + 0 ≤ H16.size := Nat.le_trans hn15 hz16
  clear ht16 hvm16 hB16 hz16 hk16
  refine lv_asi (y := 0) ev_received ?_
  refine lv_icmp_ne (tgt := 158) hx hb dL_areAlike_85 (by decide) (fun c1 => absurd c1 (by decide)) (fun c1 => ?_)
  refine lv_aload_n hx hb dL_areAlike_88 rfl (lv_at hl0 0 rfl) ?_
  refine va_calli (va_runV (As := []) (rest := []) ⟨hx, hb, hml, hown, hts⟩ (k_X10_repeated l D a cZ cI st0 H16.size) (cwV 0 hts gL_areAlike_X10_repeated rfl rfl rfl (by decide +kernel) ⟨Nat.le_of_ble_eq_true rfl, Nat.le_of_ble_eq_true rfl⟩) ⟨blW okN_P, va_recv hKo (twoO hP16) (ci := 10) (q0 := 0) rfl rfl, preW (twoO hP16) hKo (twoOD hD) okN_P hN⟩ rfl rfl hl0.1 rfl (lv_room (Nat.le_of_ble_eq_true rfl)) dL_areAlike_89 ⟨Nat.le_of_ble_eq_true rfl, Nat.le_of_ble_eq_true rfl⟩) hS16 (aA_in hAo) (aA_free hAo hA hS16) (fun r17 u17 t17 H17 L17 ht17 hvm17 hw17 hB17 hz17 hk17 hS17 => ?_)
  obtain ⟨hu17, hr17⟩ := hw17
  subst u17; subst r17
  have hP17 : va_P D vwCl (wP a cZ cI st0 ++ wP b cZ2 cI2 st0) H17 := backO hP16 hD rfl hk17 (by rw [← ht17]; exact hB17.1)
  have hn17 : s.heap.size + 0 ≤ H17.size := Nat.le_trans hn16 hz17
  clear ht17 hvm17 hB17 hz17 hk17
  refine lv_asi (y := 0) ev_repeated ?_
  refine lv_aload_n hx hb dL_areAlike_92 rfl (lv_at hl0 1 rfl) ?_
  refine va_calli (va_runV (As := []) (rest := [.int 0]) ⟨hx, hb, hml, hown, hts⟩ (k_X10_repeated l D b cZ2 cI2 st0 H17.size) (cwV 0 hts gL_areAlike_X10_repeated rfl rfl rfl (by decide +kernel) ⟨Nat.le_of_ble_eq_true rfl, Nat.le_of_ble_eq_true rfl⟩) ⟨blW okN_P, va_recv hKp (twoP hP17) (ci := 10) (q0 := 0) rfl rfl, preW (twoP hP17) hKp (twoPD hD) okN_P hN⟩ rfl rfl hl0.1 rfl (lv_room (Nat.le_of_ble_eq_true rfl)) dL_areAlike_93 ⟨Nat.le_of_ble_eq_true rfl, Nat.le_of_ble_eq_true rfl⟩) hS17 (aA_in hAp) (aA_free hAp hA hS17) (fun r18 u18 t18 H18 L18 ht18 hvm18 hw18 hB18 hz18 hk18 hS18 => ?_)
  obtain ⟨hu18, hr18⟩ := hw18
  subst u18; subst r18
  have hP18 : va_P D vwCl (wP a cZ cI st0 ++ wP b cZ2 cI2 st0) H18 := backP hP17 hD rfl hk18 (by rw [← ht18]; exact hB18.1)
  have hn18 : s.heap.size + 0 ≤ H18.size := Nat.le_trans hn17 hz18
  clear ht18 hvm18 hB18 hz18 hk18
  refine lv_asi (y := 0) ev_repeated ?_
  refine lv_icmp_ne (tgt := 158) hx hb dL_areAlike_96 (by decide) (fun c1 => absurd c1 (by decide)) (fun c1 => ?_)
  refine lv_aload_n hx hb dL_areAlike_99 rfl (lv_at hl0 0 rfl) ?_
  refine va_calli (va_runV (As := []) (rest := []) ⟨hx, hb, hml, hown, hts⟩ (k_X10_skipped l D a cZ cI st0 H18.size) (cwV 0 hts gL_areAlike_X10_skipped rfl rfl rfl (by decide +kernel) ⟨Nat.le_of_ble_eq_true rfl, Nat.le_of_ble_eq_true rfl⟩) ⟨blW okN_P, va_recv hKo (twoO hP18) (ci := 10) (q0 := 0) rfl rfl, preW (twoO hP18) hKo (twoOD hD) okN_P hN⟩ rfl rfl hl0.1 rfl (lv_room (Nat.le_of_ble_eq_true rfl)) dL_areAlike_100 ⟨Nat.le_of_ble_eq_true rfl, Nat.le_of_ble_eq_true rfl⟩) hS18 (aA_in hAo) (aA_free hAo hA hS18) (fun r19 u19 t19 H19 L19 ht19 hvm19 hw19 hB19 hz19 hk19 hS19 => ?_)
  obtain ⟨hu19, hr19⟩ := hw19
  subst u19; subst r19
  have hP19 : va_P D vwCl (wP a cZ cI st0 ++ wP b cZ2 cI2 st0) H19 := backO hP18 hD rfl hk19 (by rw [← ht19]; exact hB19.1)
  have hn19 : s.heap.size + 0 ≤ H19.size := Nat.le_trans hn18 hz19
  clear ht19 hvm19 hB19 hz19 hk19
  refine lv_asi (y := 0) ev_skipped ?_
  refine lv_aload_n hx hb dL_areAlike_103 rfl (lv_at hl0 1 rfl) ?_
  refine va_calli (va_runV (As := []) (rest := [.int 0]) ⟨hx, hb, hml, hown, hts⟩ (k_X10_skipped l D b cZ2 cI2 st0 H19.size) (cwV 0 hts gL_areAlike_X10_skipped rfl rfl rfl (by decide +kernel) ⟨Nat.le_of_ble_eq_true rfl, Nat.le_of_ble_eq_true rfl⟩) ⟨blW okN_P, va_recv hKp (twoP hP19) (ci := 10) (q0 := 0) rfl rfl, preW (twoP hP19) hKp (twoPD hD) okN_P hN⟩ rfl rfl hl0.1 rfl (lv_room (Nat.le_of_ble_eq_true rfl)) dL_areAlike_104 ⟨Nat.le_of_ble_eq_true rfl, Nat.le_of_ble_eq_true rfl⟩) hS19 (aA_in hAp) (aA_free hAp hA hS19) (fun r20 u20 t20 H20 L20 ht20 hvm20 hw20 hB20 hz20 hk20 hS20 => ?_)
  obtain ⟨hu20, hr20⟩ := hw20
  subst u20; subst r20
  have hP20 : va_P D vwCl (wP a cZ cI st0 ++ wP b cZ2 cI2 st0) H20 := backP hP19 hD rfl hk20 (by rw [← ht20]; exact hB20.1)
  have hn20 : s.heap.size + 0 ≤ H20.size := Nat.le_trans hn19 hz20
  clear ht20 hvm20 hB20 hz20 hk20
  refine lv_asi (y := 0) ev_skipped ?_
  refine lv_icmp_ne (tgt := 158) hx hb dL_areAlike_107 (by decide) (fun c1 => absurd c1 (by decide)) (fun c1 => ?_)
  refine lv_aload_n hx hb dL_areAlike_110 rfl (lv_at hl0 0 rfl) ?_
  refine va_calli (va_runV (As := []) (rest := []) ⟨hx, hb, hml, hown, hts⟩ (k_X10_wander l D a cZ cI st0 H20.size) (cwV 0 hts gL_areAlike_X10_wander rfl rfl rfl (by decide +kernel) ⟨Nat.le_of_ble_eq_true rfl, Nat.le_of_ble_eq_true rfl⟩) ⟨blW okN_P, va_recv hKo (twoO hP20) (ci := 10) (q0 := 0) rfl rfl, preW (twoO hP20) hKo (twoOD hD) okN_P hN⟩ rfl rfl hl0.1 rfl (lv_room (Nat.le_of_ble_eq_true rfl)) dL_areAlike_111 ⟨Nat.le_of_ble_eq_true rfl, Nat.le_of_ble_eq_true rfl⟩) hS20 (aA_in hAo) (aA_free hAo hA hS20) (fun r21 u21 t21 H21 L21 ht21 hvm21 hw21 hB21 hz21 hk21 hS21 => ?_)
  obtain ⟨hu21, hr21⟩ := hw21
  subst u21; subst r21
  have hP21 : va_P D vwCl (wP a cZ cI st0 ++ wP b cZ2 cI2 st0) H21 := backO hP20 hD rfl hk21 (by rw [← ht21]; exact hB21.1)
  have hn21 : s.heap.size + 0 ≤ H21.size := Nat.le_trans hn20 hz21
  clear ht21 hvm21 hB21 hz21 hk21
  refine lv_asi (y := 0) ev_wander ?_
  refine lv_aload_n hx hb dL_areAlike_114 rfl (lv_at hl0 1 rfl) ?_
  refine va_calli (va_runV (As := []) (rest := [.int 0]) ⟨hx, hb, hml, hown, hts⟩ (k_X10_wander l D b cZ2 cI2 st0 H21.size) (cwV 0 hts gL_areAlike_X10_wander rfl rfl rfl (by decide +kernel) ⟨Nat.le_of_ble_eq_true rfl, Nat.le_of_ble_eq_true rfl⟩) ⟨blW okN_P, va_recv hKp (twoP hP21) (ci := 10) (q0 := 0) rfl rfl, preW (twoP hP21) hKp (twoPD hD) okN_P hN⟩ rfl rfl hl0.1 rfl (lv_room (Nat.le_of_ble_eq_true rfl)) dL_areAlike_115 ⟨Nat.le_of_ble_eq_true rfl, Nat.le_of_ble_eq_true rfl⟩) hS21 (aA_in hAp) (aA_free hAp hA hS21) (fun r22 u22 t22 H22 L22 ht22 hvm22 hw22 hB22 hz22 hk22 hS22 => ?_)
  obtain ⟨hu22, hr22⟩ := hw22
  subst u22; subst r22
  have hP22 : va_P D vwCl (wP a cZ cI st0 ++ wP b cZ2 cI2 st0) H22 := backP hP21 hD rfl hk22 (by rw [← ht22]; exact hB22.1)
  have hn22 : s.heap.size + 0 ≤ H22.size := Nat.le_trans hn21 hz22
  clear ht22 hvm22 hB22 hz22 hk22
  refine lv_asi (y := 0) ev_wander ?_
  refine lv_icmp_ne (tgt := 158) hx hb dL_areAlike_118 (by decide) (fun c1 => absurd c1 (by decide)) (fun c1 => ?_)
  refine lv_aload_n hx hb dL_areAlike_121 rfl (lv_at hl0 0 rfl) ?_
  refine va_calli (va_runV (As := []) (rest := []) ⟨hx, hb, hml, hown, hts⟩ (k_X10_alignment l D a cZ cI st0 H22.size) (cwV 0 hts gL_areAlike_X10_alignment rfl rfl rfl (by decide +kernel) ⟨Nat.le_of_ble_eq_true rfl, Nat.le_of_ble_eq_true rfl⟩) ⟨blW okN_P, va_recv hKo (twoO hP22) (ci := 10) (q0 := 0) rfl rfl, preW (twoO hP22) hKo (twoOD hD) okN_P hN⟩ rfl rfl hl0.1 rfl (lv_room (Nat.le_of_ble_eq_true rfl)) dL_areAlike_122 ⟨Nat.le_of_ble_eq_true rfl, Nat.le_of_ble_eq_true rfl⟩) hS22 (aA_in hAo) (aA_free hAo hA hS22) (fun r23 u23 t23 H23 L23 ht23 hvm23 hw23 hB23 hz23 hk23 hS23 => ?_)
  obtain ⟨hu23, hr23⟩ := hw23
  subst u23; subst r23
  have hP23 : va_P D vwCl (wP a cZ cI st0 ++ wP b cZ2 cI2 st0) H23 := backO hP22 hD rfl hk23 (by rw [← ht23]; exact hB23.1)
  have hn23 : s.heap.size + 0 ≤ H23.size := Nat.le_trans hn22 hz23
  clear ht23 hvm23 hB23 hz23 hk23
  refine lv_asi (y := 0) ev_alignment ?_
  refine lv_aload_n hx hb dL_areAlike_125 rfl (lv_at hl0 1 rfl) ?_
  refine va_calli (va_runV (As := []) (rest := [.int 0]) ⟨hx, hb, hml, hown, hts⟩ (k_X10_alignment l D b cZ2 cI2 st0 H23.size) (cwV 0 hts gL_areAlike_X10_alignment rfl rfl rfl (by decide +kernel) ⟨Nat.le_of_ble_eq_true rfl, Nat.le_of_ble_eq_true rfl⟩) ⟨blW okN_P, va_recv hKp (twoP hP23) (ci := 10) (q0 := 0) rfl rfl, preW (twoP hP23) hKp (twoPD hD) okN_P hN⟩ rfl rfl hl0.1 rfl (lv_room (Nat.le_of_ble_eq_true rfl)) dL_areAlike_126 ⟨Nat.le_of_ble_eq_true rfl, Nat.le_of_ble_eq_true rfl⟩) hS23 (aA_in hAp) (aA_free hAp hA hS23) (fun r24 u24 t24 H24 L24 ht24 hvm24 hw24 hB24 hz24 hk24 hS24 => ?_)
  obtain ⟨hu24, hr24⟩ := hw24
  subst u24; subst r24
  have hP24 : va_P D vwCl (wP a cZ cI st0 ++ wP b cZ2 cI2 st0) H24 := backP hP23 hD rfl hk24 (by rw [← ht24]; exact hB24.1)
  have hn24 : s.heap.size + 0 ≤ H24.size := Nat.le_trans hn23 hz24
  clear ht24 hvm24 hB24 hz24 hk24
  refine lv_asi (y := 0) ev_alignment ?_
  refine lv_icmp_ne (tgt := 158) hx hb dL_areAlike_129 (by decide) (fun c1 => absurd c1 (by decide)) (fun c1 => ?_)
  refine lv_aload_n hx hb dL_areAlike_132 rfl (lv_at hl0 0 rfl) ?_
  refine va_calli (va_runV (As := []) (rest := []) ⟨hx, hb, hml, hown, hts⟩ (k_X10_frames l D a cZ cI st0 H24.size) (cwV 0 hts gL_areAlike_X10_frames rfl rfl rfl (by decide +kernel) ⟨Nat.le_of_ble_eq_true rfl, Nat.le_of_ble_eq_true rfl⟩) ⟨blW okN_P, va_recv hKo (twoO hP24) (ci := 10) (q0 := 0) rfl rfl, preW (twoO hP24) hKo (twoOD hD) okN_P hN⟩ rfl rfl hl0.1 rfl (lv_room (Nat.le_of_ble_eq_true rfl)) dL_areAlike_133 ⟨Nat.le_of_ble_eq_true rfl, Nat.le_of_ble_eq_true rfl⟩) hS24 (aA_in hAo) (aA_free hAo hA hS24) (fun r25 u25 t25 H25 L25 ht25 hvm25 hw25 hB25 hz25 hk25 hS25 => ?_)
  obtain ⟨hu25, hr25⟩ := hw25
  subst u25; subst r25
  have hP25 : va_P D vwCl (wP a cZ cI st0 ++ wP b cZ2 cI2 st0) H25 := backO hP24 hD rfl hk25 (by rw [← ht25]; exact hB25.1)
  have hn25 : s.heap.size + 0 ≤ H25.size := Nat.le_trans hn24 hz25
  clear ht25 hvm25 hB25 hz25 hk25
  refine lv_asi (y := 0) ev_frames ?_
  refine lv_aload_n hx hb dL_areAlike_136 rfl (lv_at hl0 1 rfl) ?_
  refine va_calli (va_runV (As := []) (rest := [.int 0]) ⟨hx, hb, hml, hown, hts⟩ (k_X10_frames l D b cZ2 cI2 st0 H25.size) (cwV 0 hts gL_areAlike_X10_frames rfl rfl rfl (by decide +kernel) ⟨Nat.le_of_ble_eq_true rfl, Nat.le_of_ble_eq_true rfl⟩) ⟨blW okN_P, va_recv hKp (twoP hP25) (ci := 10) (q0 := 0) rfl rfl, preW (twoP hP25) hKp (twoPD hD) okN_P hN⟩ rfl rfl hl0.1 rfl (lv_room (Nat.le_of_ble_eq_true rfl)) dL_areAlike_137 ⟨Nat.le_of_ble_eq_true rfl, Nat.le_of_ble_eq_true rfl⟩) hS25 (aA_in hAp) (aA_free hAp hA hS25) (fun r26 u26 t26 H26 L26 ht26 hvm26 hw26 hB26 hz26 hk26 hS26 => ?_)
  obtain ⟨hu26, hr26⟩ := hw26
  subst u26; subst r26
  have hP26 : va_P D vwCl (wP a cZ cI st0 ++ wP b cZ2 cI2 st0) H26 := backP hP25 hD rfl hk26 (by rw [← ht26]; exact hB26.1)
  have hn26 : s.heap.size + 0 ≤ H26.size := Nat.le_trans hn25 hz26
  clear ht26 hvm26 hB26 hz26 hk26
  refine lv_asi (y := 0) ev_frames ?_
  refine lv_icmp_ne (tgt := 158) hx hb dL_areAlike_140 (by decide) (fun c1 => absurd c1 (by decide)) (fun c1 => ?_)
  refine lv_aload_n hx hb dL_areAlike_143 rfl (lv_at hl0 0 rfl) ?_
  refine va_calli (va_runV (As := []) (rest := []) ⟨hx, hb, hml, hown, hts⟩ (k_X10_losses l D a cZ cI st0 H26.size) (cwV 0 hts gL_areAlike_X10_losses rfl rfl rfl (by decide +kernel) ⟨Nat.le_of_ble_eq_true rfl, Nat.le_of_ble_eq_true rfl⟩) ⟨blW okN_P, va_recv hKo (twoO hP26) (ci := 10) (q0 := 0) rfl rfl, preW (twoO hP26) hKo (twoOD hD) okN_P hN⟩ rfl rfl hl0.1 rfl (lv_room (Nat.le_of_ble_eq_true rfl)) dL_areAlike_144 ⟨Nat.le_of_ble_eq_true rfl, Nat.le_of_ble_eq_true rfl⟩) hS26 (aA_in hAo) (aA_free hAo hA hS26) (fun r27 u27 t27 H27 L27 ht27 hvm27 hw27 hB27 hz27 hk27 hS27 => ?_)
  obtain ⟨hu27, hr27⟩ := hw27
  subst u27; subst r27
  have hP27 : va_P D vwCl (wP a cZ cI st0 ++ wP b cZ2 cI2 st0) H27 := backO hP26 hD rfl hk27 (by rw [← ht27]; exact hB27.1)
  have hn27 : s.heap.size + 0 ≤ H27.size := Nat.le_trans hn26 hz27
  clear ht27 hvm27 hB27 hz27 hk27
  refine lv_asi (y := 0) ev_losses ?_
  refine lv_aload_n hx hb dL_areAlike_147 rfl (lv_at hl0 1 rfl) ?_
  refine va_calli (va_runV (As := []) (rest := [.int 0]) ⟨hx, hb, hml, hown, hts⟩ (k_X10_losses l D b cZ2 cI2 st0 H27.size) (cwV 0 hts gL_areAlike_X10_losses rfl rfl rfl (by decide +kernel) ⟨Nat.le_of_ble_eq_true rfl, Nat.le_of_ble_eq_true rfl⟩) ⟨blW okN_P, va_recv hKp (twoP hP27) (ci := 10) (q0 := 0) rfl rfl, preW (twoP hP27) hKp (twoPD hD) okN_P hN⟩ rfl rfl hl0.1 rfl (lv_room (Nat.le_of_ble_eq_true rfl)) dL_areAlike_148 ⟨Nat.le_of_ble_eq_true rfl, Nat.le_of_ble_eq_true rfl⟩) hS27 (aA_in hAp) (aA_free hAp hA hS27) (fun r28 u28 t28 H28 L28 ht28 hvm28 hw28 hB28 hz28 hk28 hS28 => ?_)
  obtain ⟨hu28, hr28⟩ := hw28
  subst u28; subst r28
  have hP28 : va_P D vwCl (wP a cZ cI st0 ++ wP b cZ2 cI2 st0) H28 := backP hP27 hD rfl hk28 (by rw [← ht28]; exact hB28.1)
  have hn28 : s.heap.size + 0 ≤ H28.size := Nat.le_trans hn27 hz28
  clear ht28 hvm28 hB28 hz28 hk28
  refine lv_asi (y := 0) ev_losses ?_
  refine lv_icmp_ne (tgt := 158) hx hb dL_areAlike_151 (by decide) (fun c1 => absurd c1 (by decide)) (fun c1 => ?_)
  refine lv_iconst (v := 1) hx hb dL_areAlike_154 (by decide) ?_
  refine lv_goto (tgt := 159) hx hb dL_areAlike_155 (by decide) ?_
  refine lv_istore_n (lv' := [(2, .int 1), (0, .ref (a 0)), (1, .ref (b 0))]) hx hb dL_areAlike_159 rfl hl0 (by decide) rfl (fun ls1 hl1 => ?_)
  refine lv_iconst (v := 1) hx hb dL_areAlike_160 (by decide) ?_
  refine lv_istore_n (lv' := [(3, .int 1), (2, .int 1), (0, .ref (a 0)), (1, .ref (b 0))]) hx hb dL_areAlike_161 rfl hl1 (by decide) rfl (fun ls2 hl2 => ?_)
  have LOOP : ∀ (fu i : Nat), i ≤ 32 → 32 < i + fu → ∀ (H29 : Heap) (L29 : List Loc), va_P D vwCl (wP a cZ cI st0 ++ wP b cZ2 cI2 st0) H29 → va_S A s.heap H29 L29 → s.heap.size + (2 * i) ≤ H29.size → ∀ ls3 : Array Slot, lv_has ls3 4 [(3, .int (nI (i + 1))), (2, .int 1), (0, .ref (a 0)), (1, .ref (b 0))] → W p l e (headSpec wsL_areAlike rm_L_areAlike).room s m ([.ref (a 0), .ref (b 0)] : List Value).toArray below meth c H29 L29 (2 * i) (12 * i) Q (F0 m 162 ls3 []) := by
    clear hP28 hS28 hn28 hl2
    intro fu
    induction fu with
    | zero => exact fun i h1 h2 => absurd h2 (by omega)
    | succ fu ih =>
      intro i hi hin H29 L29 hP29 hS29 hn29 ls3 hl3
      refine lv_iload_n hx hb dL_areAlike_162 rfl (lv_at hl3 0 rfl) ?_
      refine lv_bipush (v := 33) hx hb dL_areAlike_163 (by decide) ?_
      refine lv_icmp_ge (tgt := 197) hx hb dL_areAlike_165 (by decide) (fun c1 => ?_) (fun c1 => ?_)
      · have hie : i = 32 := by
          have := (nI_leI (a := 33) (b := i + 1) (by omega) (by omega)).mp c1
          omega
        subst hie
        have hn29 : s.heap.size + 64 ≤ H29.size := hn29
        refine W.widen (k := 64) (n := 384) (by decide) (by decide) ?_
        refine lv_iload_n hx hb dL_areAlike_197 rfl (lv_at hl3 1 rfl) ?_
        refine lv_if_eq (tgt := 229) hx hb dL_areAlike_198 (by decide) (fun c1 => absurd c1 (by decide)) (fun c1 => ?_)
        refine lv_aload_n hx hb dL_areAlike_201 rfl (lv_at hl3 2 rfl) ?_
        refine lv_iconst (v := 3) hx hb dL_areAlike_202 (by decide) ?_
        refine vx_calli (vx_runV (As := [.int 3]) (rest := []) ⟨hx, hb, hml, hown, hts⟩ (k_X10_cost l hfl D a cZ cI st0 H29.size 3) (cwV 1 hts gL_areAlike_X10_cost rfl rfl rfl (by decide +kernel) ⟨Nat.le_of_ble_eq_true rfl, Nat.le_of_ble_eq_true rfl⟩) ⟨blY, va_recv hKo (twoO hP29) (ci := 10) (q0 := 0) rfl rfl, preY (twoO hP29) hKo (twoOD hD) hNY hZ hS29 (aA_free hAo hA hS29)⟩ rfl rfl hl3.1 rfl (lv_room (Nat.le_of_ble_eq_true rfl)) dL_areAlike_203 ⟨Nat.le_of_ble_eq_true rfl, Nat.le_of_ble_eq_true rfl⟩) hS29 (aA_in hAo) (aA_free hAo hA hS29) (aA_in hAo) (fun E ce q9 u t H L ht hvm hw hB hz hk hS hce hcv hcl => absurd ((xcost0 (i := 3) (by decide)).symm.trans hw.2) (by decide)) (fun r30 u30 t30 H30 L30 ht30 hvm30 hw30 hB30 hz30 hk30 hS30 => ?_)
        obtain ⟨hx30, hu30, hr30⟩ := hw30
        subst u30; subst r30
        clear hx30
        have hP30 : va_P D vwCl (wP a cZ cI st0 ++ wP b cZ2 cI2 st0) H30 := backO hP29 hD rfl hk30 (by rw [← ht30]; exact hB30.1)
        have hn30 : s.heap.size + 64 ≤ H30.size := Nat.le_trans hn29 hz30
        clear ht30 hvm30 hB30 hz30 hk30
        refine W.widen (k := 65) (n := 390) (by decide) (by decide) ?_
        refine lv_asi (y := 0) (cost0 _) ?_
        refine lv_aload_n hx hb dL_areAlike_206 rfl (lv_at hl3 3 rfl) ?_
        refine lv_iconst (v := 3) hx hb dL_areAlike_207 (by decide) ?_
        refine vx_calli (vx_runV (As := [.int 3]) (rest := [.int 0]) ⟨hx, hb, hml, hown, hts⟩ (k_X10_cost l hfl D b cZ2 cI2 st0 H30.size 3) (cwV 1 hts gL_areAlike_X10_cost rfl rfl rfl (by decide +kernel) ⟨Nat.le_of_ble_eq_true rfl, Nat.le_of_ble_eq_true rfl⟩) ⟨blY, va_recv hKp (twoP hP30) (ci := 10) (q0 := 0) rfl rfl, preY (twoP hP30) hKp (twoPD hD) hNY hZ hS30 (aA_free hAp hA hS30)⟩ rfl rfl hl3.1 rfl (lv_room (Nat.le_of_ble_eq_true rfl)) dL_areAlike_208 ⟨Nat.le_of_ble_eq_true rfl, Nat.le_of_ble_eq_true rfl⟩) hS30 (aA_in hAp) (aA_free hAp hA hS30) (aA_in hAp) (fun E ce q9 u t H L ht hvm hw hB hz hk hS hce hcv hcl => absurd ((xcost0 (i := 3) (by decide)).symm.trans hw.2) (by decide)) (fun r31 u31 t31 H31 L31 ht31 hvm31 hw31 hB31 hz31 hk31 hS31 => ?_)
        obtain ⟨hx31, hu31, hr31⟩ := hw31
        subst u31; subst r31
        clear hx31
        have hP31 : va_P D vwCl (wP a cZ cI st0 ++ wP b cZ2 cI2 st0) H31 := backP hP30 hD rfl hk31 (by rw [← ht31]; exact hB31.1)
        have hn31 : s.heap.size + 64 ≤ H31.size := Nat.le_trans hn30 hz31
        clear ht31 hvm31 hB31 hz31 hk31
        refine W.widen (k := 66) (n := 396) (by decide) (by decide) ?_
        refine lv_asi (y := 0) (cost0 _) ?_
        refine lv_icmp_ne (tgt := 229) hx hb dL_areAlike_211 (by decide) (fun c1 => absurd c1 (by decide)) (fun c1 => ?_)
        refine lv_aload_n hx hb dL_areAlike_214 rfl (lv_at hl3 2 rfl) ?_
        refine va_calli (vx_runSW (As := [.ref (a 0)]) (rest := []) ⟨hx, hb, hml, hown, hts⟩ (k_L_phase l hfl D a cZ cI H31.size) (vx_cwSW 1 hts gL_areAlike_L_phase rfl rfl rfl (by decide +kernel) ⟨Nat.le_of_ble_eq_true rfl, Nat.le_of_ble_eq_true rfl⟩) ⟨blY, preY (twoO hP31) hKo (twoOD hD) hNY hZ hS31 (aA_free hAo hA hS31)⟩ rfl rfl hl3.1 rfl (lv_room (Nat.le_of_ble_eq_true rfl)) dL_areAlike_215 ⟨Nat.le_of_ble_eq_true rfl, Nat.le_of_ble_eq_true rfl⟩) hS31 (aA_in hAo) (aA_free hAo hA hS31) (fun r32 u32 t32 H32 L32 ht32 hvm32 hw32 hB32 hz32 hk32 hS32 => ?_)
        replace hw32 : r32 = (-99999) := hw32
        subst r32
        have hg32 := hB32.2
        rw [ht32] at hg32
        have hP32 : va_P D vwCl (wP a cZ cI st0 ++ wP b cZ2 cI2 st0) H32 := backO hP31 hD rfl hk32 (by rw [← ht32]; exact hB32.1.1)
        have hn32 : s.heap.size + 65 ≤ H32.size := (by have := hg32; have := hn31; omega)
        clear ht32 hvm32 hB32 hz32 hk32
        refine W.widen (k := 67) (n := 402) (by decide) (by decide) ?_
        refine lv_aload_n hx hb dL_areAlike_218 rfl (lv_at hl3 3 rfl) ?_
        refine va_calli (vx_runSW (As := [.ref (b 0)]) (rest := [.int (-99999)]) ⟨hx, hb, hml, hown, hts⟩ (k_L_phase l hfl D b cZ2 cI2 H32.size) (vx_cwSW 1 hts gL_areAlike_L_phase rfl rfl rfl (by decide +kernel) ⟨Nat.le_of_ble_eq_true rfl, Nat.le_of_ble_eq_true rfl⟩) ⟨blY, preY (twoP hP32) hKp (twoPD hD) hNY hZ hS32 (aA_free hAp hA hS32)⟩ rfl rfl hl3.1 rfl (lv_room (Nat.le_of_ble_eq_true rfl)) dL_areAlike_219 ⟨Nat.le_of_ble_eq_true rfl, Nat.le_of_ble_eq_true rfl⟩) hS32 (aA_in hAp) (aA_free hAp hA hS32) (fun r33 u33 t33 H33 L33 ht33 hvm33 hw33 hB33 hz33 hk33 hS33 => ?_)
        replace hw33 : r33 = (-99999) := hw33
        subst r33
        have hg33 := hB33.2
        rw [ht33] at hg33
        have hP33 : va_P D vwCl (wP a cZ cI st0 ++ wP b cZ2 cI2 st0) H33 := backP hP32 hD rfl hk33 (by rw [← ht33]; exact hB33.1.1)
        have hn33 : s.heap.size + 66 ≤ H33.size := (by have := hg33; have := hn32; omega)
        clear ht33 hvm33 hB33 hz33 hk33
        refine W.widen (k := 68) (n := 408) (by decide) (by decide) ?_
        refine lv_icmp_ne (tgt := 229) hx hb dL_areAlike_222 (by decide) (fun c1 => absurd c1 (by decide)) (fun c1 => ?_)
        refine lv_iconst (v := 1) hx hb dL_areAlike_225 (by decide) ?_
        refine lv_goto (tgt := 230) hx hb dL_areAlike_226 (by decide) ?_
        subst hQ; exact W.zret (v := 1) hx hb hr (by decide) (fun t ht hW => ⟨⟨1, (), rfl, rfl, ⟨endW hP33 hK hD ht hW, by rw [ht]; exact hn33⟩⟩, hS33.F ht⟩) hS33.2.2 dL_areAlike_230
      · have hlt : i < 32 := by
          apply Nat.lt_of_not_le
          intro q
          exact c1 ((nI_leI (a := 33) (b := i + 1) (by omega) (by omega)).mpr (by omega))
        refine lv_iload_n hx hb dL_areAlike_168 rfl (lv_at hl3 1 rfl) ?_
        refine lv_if_eq (tgt := 197) hx hb dL_areAlike_169 (by decide) (fun c1 => absurd c1 (by decide)) (fun c1 => ?_)
        refine lv_aload_n hx hb dL_areAlike_172 rfl (lv_at hl3 2 rfl) ?_
        refine lv_iload_n hx hb dL_areAlike_173 rfl (lv_at hl3 0 rfl) ?_
        refine va_calli (vx_runSW (As := [.ref (a 0), .int (nI (i + 1))]) (rest := []) ⟨hx, hb, hml, hown, hts⟩ (k_L_bit l hfl D a cZ cI H29.size (nI (i + 1))) (vx_cwSW 2 hts gL_areAlike_L_bit rfl rfl rfl (by decide +kernel) ⟨Nat.le_of_ble_eq_true rfl, Nat.le_of_ble_eq_true rfl⟩) ⟨blY, preY (twoO hP29) hKo (twoOD hD) hNY hZ hS29 (aA_free hAo hA hS29)⟩ rfl rfl hl3.1 rfl (lv_room (Nat.le_of_ble_eq_true rfl)) dL_areAlike_174 ⟨by show (2 * i) + 1 ≤ 68; omega, by show (12 * i) + 6 ≤ 408; omega⟩) hS29 (aA_in hAo) (aA_free hAo hA hS29) (fun r34 u34 t34 H34 L34 ht34 hvm34 hw34 hB34 hz34 hk34 hS34 => ?_)
        replace hw34 : r34 = (-99999) := hw34
        subst r34
        have hg34 := hB34.2
        rw [ht34] at hg34
        have hP34 : va_P D vwCl (wP a cZ cI st0 ++ wP b cZ2 cI2 st0) H34 := backO hP29 hD rfl hk34 (by rw [← ht34]; exact hB34.1.1)
        have hn34 : s.heap.size + (2 * i + 1) ≤ H34.size := (by have := hg34; have := hn29; omega)
        clear ht34 hvm34 hB34 hz34 hk34
        refine W.widen (k := (2 * i + 1)) (n := (12 * i + 6)) (by omega) (by omega) ?_
        refine lv_aload_n hx hb dL_areAlike_177 rfl (lv_at hl3 3 rfl) ?_
        refine lv_iload_n hx hb dL_areAlike_178 rfl (lv_at hl3 0 rfl) ?_
        refine va_calli (vx_runSW (As := [.ref (b 0), .int (nI (i + 1))]) (rest := [.int (-99999)]) ⟨hx, hb, hml, hown, hts⟩ (k_L_bit l hfl D b cZ2 cI2 H34.size (nI (i + 1))) (vx_cwSW 2 hts gL_areAlike_L_bit rfl rfl rfl (by decide +kernel) ⟨Nat.le_of_ble_eq_true rfl, Nat.le_of_ble_eq_true rfl⟩) ⟨blY, preY (twoP hP34) hKp (twoPD hD) hNY hZ hS34 (aA_free hAp hA hS34)⟩ rfl rfl hl3.1 rfl (lv_room (Nat.le_of_ble_eq_true rfl)) dL_areAlike_179 ⟨by show (2 * i + 1) + 1 ≤ 68; omega, by show (12 * i + 6) + 6 ≤ 408; omega⟩) hS34 (aA_in hAp) (aA_free hAp hA hS34) (fun r35 u35 t35 H35 L35 ht35 hvm35 hw35 hB35 hz35 hk35 hS35 => ?_)
        replace hw35 : r35 = (-99999) := hw35
        subst r35
        have hg35 := hB35.2
        rw [ht35] at hg35
        have hP35 : va_P D vwCl (wP a cZ cI st0 ++ wP b cZ2 cI2 st0) H35 := backP hP34 hD rfl hk35 (by rw [← ht35]; exact hB35.1.1)
        have hn35 : s.heap.size + (2 * i + 2) ≤ H35.size := (by have := hg35; have := hn34; omega)
        clear ht35 hvm35 hB35 hz35 hk35
        refine W.widen (k := (2 * i + 2)) (n := (12 * i + 12)) (by omega) (by omega) ?_
        refine lv_icmp_ne (tgt := 189) hx hb dL_areAlike_182 (by decide) (fun c1 => absurd c1 (by decide)) (fun c1 => ?_)
        refine lv_iconst (v := 1) hx hb dL_areAlike_185 (by decide) ?_
        refine lv_goto (tgt := 190) hx hb dL_areAlike_186 (by decide) ?_
        refine lv_istore_n (lv' := [(2, .int 1), (3, .int (nI (i + 1))), (0, .ref (a 0)), (1, .ref (b 0))]) hx hb dL_areAlike_190 rfl hl3 (by decide) rfl (fun ls4 hl4 => ?_)
        refine lv_iinc (v := nI (i + 1 + 1)) (lv' := [(3, .int (nI (i + 1 + 1))), (2, .int 1), (0, .ref (a 0)), (1, .ref (b 0))]) hx hb dL_areAlike_191 hl4 (k := 1) rfl (nI_add (i + 1) 1) (by decide) rfl (fun ls5 hl5 => ?_)
        refine lv_goto (tgt := 162) hx hb dL_areAlike_194 (by decide) ?_
        refine W.widen (k := 2 * (i + 1)) (n := 12 * (i + 1)) (by omega) (by omega) ?_
        exact ih (i + 1) (by omega) (by omega) _ _ hP35 hS35 (by have := hn35; omega) _ (lv_sub (l' := [(3, .int (nI (i + 1 + 1))), (2, .int 1), (0, .ref (a 0)), (1, .ref (b 0))]) hl5 [0, 1, 2, 3] rfl)
  exact LOOP 33 0 (Nat.zero_le _) (by omega) _ _ hP28 hS28 hn28 _ (lv_sub (l' := [(3, .int (nI (0 + 1))), (2, .int 1), (0, .ref (a 0)), (1, .ref (b 0))]) hl2 [0, 1, 2, 3] rfl)
