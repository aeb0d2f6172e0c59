def rm_L_areCostsSo : Room := { frames := 7, cells := 82, slots := 492, locals := 103 }
set_option maxRecDepth 100000 in
set_option maxHeartbeats 4000000 in
theorem k_L_areCostsSo (l : Launch) (hfl : l.stackTraces = false) (D : va_G) (a : Nat → Nat) (cZ cI : ClassId) (sz : Nat) : Met l yL_areCostsSo wsL_areCostsSo rm_L_areCostsSo (va_Pc [.ref (a 0)] (pY D (tyZI cZ cI) (wP a cZ cI st0) sz (adP a))) (va_Qi (fun (r : Int32) (_ : Unit) => r = 1) (fun _ t => oW D (tyZI cZ cI) (wP a cZ cI st0) (aA (adP a) sz) t) (aA (adP a) sz)) 82 492 (aA (adP a) sz) := by
  refine Met.ofW (cc := cL_areCostsSo) (maxL := 5) (ret := (some .boolean)) (by decide +kernel) rfl ?_
  intro p e s m args below meth c s₁ B hml hv
  obtain ⟨rfl, ⟨hsz, hP0, hK, hD9, hNY⟩, hZ⟩ := hv
  have hN := hNY.1
  have hx := B.exec
  have hb := B.bytes
  have hr := B.returns
  have hts := atoms_spec (ws := wsL_areCostsSo) B.pre
  have hown : s.vm.findClass RL = some m.cls := findClass_of_methodNamed B.named
  have hlocks := B.notSynchronized
  subst hsz
  have hD := aA_self (sz := s.heap.size) (as := adP a) hD9 rfl
  generalize hAe : aA (adP a) s.heap.size = A at hD hZ ⊢
  have hA : ∀ q : Nat, s.heap.size ≤ q → A q := fun q h => by rw [← hAe]; exact Or.inr h
  have hAc : ∀ q : Nat, q ∈ adP a → A q := fun q h => by rw [← hAe]; exact Or.inl h
  have hS0 : va_S A s.heap s.heap [] := va_S.rf
  have hn0 : s.heap.size + 0 ≤ s.heap.size := Nat.le_refl _
  have hl0 := lv_entry ([.ref (a 0)]) (n := 5) (Nat.le_of_ble_eq_true rfl)
  rw [lg_entry_eq]
  generalize (lg_sl ([.ref (a 0)]) ++ List.replicate (5 - (lg_sl ([.ref (a 0)])).length) Slot.unset).toArray = ls0 at hl0 ⊢
  have hl0 : lv_has ls0 5 [(0, .ref (a 0))] := hl0
  generalize hQ : MQ below _ _ s _ _ _ = Q
  clear hD9 B
  refine lv_aload_n hx hb dL_areCostsSo_0 rfl (lv_at hl0 0 rfl) ?_
  refine lv_iconst (v := 0) hx hb dL_areCostsSo_1 (by decide) ?_
  refine vx_calli (vx_runV (As := [.int 0]) (rest := []) ⟨hx, hb, hml, hown, hts⟩ (k_X10_cost l hfl D a cZ cI st0 s.heap.size 0) (cwV 1 hts gL_areCostsSo_X10_cost rfl rfl rfl (by decide +kernel) ⟨Nat.le_of_ble_eq_true rfl, Nat.le_of_ble_eq_true rfl⟩) ⟨blY, va_recv hK hP0 (ci := 10) (q0 := 0) rfl rfl, preY hP0 hK hD hNY hZ hS0 (aA_free hAc hA hS0)⟩ rfl rfl hl0.1 rfl (lv_room (Nat.le_of_ble_eq_true rfl)) dL_areCostsSo_2 ⟨Nat.le_of_ble_eq_true rfl, Nat.le_of_ble_eq_true rfl⟩) hS0 (aA_in hAc) (aA_free hAc hA hS0) (aA_in hAc) (fun E ce q9 u t H L ht hvm hw hB hz hk hS hce hcv hcl => absurd ((xcost0 (i := 0) (by decide)).symm.trans hw.2) (by decide)) (fun r1 u1 t1 H1 L1 ht1 hvm1 hw1 hB1 hz1 hk1 hS1 => ?_)
  obtain ⟨hx1, hu1, hr1⟩ := hw1
  subst u1; subst r1
  clear hx1
  have hP1 : va_P D vwCl (wP a cZ cI st0) H1 := (by rw [← ht1]; exact hB1.1)
  have hn1 : s.heap.size + 0 ≤ H1.size := Nat.le_trans hn0 hz1
  clear ht1 hvm1 hB1 hz1 hk1
  refine W.widen (k := 1) (n := 6) (by decide) (by decide) ?_
  refine lv_asi (y := 0) (cost0 _) ?_
  refine lv_aload_n hx hb dL_areCostsSo_5 rfl (lv_at hl0 0 rfl) ?_
  refine lv_bipush (v := 8) hx hb dL_areCostsSo_6 (by decide) ?_
  refine vx_calli (vx_runV (As := [.int 8]) (rest := [.int 0]) ⟨hx, hb, hml, hown, hts⟩ (k_X10_cost l hfl D a cZ cI st0 H1.size 8) (cwV 1 hts gL_areCostsSo_X10_cost rfl rfl rfl (by decide +kernel) ⟨Nat.le_of_ble_eq_true rfl, Nat.le_of_ble_eq_true rfl⟩) ⟨blY, va_recv hK hP1 (ci := 10) (q0 := 0) rfl rfl, preY hP1 hK hD hNY hZ hS1 (aA_free hAc hA hS1)⟩ rfl rfl hl0.1 rfl (lv_room (Nat.le_of_ble_eq_true rfl)) dL_areCostsSo_8 ⟨Nat.le_of_ble_eq_true rfl, Nat.le_of_ble_eq_true rfl⟩) hS1 (aA_in hAc) (aA_free hAc hA hS1) (aA_in hAc) (fun E ce q9 u t H L ht hvm hw hB hz hk hS hce hcv hcl => absurd ((xcost0 (i := 8) (by decide)).symm.trans hw.2) (by decide)) (fun r2 u2 t2 H2 L2 ht2 hvm2 hw2 hB2 hz2 hk2 hS2 => ?_)
  obtain ⟨hx2, hu2, hr2⟩ := hw2
  subst u2; subst r2
  clear hx2
  have hP2 : va_P D vwCl (wP a cZ cI st0) H2 := (by rw [← ht2]; exact hB2.1)
  have hn2 : s.heap.size + 0 ≤ H2.size := Nat.le_trans hn1 hz2
  clear ht2 hvm2 hB2 hz2 hk2
  refine W.widen (k := 2) (n := 12) (by decide) (by decide) ?_
  refine lv_asi (y := 0) (cost0 _) ?_
  refine lv_iadd hx hb dL_areCostsSo_11 ?_
  refine lv_asi (y := 0) (by decide +kernel) ?_
  refine lv_istore_n (lv' := [(1, .int 0), (0, .ref (a 0))]) hx hb dL_areCostsSo_12 rfl hl0 (by decide) rfl (fun ls1 hl1 => ?_)
  refine lv_aload_n hx hb dL_areCostsSo_13 rfl (lv_at hl1 1 rfl) ?_
  refine va_calli (va_runV (As := []) (rest := []) ⟨hx, hb, hml, hown, hts⟩ (k_X10_bestPhase l D a cZ cI st0 H2.size) (cwV 0 hts gL_areCostsSo_X10_bestPhase rfl rfl rfl (by decide +kernel) ⟨Nat.le_of_ble_eq_true rfl, Nat.le_of_ble_eq_true rfl⟩) ⟨blW okN_P, va_recv hK hP2 (ci := 10) (q0 := 0) rfl rfl, preW hP2 hK hD okN_P hN⟩ rfl rfl hl1.1 rfl (lv_room (Nat.le_of_ble_eq_true rfl)) dL_areCostsSo_14 ⟨Nat.le_of_ble_eq_true rfl, Nat.le_of_ble_eq_true rfl⟩) hS2 (aA_in hAc) (aA_free hAc hA hS2) (fun r3 u3 t3 H3 L3 ht3 hvm3 hw3 hB3 hz3 hk3 hS3 => ?_)
  obtain ⟨hu3, hr3⟩ := hw3
  subst u3; subst r3
  have hP3 : va_P D vwCl (wP a cZ cI st0) H3 := (by rw [← ht3]; exact hB3.1)
  have hn3 : s.heap.size + 0 ≤ H3.size := Nat.le_trans hn2 hz3
  clear ht3 hvm3 hB3 hz3 hk3
  refine lv_asi (y := 0) ev_bestPhase ?_
  refine lv_istore_n (lv' := [(2, .int 0), (1, .int 0), (0, .ref (a 0))]) hx hb dL_areCostsSo_17 rfl hl1 (by decide) rfl (fun ls2 hl2 => ?_)
  refine lv_iload_n hx hb dL_areCostsSo_18 rfl (lv_at hl2 1 rfl) ?_
  refine lv_bipush (v := 8) hx hb dL_areCostsSo_19 (by decide) ?_
  refine lv_irem hx hb dL_areCostsSo_21 (by decide) ?_
  refine lv_asi (y := 0) (by decide +kernel) ?_
  refine lv_if_ne (tgt := 40) hx hb dL_areCostsSo_22 (by decide) (fun c1 => absurd c1 (by decide)) (fun c1 => ?_)
  refine lv_iload_n hx hb dL_areCostsSo_25 rfl (lv_at hl2 1 rfl) ?_
  refine lv_if_lt (tgt := 40) hx hb dL_areCostsSo_26 (by decide) (fun c1 => absurd c1 (by decide)) (fun c1 => ?_)
  refine lv_iload_n hx hb dL_areCostsSo_29 rfl (lv_at hl2 1 rfl) ?_
  refine lv_sipush (v := 2048) hx hb dL_areCostsSo_30 (by decide) ?_
  refine lv_icmp_gt (tgt := 40) hx hb dL_areCostsSo_33 (by decide) (fun c1 => absurd c1 (by decide)) (fun c1 => ?_)
  refine lv_iconst (v := 1) hx hb dL_areCostsSo_36 (by decide) ?_
  refine lv_goto (tgt := 41) hx hb dL_areCostsSo_37 (by decide) ?_
  refine lv_istore_n (lv' := [(3, .int 1), (2, .int 0), (1, .int 0), (0, .ref (a 0))]) hx hb dL_areCostsSo_41 rfl hl2 (by decide) rfl (fun ls3 hl3 => ?_)
  refine lv_iconst (v := 0) hx hb dL_areCostsSo_42 (by decide) ?_
  refine lv_istore (lv' := [(4, .int 0), (3, .int 1), (2, .int 0), (1, .int 0), (0, .ref (a 0))]) hx hb dL_areCostsSo_43 hl3 (by decide) rfl (fun ls4 hl4 => ?_)
  have LOOP : ∀ (fu i : Nat), i ≤ 16 → 16 < i + fu → ∀ (H4 : Heap) (L4 : List Loc), va_P D vwCl (wP a cZ cI st0) H4 → va_S A s.heap H4 L4 → s.heap.size + 0 ≤ H4.size → ∀ ls5 : Array Slot, lv_has ls5 5 [(4, .int (nI i)), (3, .int 1), (2, .int 0), (1, .int 0), (0, .ref (a 0))] → W p l e (headSpec wsL_areCostsSo rm_L_areCostsSo).room s m ([.ref (a 0)] : List Value).toArray below meth c H4 L4 (2 + 5 * i) (12 + 30 * i) Q (F0 m 45 ls5 []) := by
    clear hP3 hS3 hn3 hl4
    intro fu
    induction fu with
    | zero => exact fun i h1 h2 => absurd h2 (by omega)
    | succ fu ih =>
      intro i hi hin H4 L4 hP4 hS4 hn4 ls5 hl5
      refine lv_iload hx hb dL_areCostsSo_45 (lv_at hl5 0 rfl) ?_
      refine lv_bipush (v := 16) hx hb dL_areCostsSo_47 (by decide) ?_
      refine lv_icmp_ge (tgt := 137) hx hb dL_areCostsSo_49 (by decide) (fun c1 => ?_) (fun c1 => ?_)
      · have hie : i = 16 := lp_ge (N := 16) (by decide) hi c1
        subst hie
        refine W.widen (k := 82) (n := 492) (by decide) (by decide) ?_
        refine lv_iload_n hx hb dL_areCostsSo_137 rfl (lv_at hl5 1 rfl) ?_
        subst hQ; exact W.zret (v := 1) hx hb hr (by decide) (fun t ht hW => ⟨⟨1, (), rfl, rfl, endW hP4 hK hD ht hW⟩, hS4.F ht⟩) hS4.2.2 dL_areCostsSo_138
      · have hlt : i < 16 := lp_lt (N := 16) (by decide) hi c1
        have h0i : (0 : Int32) ≤ nI i := (nI_leI (a := 0) (b := i) (by decide) (by omega)).mpr (Nat.zero_le _)
        refine lv_iload_n hx hb dL_areCostsSo_52 rfl (lv_at hl5 1 rfl) ?_
        refine lv_if_eq (tgt := 137) hx hb dL_areCostsSo_53 (by decide) (fun c1 => absurd c1 (by decide)) (fun c1 => ?_)
        refine lv_aload_n hx hb dL_areCostsSo_56 rfl (lv_at hl5 4 rfl) ?_
        refine lv_iload hx hb dL_areCostsSo_57 (lv_at hl5 0 rfl) ?_
        refine vx_calli (vx_runV (As := [.int (nI i)]) (rest := []) ⟨hx, hb, hml, hown, hts⟩ (k_X10_cost l hfl D a cZ cI st0 H4.size (nI i)) (cwV 1 hts gL_areCostsSo_X10_cost rfl rfl rfl (by decide +kernel) ⟨Nat.le_of_ble_eq_true rfl, Nat.le_of_ble_eq_true rfl⟩) ⟨blY, va_recv hK hP4 (ci := 10) (q0 := 0) rfl rfl, preY hP4 hK hD hNY hZ hS4 (aA_free hAc hA hS4)⟩ rfl rfl hl5.1 rfl (lv_room (Nat.le_of_ble_eq_true rfl)) dL_areCostsSo_59 ⟨by show (2 + 5 * i) + 1 ≤ 82; omega, by show (12 + 30 * i) + 6 ≤ 492; omega⟩) hS4 (aA_in hAc) (aA_free hAc hA hS4) (aA_in hAc) (fun E ce q9 u t H L ht hvm hw hB hz hk hS hce hcv hcl => absurd ((xcost0 hlt).symm.trans hw.2) (by decide)) (fun r5 u5 t5 H5 L5 ht5 hvm5 hw5 hB5 hz5 hk5 hS5 => ?_)
        obtain ⟨hx5, hu5, hr5⟩ := hw5
        subst u5; subst r5
        clear hx5
        have hP5 : va_P D vwCl (wP a cZ cI st0) H5 := (by rw [← ht5]; exact hB5.1)
        have hn5 : s.heap.size + 0 ≤ H5.size := Nat.le_trans hn4 hz5
        clear ht5 hvm5 hB5 hz5 hk5
        refine W.widen (k := (2 + 5 * i + 1)) (n := (12 + 30 * i + 6)) (by omega) (by omega) ?_
        refine lv_asi (y := 0) (cost0 _) ?_
        refine lv_aload_n hx hb dL_areCostsSo_62 rfl (lv_at hl5 4 rfl) ?_
        refine lv_iload hx hb dL_areCostsSo_63 (lv_at hl5 0 rfl) ?_
        refine lv_bipush (v := 8) hx hb dL_areCostsSo_65 (by decide) ?_
        refine lv_iadd hx hb dL_areCostsSo_67 ?_
        refine lv_asi (y := nI (i + 8)) (nI_add i 8) ?_
        refine lv_bipush (v := 16) hx hb dL_areCostsSo_68 (by decide) ?_
        refine lv_irem hx hb dL_areCostsSo_70 (by decide) ?_
        refine lv_asi (y := nI ((i + 8) % 16)) (irem_nI rfl rfl (by omega) (by decide) (by decide)) ?_
        refine vx_calli (vx_runV (As := [.int (nI ((i + 8) % 16))]) (rest := [.int 0]) ⟨hx, hb, hml, hown, hts⟩ (k_X10_cost l hfl D a cZ cI st0 H5.size (nI ((i + 8) % 16))) (cwV 1 hts gL_areCostsSo_X10_cost rfl rfl rfl (by decide +kernel) ⟨Nat.le_of_ble_eq_true rfl, Nat.le_of_ble_eq_true rfl⟩) ⟨blY, va_recv hK hP5 (ci := 10) (q0 := 0) rfl rfl, preY hP5 hK hD hNY hZ hS5 (aA_free hAc hA hS5)⟩ rfl rfl hl5.1 rfl (lv_room (Nat.le_of_ble_eq_true rfl)) dL_areCostsSo_71 ⟨by show (2 + 5 * i + 1) + 1 ≤ 82; omega, by show (12 + 30 * i + 6) + 6 ≤ 492; omega⟩) hS5 (aA_in hAc) (aA_free hAc hA hS5) (aA_in hAc) (fun E ce q9 u t H L ht hvm hw hB hz hk hS hce hcv hcl => absurd ((xcost0 (i := (i + 8) % 16) (Nat.mod_lt _ (by decide))).symm.trans hw.2) (by decide)) (fun r6 u6 t6 H6 L6 ht6 hvm6 hw6 hB6 hz6 hk6 hS6 => ?_)
        obtain ⟨hx6, hu6, hr6⟩ := hw6
        subst u6; subst r6
        clear hx6
        have hP6 : va_P D vwCl (wP a cZ cI st0) H6 := (by rw [← ht6]; exact hB6.1)
        have hn6 : s.heap.size + 0 ≤ H6.size := Nat.le_trans hn5 hz6
        clear ht6 hvm6 hB6 hz6 hk6
        refine W.widen (k := (2 + 5 * i + 2)) (n := (12 + 30 * i + 12)) (by omega) (by omega) ?_
        refine lv_asi (y := 0) (cost0 _) ?_
        refine lv_iadd hx hb dL_areCostsSo_74 ?_
        refine lv_asi (y := 0) (by decide +kernel) ?_
        refine lv_iload_n hx hb dL_areCostsSo_75 rfl (lv_at hl5 3 rfl) ?_
        refine lv_icmp_ne (tgt := 129) hx hb dL_areCostsSo_76 (by decide) (fun c1 => absurd c1 (by decide)) (fun c1 => ?_)
        refine lv_aload_n hx hb dL_areCostsSo_79 rfl (lv_at hl5 4 rfl) ?_
        refine lv_iload hx hb dL_areCostsSo_80 (lv_at hl5 0 rfl) ?_
        refine vx_calli (vx_runV (As := [.int (nI i)]) (rest := []) ⟨hx, hb, hml, hown, hts⟩ (k_X10_cost l hfl D a cZ cI st0 H6.size (nI i)) (cwV 1 hts gL_areCostsSo_X10_cost rfl rfl rfl (by decide +kernel) ⟨Nat.le_of_ble_eq_true rfl, Nat.le_of_ble_eq_true rfl⟩) ⟨blY, va_recv hK hP6 (ci := 10) (q0 := 0) rfl rfl, preY hP6 hK hD hNY hZ hS6 (aA_free hAc hA hS6)⟩ rfl rfl hl5.1 rfl (lv_room (Nat.le_of_ble_eq_true rfl)) dL_areCostsSo_82 ⟨by show (2 + 5 * i + 2) + 1 ≤ 82; omega, by show (12 + 30 * i + 12) + 6 ≤ 492; omega⟩) hS6 (aA_in hAc) (aA_free hAc hA hS6) (aA_in hAc) (fun E ce q9 u t H L ht hvm hw hB hz hk hS hce hcv hcl => absurd ((xcost0 hlt).symm.trans hw.2) (by decide)) (fun r7 u7 t7 H7 L7 ht7 hvm7 hw7 hB7 hz7 hk7 hS7 => ?_)
        obtain ⟨hx7, hu7, hr7⟩ := hw7
        subst u7; subst r7
        clear hx7
        have hP7 : va_P D vwCl (wP a cZ cI st0) H7 := (by rw [← ht7]; exact hB7.1)
        have hn7 : s.heap.size + 0 ≤ H7.size := Nat.le_trans hn6 hz7
        clear ht7 hvm7 hB7 hz7 hk7
        refine W.widen (k := (2 + 5 * i + 3)) (n := (12 + 30 * i + 18)) (by omega) (by omega) ?_
        refine lv_asi (y := 0) (cost0 _) ?_
        refine lv_if_lt (tgt := 129) hx hb dL_areCostsSo_85 (by decide) (fun c1 => absurd c1 (by decide)) (fun c1 => ?_)
        refine lv_iload hx hb dL_areCostsSo_88 (lv_at hl5 0 rfl) ?_
        refine lv_iload_n hx hb dL_areCostsSo_90 rfl (lv_at hl5 2 rfl) ?_
        refine lv_icmp_ge (tgt := 111) hx hb dL_areCostsSo_91 (by decide) (fun _ => ?_) (fun c1 => absurd h0i c1)
        refine lv_aload_n hx hb dL_areCostsSo_111 rfl (lv_at hl5 4 rfl) ?_
        refine lv_iload hx hb dL_areCostsSo_112 (lv_at hl5 0 rfl) ?_
        refine vx_calli (vx_runV (As := [.int (nI i)]) (rest := []) ⟨hx, hb, hml, hown, hts⟩ (k_X10_cost l hfl D a cZ cI st0 H7.size (nI i)) (cwV 1 hts gL_areCostsSo_X10_cost rfl rfl rfl (by decide +kernel) ⟨Nat.le_of_ble_eq_true rfl, Nat.le_of_ble_eq_true rfl⟩) ⟨blY, va_recv hK hP7 (ci := 10) (q0 := 0) rfl rfl, preY hP7 hK hD hNY hZ hS7 (aA_free hAc hA hS7)⟩ rfl rfl hl5.1 rfl (lv_room (Nat.le_of_ble_eq_true rfl)) dL_areCostsSo_114 ⟨by show (2 + 5 * i + 3) + 1 ≤ 82; omega, by show (12 + 30 * i + 18) + 6 ≤ 492; omega⟩) hS7 (aA_in hAc) (aA_free hAc hA hS7) (aA_in hAc) (fun E ce q9 u t H L ht hvm hw hB hz hk hS hce hcv hcl => absurd ((xcost0 hlt).symm.trans hw.2) (by decide)) (fun r8 u8 t8 H8 L8 ht8 hvm8 hw8 hB8 hz8 hk8 hS8 => ?_)
        obtain ⟨hx8, hu8, hr8⟩ := hw8
        subst u8; subst r8
        clear hx8
        have hP8 : va_P D vwCl (wP a cZ cI st0) H8 := (by rw [← ht8]; exact hB8.1)
        have hn8 : s.heap.size + 0 ≤ H8.size := Nat.le_trans hn7 hz8
        clear ht8 hvm8 hB8 hz8 hk8
        refine W.widen (k := (2 + 5 * i + 4)) (n := (12 + 30 * i + 24)) (by omega) (by omega) ?_
        refine lv_asi (y := 0) (cost0 _) ?_
        refine lv_aload_n hx hb dL_areCostsSo_117 rfl (lv_at hl5 4 rfl) ?_
        refine lv_iload_n hx hb dL_areCostsSo_118 rfl (lv_at hl5 2 rfl) ?_
        refine vx_calli (vx_runV (As := [.int 0]) (rest := [.int 0]) ⟨hx, hb, hml, hown, hts⟩ (k_X10_cost l hfl D a cZ cI st0 H8.size 0) (cwV 1 hts gL_areCostsSo_X10_cost rfl rfl rfl (by decide +kernel) ⟨Nat.le_of_ble_eq_true rfl, Nat.le_of_ble_eq_true rfl⟩) ⟨blY, va_recv hK hP8 (ci := 10) (q0 := 0) rfl rfl, preY hP8 hK hD hNY hZ hS8 (aA_free hAc hA hS8)⟩ rfl rfl hl5.1 rfl (lv_room (Nat.le_of_ble_eq_true rfl)) dL_areCostsSo_119 ⟨by show (2 + 5 * i + 4) + 1 ≤ 82; omega, by show (12 + 30 * i + 24) + 6 ≤ 492; omega⟩) hS8 (aA_in hAc) (aA_free hAc hA hS8) (aA_in hAc) (fun E ce q9 u t H L ht hvm hw hB hz hk hS hce hcv hcl => absurd ((xcost0 (i := 0) (by decide)).symm.trans hw.2) (by decide)) (fun r9 u9 t9 H9 L9 ht9 hvm9 hw9 hB9 hz9 hk9 hS9 => ?_)
        obtain ⟨hx9, hu9, hr9⟩ := hw9
        subst u9; subst r9
        clear hx9
        have hP9 : va_P D vwCl (wP a cZ cI st0) H9 := (by rw [← ht9]; exact hB9.1)
        have hn9 : s.heap.size + 0 ≤ H9.size := Nat.le_trans hn8 hz9
        clear ht9 hvm9 hB9 hz9 hk9
        refine W.widen (k := (2 + 5 * i + 5)) (n := (12 + 30 * i + 30)) (by omega) (by omega) ?_
        refine lv_asi (y := 0) (cost0 _) ?_
        refine lv_icmp_lt (tgt := 129) hx hb dL_areCostsSo_122 (by decide) (fun c1 => absurd c1 (by decide)) (fun c1 => ?_)
        refine lv_iconst (v := 1) hx hb dL_areCostsSo_125 (by decide) ?_
        refine lv_goto (tgt := 130) hx hb dL_areCostsSo_126 (by decide) ?_
        refine lv_istore_n (lv' := [(3, .int 1), (4, .int (nI i)), (2, .int 0), (1, .int 0), (0, .ref (a 0))]) hx hb dL_areCostsSo_130 rfl hl5 (by decide) rfl (fun ls6 hl6 => ?_)
        refine lv_iinc (v := nI (i + 1)) (lv' := [(4, .int (nI (i + 1))), (3, .int 1), (2, .int 0), (1, .int 0), (0, .ref (a 0))]) hx hb dL_areCostsSo_131 hl6 (k := 1) rfl (nI_add i 1) (by decide) rfl (fun ls7 hl7 => ?_)
        refine lv_goto (tgt := 45) hx hb dL_areCostsSo_134 (by decide) ?_
        refine W.widen (k := 2 + 5 * (i + 1)) (n := 12 + 30 * (i + 1)) (by omega) (by omega) ?_
        exact ih (i + 1) (by omega) (by omega) _ _ hP9 hS9 hn9 _ (lv_sub (l' := [(4, .int (nI (i + 1))), (3, .int 1), (2, .int 0), (1, .int 0), (0, .ref (a 0))]) hl7 [0, 1, 2, 3, 4] rfl)
  exact LOOP 17 0 (Nat.zero_le _) (by omega) _ _ hP3 hS3 hn3 _ (lv_sub (l' := [(4, .int (nI 0)), (3, .int 1), (2, .int 0), (1, .int 0), (0, .ref (a 0))]) hl4 [0, 1, 2, 3, 4] rfl)
