def lw9F (p : Program) (l : Launch) (s : State) (m : MethodId) (meth : Method) (c : Code) (D : va_G) (b : Nat) (xs : Nat → Int32) (a b2 : Nat → Nat) (cZ cI cZ2 cI2 : ClassId) : Prop := lw_At p s m meth c b 56 xs ∧ (∀ k, k < 56 → xs k = 5) ∧ l.stackTraces = false ∧ nY s ∧ xZ (lwA s) s s.heap ∧ va_K D vwCl [(cZ, .boolean), (cI, .int), (cZ2, .boolean), (cI2, .int)] s ∧ va_D (lwA s) (wP a cZ cI st0 ++ wP b2 cZ2 cI2 st0)
set_option maxHeartbeats 4000000 in
set_option maxRecDepth 100000 in
theorem law9_loop {p : Program} {l : Launch} {e : Env} {s : State} {m : MethodId} {below : List Frame} {meth : Method} {c : Code} {D : va_G} {b : Nat} {xs : Nat → Int32} {a b2 : Nat → Nat} {cZ cI cZ2 cI2 : ClassId} (F : lw9F p l s m meth c D b xs a b2 cZ cI cZ2 cI2) : ∀ (fu k : Nat), k + fu = 56 → ∀ (H : Heap) (L : List Loc) (ls : Array Slot), va_P D vwCl (wP a cZ cI st0 ++ wP b2 cZ2 cI2 st0) H → va_S (lwA s) s.heap H L → s.heap.size + 35 * k ≤ H.size → lv_has ls 6 [(3, .int (nI k)), (2, .ref (b2 0)), (1, .ref (a 0)), (0, .ref b)] → W p l e room_9 s m #[Value.ref b] below meth c H L (26 + 190 * k) (674 + 1200 * k) (lw_Z below #[Value.ref b] s) (F0 m 18 ls []) := by
  obtain ⟨⟨hx, hb, hr, hml, hown, hts0, hX, hbl, hlocks, hgv⟩, h5, hfl, hNY, hZ, hK, hD⟩ := id F
  have hts : ∀ w ∈ wsL_law, w.before #[Value.ref b] s = true := fun w h => hts0 w (wsL_law_in w h)
  have hA : ∀ q : Nat, s.heap.size ≤ q → lwA s q := fun _ h => h
  have hAo := adA (twoOD hD) (as := adP a) rfl
  have hAp := adA (twoPD hD) (as := adP b2) rfl
  have hAb := adA hD (as := adP a ++ adP b2) rfl
  have hKo := hK.sub (tys' := tyZI cZ cI) [0, 1] rfl
  have hKp := hK.sub (tys' := tyZI cZ2 cI2) [2, 3] rfl
  have hbA : ¬ lwA s b := Nat.not_le.mpr hbl
  intro fu
  induction fu with
  | zero =>
    intro k hk H L ls hP hS hn hl
    have hk : k = 56 := by omega
    refine lv_iload_n hx hb dL_law_18 rfl (lv_at hl 0 rfl) ?_
    refine lv_bipush (v := 56) hx hb dL_law_19 (by decide) ?_
    have hge : nI 56 ≤ nI k := (nI_leI (by decide) (by omega)).mpr (by omega)
    refine lv_icmp_ge (tgt := 108) hx hb dL_law_21 (by decide) (fun _ => ?_) (fun c1 => absurd hge c1)
    refine lv_aload_n hx hb dL_law_108 rfl (lv_at hl 2 rfl) ?_
    refine lv_aload_n hx hb dL_law_109 rfl (lv_at hl 1 rfl) ?_
    refine va_calli (va_runS (As := [.ref (a 0), .ref (b2 0)]) (rest := []) ⟨hx, hb, hml, hown, hts⟩ (k_L_areAlike l hfl D a cZ cI b2 cZ2 cI2 H.size) (va_cwS 2 hts gL_law_L_areAlike rfl rfl rfl (by decide +kernel) ⟨Nat.le_of_ble_eq_true rfl, Nat.le_of_ble_eq_true rfl⟩) ⟨blY, preY hP hK hD hNY hZ hS (aA_free hAb hA hS)⟩ rfl rfl hl.1 rfl (lv_room (Nat.le_of_ble_eq_true rfl)) dL_law_110 ⟨by show (26 + 190 * k) + 68 ≤ 11000; omega, by show (674 + 1200 * k) + 408 ≤ 70000; omega⟩) hS (aA_in hAb) (aA_free hAb hA hS) (fun r1 u1 t1 H1 L1 ht1 hvm1 hw1 hB1 hz1 hk1 hS1 => ?_)
    replace hw1 : r1 = 1 := hw1
    subst r1
    have hP1 : va_P D vwCl (wP a cZ cI st0 ++ wP b2 cZ2 cI2 st0) H1 := by rw [← ht1]; exact hB1.1.1
    have hn1 : s.heap.size + 35 * k ≤ H1.size := Nat.le_trans hn hz1
    clear ht1 hvm1 hB1 hz1 hk1
    refine W.widen (k := 26 + 190 * k + 68) (n := 674 + 1200 * k + 408) (by omega) (by omega) ?_
    refine lv_if_eq (tgt := 127) hx hb dL_law_113 (by decide) (fun c1 => absurd c1 (by decide)) (fun _ => ?_)
    refine lv_aload_n hx hb dL_law_116 rfl (lv_at hl 2 rfl) ?_
    refine va_calli (va_runS (As := [.ref (a 0)]) (rest := []) ⟨hx, hb, hml, hown, hts⟩ (k_L_areCostsSo l hfl D a cZ cI H1.size) (va_cwS 1 hts gL_law_L_areCostsSo rfl rfl rfl (by decide +kernel) ⟨Nat.le_of_ble_eq_true rfl, Nat.le_of_ble_eq_true rfl⟩) ⟨blY, preY (twoO hP1) hKo (twoOD hD) hNY hZ hS1 (aA_free hAo hA hS1)⟩ rfl rfl hl.1 rfl (lv_room (Nat.le_of_ble_eq_true rfl)) dL_law_117 ⟨by show (26 + 190 * k + 68) + 82 ≤ 11000; omega, by show (674 + 1200 * k + 408) + 492 ≤ 70000; omega⟩) hS1 (aA_in hAo) (aA_free hAo hA hS1) (fun r2 u2 t2 H2 L2 ht2 hvm2 hw2 hB2 hz2 hk2 hS2 => ?_)
    replace hw2 : r2 = 1 := hw2
    subst r2
    have hP2 : va_P D vwCl (wP a cZ cI st0 ++ wP b2 cZ2 cI2 st0) H2 := backO hP1 hD rfl hk2 (by rw [← ht2]; exact hB2.1)
    have hn2 : s.heap.size + 35 * k ≤ H2.size := Nat.le_trans hn1 hz2
    clear ht2 hvm2 hB2 hz2 hk2
    refine W.widen (k := 26 + 190 * k + 150) (n := 674 + 1200 * k + 900) (by omega) (by omega) ?_
    refine lv_if_eq (tgt := 127) hx hb dL_law_120 (by decide) (fun c1 => absurd c1 (by decide)) (fun _ => ?_)
    refine lv_iconst (v := 1) hx hb dL_law_123 (by decide) ?_
    refine lv_goto (tgt := 128) hx hb dL_law_124 (by decide) ?_
    refine va_forget (fun q hq => hS2.2.2 q hq) ?_
    refine W.widen (k := 11000) (n := 70000) (by omega) (by omega) ?_
    exact lw_ret hx hb hr hlocks (by have := hn2; omega) dL_law_128
  | succ fu ih =>
    intro k hk H L ls hP hS hn hl
    have hk6 : k < 56 := by omega
    refine lv_iload_n hx hb dL_law_18 rfl (lv_at hl 0 rfl) ?_
    refine lv_bipush (v := 56) hx hb dL_law_19 (by decide) ?_
    have hge : ¬ nI 56 ≤ nI k := fun q => by
      have := (nI_leI (a := 56) (b := k) (by decide) (by omega)).mp q
      omega
    refine lv_icmp_ge (tgt := 108) hx hb dL_law_21 (by decide) (fun c1 => absurd c1 hge) (fun _ => ?_)
    refine lv_aload_n hx hb dL_law_24 rfl (lv_at hl 3 rfl) ?_
    refine lv_iload_n hx hb dL_law_25 rfl (lv_at hl 0 rfl) ?_
    refine va_calli (va_runS (As := [.ref b, .int (nI k)]) (rest := []) ⟨hx, hb, hml, hown, hts⟩ (k_L_cell l b 56 xs H.size k hk6 (by decide)) (va_cwS 2 hts gL_law_L_cell rfl rfl rfl (by decide +kernel) ⟨Nat.le_of_ble_eq_true rfl, Nat.le_of_ble_eq_true rfl⟩) ⟨blX9, fun U hU hW => ⟨rfl, by rw [hU], by rw [hU]; exact va_X.moved hW.alike (va_X.kept hX (hS.2.1 b hbl hbA)), by rw [hU]; exact Nat.lt_of_lt_of_le hbl hS.1⟩⟩ rfl rfl hl.1 rfl (lv_room (Nat.le_of_ble_eq_true rfl)) dL_law_26 ⟨by show (26 + 190 * k) + 0 ≤ 11000; omega, by show (674 + 1200 * k) + 0 ≤ 70000; omega⟩) hS (fun q h1 h2 => absurd h1 (Nat.not_lt.mpr h2)) (fun q h => Nat.le_trans hS.1 h) (fun r1 u1 t1 H1 L1 ht1 hvm1 hw1 hB1 hz1 hk1 hS1 => ?_)
    replace hw1 : r1 = xs k := hw1
    rw [h5 k hk6] at hw1
    subst r1
    have hP1 : va_P D vwCl (wP a cZ cI st0 ++ wP b2 cZ2 cI2 st0) H1 := hP.kept (fun k q h => hk1 q.1 (hP k q h).lt (Nat.not_le.mpr (hP k q h).lt))
    have hn1 : s.heap.size + 35 * k ≤ H1.size := Nat.le_trans hn hz1
    clear ht1 hvm1 hB1 hz1 hk1
    refine lv_istore (lv' := [(4, .int 5), (3, .int (nI k)), (2, .ref (b2 0)), (1, .ref (a 0)), (0, .ref b)]) hx hb dL_law_29 hl (by decide) rfl (fun ls1 hl1 => ?_)
    refine lv_aload_n hx hb dL_law_31 rfl (lv_at hl1 3 rfl) ?_
    refine lv_iload hx hb dL_law_32 (lv_at hl1 0 rfl) ?_
    refine va_calli (va_runS (As := [.ref (a 0), .int 5]) (rest := []) ⟨hx, hb, hml, hown, hts⟩ (k_L_act l hfl D a cZ cI H1.size) (va_cwS 2 hts gL_law_L_act rfl rfl rfl (by decide +kernel) ⟨Nat.le_of_ble_eq_true rfl, Nat.le_of_ble_eq_true rfl⟩) ⟨blY, preY (twoO hP1) hKo (twoOD hD) hNY hZ hS1 (aA_free hAo hA hS1)⟩ rfl rfl hl1.1 rfl (lv_room (Nat.le_of_ble_eq_true rfl)) dL_law_34 ⟨by show (26 + 190 * k) + 0 ≤ 11000; omega, by show (674 + 1200 * k) + 0 ≤ 70000; omega⟩) hS1 (aA_in hAo) (aA_free hAo hA hS1) (fun r2 u2 t2 H2 L2 ht2 hvm2 hw2 hB2 hz2 hk2 hS2 => ?_)
    replace hw2 : r2 = 0 := hw2
    subst r2
    have hP2 : va_P D vwCl (wP a cZ cI st0 ++ wP b2 cZ2 cI2 st0) H2 := backO hP1 hD rfl hk2 (by rw [← ht2]; exact hB2.1)
    have hn2 : s.heap.size + 35 * k ≤ H2.size := Nat.le_trans hn1 hz2
    clear ht2 hvm2 hB2 hz2 hk2
    refine W.widen (k := 26 + 190 * k + 0) (n := 674 + 1200 * k + 0) (by omega) (by omega) ?_
    refine lv_istore (lv' := [(5, .int 0), (4, .int 5), (3, .int (nI k)), (2, .ref (b2 0)), (1, .ref (a 0)), (0, .ref b)]) hx hb dL_law_37 hl1 (by decide) rfl (fun ls2 hl2 => ?_)
    refine lv_iload hx hb dL_law_39 (lv_at hl2 0 rfl) ?_
    refine lv_ldc (v := (-99999)) hx hb hown (hts0 (.constant RL 25 (-99999)) (by decide +kernel)) dL_law_41 ?_
    refine lv_icmp_eq (tgt := 57) hx hb dL_law_43 (by decide) (fun c1 => absurd c1 (by decide)) (fun _ => ?_)
    refine lv_aload_n hx hb dL_law_46 rfl (lv_at hl2 3 rfl) ?_
    refine lv_iload hx hb dL_law_47 (lv_at hl2 1 rfl) ?_
    refine va_calli (va_runS (As := [.ref (b2 0), .int 5]) (rest := []) ⟨hx, hb, hml, hown, hts⟩ (k_L_act l hfl D b2 cZ2 cI2 H2.size) (va_cwS 2 hts gL_law_L_act rfl rfl rfl (by decide +kernel) ⟨Nat.le_of_ble_eq_true rfl, Nat.le_of_ble_eq_true rfl⟩) ⟨blY, preY (twoP hP2) hKp (twoPD hD) hNY hZ hS2 (aA_free hAp hA hS2)⟩ rfl rfl hl2.1 rfl (lv_room (Nat.le_of_ble_eq_true rfl)) dL_law_49 ⟨by show (26 + 190 * k + 0) + 0 ≤ 11000; omega, by show (674 + 1200 * k + 0) + 0 ≤ 70000; omega⟩) hS2 (aA_in hAp) (aA_free hAp hA hS2) (fun r3 u3 t3 H3 L3 ht3 hvm3 hw3 hB3 hz3 hk3 hS3 => ?_)
    replace hw3 : r3 = 0 := hw3
    subst r3
    have hP3 : va_P D vwCl (wP a cZ cI st0 ++ wP b2 cZ2 cI2 st0) H3 := backP hP2 hD rfl hk3 (by rw [← ht3]; exact hB3.1)
    have hn3 : s.heap.size + 35 * k ≤ H3.size := Nat.le_trans hn2 hz3
    clear ht3 hvm3 hB3 hz3 hk3
    refine W.widen (k := 26 + 190 * k + 0) (n := 674 + 1200 * k + 0) (by omega) (by omega) ?_
    refine lv_iload hx hb dL_law_52 (lv_at hl2 0 rfl) ?_
    refine lv_icmp_ne (tgt := 100) hx hb dL_law_54 (by decide) (fun c1 => absurd c1 (by decide)) (fun _ => ?_)
    have J102 : ∀ (H9 : Heap) (L9 : List Loc), va_P D vwCl (wP a cZ cI st0 ++ wP b2 cZ2 cI2 st0) H9 → va_S (lwA s) s.heap H9 L9 → s.heap.size + 35 * (k + 1) ≤ H9.size → W p l e room_9 s m #[Value.ref b] below meth c H9 L9 (26 + 190 * k + 185) (674 + 1200 * k + 1110) (lw_Z below #[Value.ref b] s) (F0 m 102 ls2 []) := by
      intro H9 L9 hP9 hS9 hn9
      refine lv_iinc (v := nI (k + 1)) (lv' := [(3, .int (nI (k + 1))), (5, .int 0), (4, .int 5), (2, .ref (b2 0)), (1, .ref (a 0)), (0, .ref b)]) hx hb dL_law_102 hl2 (k := 2) rfl (nI_add k 1) (by decide) rfl (fun ls3 hl3 => ?_)
      refine lv_goto (tgt := 18) hx hb dL_law_105 (by decide) ?_
      refine W.widen (k := 26 + 190 * (k + 1)) (n := 674 + 1200 * (k + 1)) (by omega) (by omega) ?_
      exact ih (k + 1) (by omega) H9 L9 ls3 hP9 hS9 hn9 (lv_sub (l' := [(3, .int (nI (k + 1))), (2, .ref (b2 0)), (1, .ref (a 0)), (0, .ref b)]) hl3 [0, 3, 4, 5] rfl)
    have J72 : ∀ (H8 : Heap) (L8 : List Loc), va_P D vwCl (wP a cZ cI st0 ++ wP b2 cZ2 cI2 st0) H8 → va_S (lwA s) s.heap H8 L8 → s.heap.size + 35 * k ≤ H8.size → W p l e room_9 s m #[Value.ref b] below meth c H8 L8 (26 + 190 * k + 68) (674 + 1200 * k + 408) (lw_Z below #[Value.ref b] s) (F0 m 72 ls2 []) := by
      intro H8 L8 hP8 hS8 hn8
      refine lv_aload_n hx hb dL_law_72 rfl (lv_at hl2 4 rfl) ?_
      refine va_calli (va_runS (As := [.ref (a 0)]) (rest := []) ⟨hx, hb, hml, hown, hts⟩ (k_L_isLineSo l hfl D a cZ cI H8.size) (va_cwS 1 hts gL_law_L_isLineSo rfl rfl rfl (by decide +kernel) ⟨Nat.le_of_ble_eq_true rfl, Nat.le_of_ble_eq_true rfl⟩) ⟨blY, preY (twoO hP8) hKo (twoOD hD) hNY hZ hS8 (aA_free hAo hA hS8)⟩ rfl rfl hl2.1 rfl (lv_room (Nat.le_of_ble_eq_true rfl)) dL_law_73 ⟨by show (26 + 190 * k + 68) + 0 ≤ 11000; omega, by show (674 + 1200 * k + 408) + 0 ≤ 70000; omega⟩) hS8 (aA_in hAo) (aA_free hAo hA hS8) (fun r21 u21 t21 H21 L21 ht21 hvm21 hw21 hB21 hz21 hk21 hS21 => ?_)
      replace hw21 : r21 = 1 := hw21
      subst r21
      have hP21 : va_P D vwCl (wP a cZ cI st0 ++ wP b2 cZ2 cI2 st0) H21 := backO hP8 hD rfl hk21 (by rw [← ht21]; exact hB21.1)
      have hn21 : s.heap.size + 35 * k ≤ H21.size := Nat.le_trans hn8 hz21
      clear ht21 hvm21 hB21 hz21 hk21
      refine W.widen (k := 26 + 190 * k + 68) (n := 674 + 1200 * k + 408) (by omega) (by omega) ?_
      refine lv_if_eq (tgt := 100) hx hb dL_law_76 (by decide) (fun c1 => absurd c1 (by decide)) (fun _ => ?_)
      refine lv_aload_n hx hb dL_law_79 rfl (lv_at hl2 4 rfl) ?_
      refine va_calli (va_runS (As := [.ref (a 0)]) (rest := []) ⟨hx, hb, hml, hown, hts⟩ (k_L_areBitsSo l hfl D a cZ cI H21.size) (va_cwS 1 hts gL_law_L_areBitsSo rfl rfl rfl (by decide +kernel) ⟨Nat.le_of_ble_eq_true rfl, Nat.le_of_ble_eq_true rfl⟩) ⟨blY, preY (twoO hP21) hKo (twoOD hD) hNY hZ hS21 (aA_free hAo hA hS21)⟩ rfl rfl hl2.1 rfl (lv_room (Nat.le_of_ble_eq_true rfl)) dL_law_80 ⟨by show (26 + 190 * k + 68) + 35 ≤ 11000; omega, by show (674 + 1200 * k + 408) + 210 ≤ 70000; omega⟩) hS21 (aA_in hAo) (aA_free hAo hA hS21) (fun r22 u22 t22 H22 L22 ht22 hvm22 hw22 hB22 hz22 hk22 hS22 => ?_)
      replace hw22 : r22 = 1 := hw22
      subst r22
      have hP22 : va_P D vwCl (wP a cZ cI st0 ++ wP b2 cZ2 cI2 st0) H22 := backO hP21 hD rfl hk22 (by rw [← ht22]; exact hB22.1.1)
      have hg22 := hB22.2
      rw [ht22] at hg22
      have hn22 : s.heap.size + 35 * (k + 1) ≤ H22.size := by have := hn21; omega
      clear ht22 hvm22 hB22 hz22 hk22
      refine W.widen (k := 26 + 190 * k + 103) (n := 674 + 1200 * k + 618) (by omega) (by omega) ?_
      refine lv_if_eq (tgt := 100) hx hb dL_law_83 (by decide) (fun c1 => absurd c1 (by decide)) (fun _ => ?_)
      refine lv_iload_n hx hb dL_law_86 rfl (lv_at hl2 2 rfl) ?_
      refine lv_iconst (v := 4) hx hb dL_law_87 (by decide) ?_
      refine lv_irem hx hb dL_law_88 (by decide) ?_
      refine lv_iconst (v := 1) hx hb dL_law_89 (by decide) ?_
      refine lv_icmp_ne (tgt := 102) hx hb dL_law_90 (by decide) (fun _ => W.widen (by omega) (by omega) (J102 _ _ hP22 hS22 hn22)) (fun _ => ?_)
      refine lv_aload_n hx hb dL_law_93 rfl (lv_at hl2 4 rfl) ?_
      refine va_calli (va_runS (As := [.ref (a 0)]) (rest := []) ⟨hx, hb, hml, hown, hts⟩ (k_L_areCostsSo l hfl D a cZ cI H22.size) (va_cwS 1 hts gL_law_L_areCostsSo rfl rfl rfl (by decide +kernel) ⟨Nat.le_of_ble_eq_true rfl, Nat.le_of_ble_eq_true rfl⟩) ⟨blY, preY (twoO hP22) hKo (twoOD hD) hNY hZ hS22 (aA_free hAo hA hS22)⟩ rfl rfl hl2.1 rfl (lv_room (Nat.le_of_ble_eq_true rfl)) dL_law_94 ⟨by show (26 + 190 * k + 103) + 82 ≤ 11000; omega, by show (674 + 1200 * k + 618) + 492 ≤ 70000; omega⟩) hS22 (aA_in hAo) (aA_free hAo hA hS22) (fun r23 u23 t23 H23 L23 ht23 hvm23 hw23 hB23 hz23 hk23 hS23 => ?_)
      replace hw23 : r23 = 1 := hw23
      subst r23
      have hP23 : va_P D vwCl (wP a cZ cI st0 ++ wP b2 cZ2 cI2 st0) H23 := backO hP22 hD rfl hk23 (by rw [← ht23]; exact hB23.1)
      have hn23 : s.heap.size + 35 * (k + 1) ≤ H23.size := Nat.le_trans hn22 hz23
      clear ht23 hvm23 hB23 hz23 hk23
      refine W.widen (k := 26 + 190 * k + 185) (n := 674 + 1200 * k + 1110) (by omega) (by omega) ?_
      exact lv_if_ne (tgt := 102) hx hb dL_law_97 (by decide) (fun _ => J102 _ _ hP23 hS23 hn23) (fun c1 => absurd c1 (by decide))
    refine lv_iload_n hx hb dL_law_57 rfl (lv_at hl2 2 rfl) ?_
    refine lv_iconst (v := 3) hx hb dL_law_58 (by decide) ?_
    refine lv_irem hx hb dL_law_59 (by decide) ?_
    refine lv_iconst (v := 2) hx hb dL_law_60 (by decide) ?_
    refine lv_icmp_ne (tgt := 72) hx hb dL_law_61 (by decide) (fun _ => W.widen (by omega) (by omega) (J72 _ _ hP3 hS3 hn3)) (fun _ => ?_)
    refine lv_aload_n hx hb dL_law_64 rfl (lv_at hl2 4 rfl) ?_
    refine lv_aload_n hx hb dL_law_65 rfl (lv_at hl2 3 rfl) ?_
    refine va_calli (va_runS (As := [.ref (a 0), .ref (b2 0)]) (rest := []) ⟨hx, hb, hml, hown, hts⟩ (k_L_areAlike l hfl D a cZ cI b2 cZ2 cI2 H3.size) (va_cwS 2 hts gL_law_L_areAlike rfl rfl rfl (by decide +kernel) ⟨Nat.le_of_ble_eq_true rfl, Nat.le_of_ble_eq_true rfl⟩) ⟨blY, preY hP3 hK hD hNY hZ hS3 (aA_free hAb hA hS3)⟩ rfl rfl hl2.1 rfl (lv_room (Nat.le_of_ble_eq_true rfl)) dL_law_66 ⟨by show (26 + 190 * k + 0) + 68 ≤ 11000; omega, by show (674 + 1200 * k + 0) + 408 ≤ 70000; omega⟩) hS3 (aA_in hAb) (aA_free hAb hA hS3) (fun r4 u4 t4 H4 L4 ht4 hvm4 hw4 hB4 hz4 hk4 hS4 => ?_)
    replace hw4 : r4 = 1 := hw4
    subst r4
    have hP4 : va_P D vwCl (wP a cZ cI st0 ++ wP b2 cZ2 cI2 st0) H4 := by rw [← ht4]; exact hB4.1.1
    have hn4 : s.heap.size + 35 * k ≤ H4.size := Nat.le_trans hn3 hz4
    clear ht4 hvm4 hB4 hz4 hk4
    refine W.widen (k := 26 + 190 * k + 68) (n := 674 + 1200 * k + 408) (by omega) (by omega) ?_
    exact lv_if_eq (tgt := 100) hx hb dL_law_69 (by decide) (fun c1 => absurd c1 (by decide)) (fun _ => J72 _ _ hP4 hS4 hn4)
