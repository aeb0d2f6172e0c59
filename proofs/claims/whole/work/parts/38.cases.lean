set_option maxHeartbeats 4000000 in
set_option maxRecDepth 100000 in
theorem cs_ticks {p : Program} {l : Launch} {e : Env} {s : State} {m : MethodId} {below : List Frame} {meth : Method} {c : Code} {D : va_G} {b L : Nat} {xs : Nat → Int32} {a a2 : Nat → Nat} {cZ cI cJ cZ2 cI2 : ClassId} {o k : Nat} {C M : St} {fo : Nat → Int64} {H : Heap} {locs : List Loc} {ls : Array Slot} (F : lwF p l s m meth c D b L xs cZ cI cJ cZ2 cI2) (hk : 3 * k + 2 < L) (hR : Rel (800 * k) C M) (hV : lwV s D a a2 cZ cI cJ cZ2 cI2 o C M fo H locs) (hl : lv_has ls 7 [(4, .int (nI (3 * k))), (0, .ref b), (1, .ref (a 0)), (2, .ref (a2 0)), (3, .ref o)]) (kont : lwN p l e s m below meth c D b a a2 cZ cI cJ cZ2 cI2 o k) : W p l e room_1 s m #[Value.ref b] below meth c H locs (17 + k) (663 + 6 * k) (lw_Z below #[Value.ref b] s) (F0 m 495 ls []) := by
  obtain ⟨⟨hx, hb, hr, hml, hown, hts0, hX, hbl, hlocks, hgv⟩, hL, hfl, hNY, hZ, hK⟩ := F
  have hts : ∀ w ∈ wsL_law, w.before #[Value.ref b] s = true := fun w h => hts0 w (wsL_law_in w h)
  have hA : ∀ q : Nat, s.heap.size ≤ q → lwA s q := fun _ h => h
  have hbA : ¬ lwA s b := Nat.not_le.mpr hbl
  obtain ⟨hP, hD, hS⟩ := hV
  have hin1 : vp_in (nI (3 * k + 1)) L := vp_in_nI (by omega) (by omega)
  have hin2 : vp_in (nI (3 * k + 2)) L := vp_in_nI (by omega) (by omega)
  have hn : 800 * k < 1000000 := by omega
  have hn2 : 800 * k + 800 < 1000000 := by omega
  have hm := Rel_M hR
  have hJ := Rel_J hR
  have hKc := hK.sub (tys' := tyZI cZ cI) [0, 1] rfl
  have hKm := hK.sub (tys' := tyZI cZ2 cI2) [3, 4] rfl
  have hPc := subP hP
  have hDc := subD hD
  have hAc : ∀ q : Nat, q ∈ adP a → lwA s q := adA hDc rfl
  refine lv_aload_n hx hb dL_law_495 rfl (lv_at hl 2 rfl) ?_
  refine va_calli (va_runV (As := []) (rest := []) ⟨hx, hb, hml, hown, hts⟩ (k_X10_ticks l D a cZ cI C H.size) (cwV 0 hts gL_law_X10_ticks rfl rfl rfl (by decide +kernel) ⟨Nat.le_of_ble_eq_true rfl, Nat.le_of_ble_eq_true rfl⟩) ⟨blW okN_P, va_recv hKc hPc (ci := 10) (q0 := 0) rfl rfl, preW hPc hKc hDc okN_P hNY.1⟩ rfl rfl hl.1 rfl (lv_room (Nat.le_of_ble_eq_true rfl)) dL_law_496 ⟨by show 17 + k + 0 ≤ 1052; omega, by show 663 + 6 * k + 0 ≤ 8921; omega⟩) hS (aA_in hAc) (aA_free hAc hA hS) (fun r1 u1 t1 H1 L1 ht1 hvm1 hw1 hB1 hz1 hk1 hS1 => ?_)
  obtain ⟨hP1, -, -⟩ := hB1
  rw [ht1] at hP1
  obtain ⟨hu1, hr1⟩ := hw1
  subst u1
  obtain ⟨hP2, hD2⟩ := joinW (as := adP a) hP hD rfl rfl hk1 hP1
  replace hP2 : va_P D vwCl ([] ++ (wM a2 cZ2 cI2 M ++ (wP a cZ cI C ++ wO o cJ fo))) H1 := hP2
  replace hD2 : va_D (lwA s) ([] ++ (wM a2 cZ2 cI2 M ++ (wP a cZ cI C ++ wO o cJ fo))) := hD2
  refine lv_aload_n hx hb dL_law_499 rfl (lv_at hl 3 rfl) ?_
  have hPm := subP hP2
  have hDm := subD hD2
  have hAm : ∀ q : Nat, q ∈ adM a2 → lwA s q := adA hDm rfl
  refine va_calli (va_runV (As := []) (rest := [.int r1]) ⟨hx, hb, hml, hown, hts⟩ (k_X11_ticks l D a2 cZ2 cI2 M H1.size) (cwV 0 hts gL_law_X11_ticks rfl rfl rfl (by decide +kernel) ⟨Nat.le_of_ble_eq_true rfl, Nat.le_of_ble_eq_true rfl⟩) ⟨blW okN_T, va_recv hKm hPm (ci := 11) (q0 := 0) rfl rfl, preW hPm hKm hDm okN_T trivial⟩ rfl rfl hl.1 rfl (lv_room (Nat.le_of_ble_eq_true rfl)) dL_law_500 ⟨by show 17 + k + 0 + 0 ≤ 1052; omega, by show 663 + 6 * k + 0 + 0 ≤ 8921; omega⟩) hS1 (aA_in hAm) (aA_free hAm hA hS1) (fun r2 u2 t2 H2 L2 ht2 hvm2 hw2 hB2 hz2 hk2 hS2 => ?_)
  obtain ⟨hP3, -, -⟩ := hB2
  rw [ht2] at hP3
  obtain ⟨hu2, hr2⟩ := hw2
  obtain ⟨hP4, hD4⟩ := joinW (as := adM a2) hP2 hD2 rfl rfl hk2 hP3
  replace hP4 : va_P D vwCl (wM a2 cZ2 cI2 u2 ++ (wP a cZ cI C ++ wO o cJ fo)) H2 := hP4
  replace hD4 : va_D (lwA s) (wM a2 cZ2 cI2 u2 ++ (wP a cZ cI C ++ wO o cJ fo)) := hD4
  have hRel : Rel (800 * k) C u2 := by rw [hu2]; exact Rel_thr (v := 0) hR
  have hEq : r1 = r2 := by rw [hr1, hr2]; exact q_get (k := 9) hR rfl (by decide)
  refine lv_icmp_eq (tgt := 885) hx hb dL_law_503 (by decide) (fun c1 => ?_) (fun c1 => absurd hEq c1)
  refine W.widen (k := 17 + (k + 1)) (n := 663 + 6 * (k + 1)) (by omega) (by omega) ?_
  exact kont C u2 fo H2 L2 ls (Rel_up hRel (by omega)) ⟨hP4, hD4, hS2⟩ hl

set_option maxHeartbeats 4000000 in
set_option maxRecDepth 100000 in
theorem cs_sent {p : Program} {l : Launch} {e : Env} {s : State} {m : MethodId} {below : List Frame} {meth : Method} {c : Code} {D : va_G} {b L : Nat} {xs : Nat → Int32} {a a2 : Nat → Nat} {cZ cI cJ cZ2 cI2 : ClassId} {o k : Nat} {C M : St} {fo : Nat → Int64} {H : Heap} {locs : List Loc} {ls : Array Slot} (F : lwF p l s m meth c D b L xs cZ cI cJ cZ2 cI2) (hk : 3 * k + 2 < L) (hR : Rel (800 * k) C M) (hV : lwV s D a a2 cZ cI cJ cZ2 cI2 o C M fo H locs) (hl : lv_has ls 7 [(4, .int (nI (3 * k))), (0, .ref b), (1, .ref (a 0)), (2, .ref (a2 0)), (3, .ref o)]) (kont : lwN p l e s m below meth c D b a a2 cZ cI cJ cZ2 cI2 o k) : W p l e room_1 s m #[Value.ref b] below meth c H locs (17 + k) (663 + 6 * k) (lw_Z below #[Value.ref b] s) (F0 m 508 ls []) := by
  obtain ⟨⟨hx, hb, hr, hml, hown, hts0, hX, hbl, hlocks, hgv⟩, hL, hfl, hNY, hZ, hK⟩ := F
  have hts : ∀ w ∈ wsL_law, w.before #[Value.ref b] s = true := fun w h => hts0 w (wsL_law_in w h)
  have hA : ∀ q : Nat, s.heap.size ≤ q → lwA s q := fun _ h => h
  have hbA : ¬ lwA s b := Nat.not_le.mpr hbl
  obtain ⟨hP, hD, hS⟩ := hV
  have hin1 : vp_in (nI (3 * k + 1)) L := vp_in_nI (by omega) (by omega)
  have hin2 : vp_in (nI (3 * k + 2)) L := vp_in_nI (by omega) (by omega)
  have hn : 800 * k < 1000000 := by omega
  have hn2 : 800 * k + 800 < 1000000 := by omega
  have hm := Rel_M hR
  have hJ := Rel_J hR
  have hKc := hK.sub (tys' := tyZI cZ cI) [0, 1] rfl
  have hKm := hK.sub (tys' := tyZI cZ2 cI2) [3, 4] rfl
  have hPc := subP hP
  have hDc := subD hD
  have hAc : ∀ q : Nat, q ∈ adP a → lwA s q := adA hDc rfl
  refine lv_aload_n hx hb dL_law_508 rfl (lv_at hl 2 rfl) ?_
  refine va_calli (va_runV (As := []) (rest := []) ⟨hx, hb, hml, hown, hts⟩ (k_X10_sent l D a cZ cI C H.size) (cwV 0 hts gL_law_X10_sent rfl rfl rfl (by decide +kernel) ⟨Nat.le_of_ble_eq_true rfl, Nat.le_of_ble_eq_true rfl⟩) ⟨blW okN_P, va_recv hKc hPc (ci := 10) (q0 := 0) rfl rfl, preW hPc hKc hDc okN_P hNY.1⟩ rfl rfl hl.1 rfl (lv_room (Nat.le_of_ble_eq_true rfl)) dL_law_509 ⟨by show 17 + k + 0 ≤ 1052; omega, by show 663 + 6 * k + 0 ≤ 8921; omega⟩) hS (aA_in hAc) (aA_free hAc hA hS) (fun r1 u1 t1 H1 L1 ht1 hvm1 hw1 hB1 hz1 hk1 hS1 => ?_)
  obtain ⟨hP1, -, -⟩ := hB1
  rw [ht1] at hP1
  obtain ⟨hu1, hr1⟩ := hw1
  subst u1
  obtain ⟨hP2, hD2⟩ := joinW (as := adP a) hP hD rfl rfl hk1 hP1
  replace hP2 : va_P D vwCl ([] ++ (wM a2 cZ2 cI2 M ++ (wP a cZ cI C ++ wO o cJ fo))) H1 := hP2
  replace hD2 : va_D (lwA s) ([] ++ (wM a2 cZ2 cI2 M ++ (wP a cZ cI C ++ wO o cJ fo))) := hD2
  refine lv_aload_n hx hb dL_law_512 rfl (lv_at hl 3 rfl) ?_
  have hPm := subP hP2
  have hDm := subD hD2
  have hAm : ∀ q : Nat, q ∈ adM a2 → lwA s q := adA hDm rfl
  refine va_calli (va_runV (As := []) (rest := [.int r1]) ⟨hx, hb, hml, hown, hts⟩ (k_X11_sent l D a2 cZ2 cI2 M H1.size) (cwV 0 hts gL_law_X11_sent rfl rfl rfl (by decide +kernel) ⟨Nat.le_of_ble_eq_true rfl, Nat.le_of_ble_eq_true rfl⟩) ⟨blW okN_T, va_recv hKm hPm (ci := 11) (q0 := 0) rfl rfl, preW hPm hKm hDm okN_T trivial⟩ rfl rfl hl.1 rfl (lv_room (Nat.le_of_ble_eq_true rfl)) dL_law_513 ⟨by show 17 + k + 0 + 0 ≤ 1052; omega, by show 663 + 6 * k + 0 + 0 ≤ 8921; omega⟩) hS1 (aA_in hAm) (aA_free hAm hA hS1) (fun r2 u2 t2 H2 L2 ht2 hvm2 hw2 hB2 hz2 hk2 hS2 => ?_)
  obtain ⟨hP3, -, -⟩ := hB2
  rw [ht2] at hP3
  obtain ⟨hu2, hr2⟩ := hw2
  obtain ⟨hP4, hD4⟩ := joinW (as := adM a2) hP2 hD2 rfl rfl hk2 hP3
  replace hP4 : va_P D vwCl (wM a2 cZ2 cI2 u2 ++ (wP a cZ cI C ++ wO o cJ fo)) H2 := hP4
  replace hD4 : va_D (lwA s) (wM a2 cZ2 cI2 u2 ++ (wP a cZ cI C ++ wO o cJ fo)) := hD4
  have hRel : Rel (800 * k) C u2 := by rw [hu2]; exact Rel_thr (v := 0) hR
  have hEq : r1 = r2 := by rw [hr1, hr2]; exact q_get (k := 5) hR rfl (by decide)
  refine lv_icmp_eq (tgt := 885) hx hb dL_law_516 (by decide) (fun c1 => ?_) (fun c1 => absurd hEq c1)
  refine W.widen (k := 17 + (k + 1)) (n := 663 + 6 * (k + 1)) (by omega) (by omega) ?_
  exact kont C u2 fo H2 L2 ls (Rel_up hRel (by omega)) ⟨hP4, hD4, hS2⟩ hl

set_option maxHeartbeats 4000000 in
set_option maxRecDepth 100000 in
theorem cs_line {p : Program} {l : Launch} {e : Env} {s : State} {m : MethodId} {below : List Frame} {meth : Method} {c : Code} {D : va_G} {b L : Nat} {xs : Nat → Int32} {a a2 : Nat → Nat} {cZ cI cJ cZ2 cI2 : ClassId} {o k : Nat} {C M : St} {fo : Nat → Int64} {H : Heap} {locs : List Loc} {ls : Array Slot} (F : lwF p l s m meth c D b L xs cZ cI cJ cZ2 cI2) (hk : 3 * k + 2 < L) (hR : Rel (800 * k) C M) (hV : lwV s D a a2 cZ cI cJ cZ2 cI2 o C M fo H locs) (hl : lv_has ls 7 [(4, .int (nI (3 * k))), (0, .ref b), (1, .ref (a 0)), (2, .ref (a2 0)), (3, .ref o)]) (kont : lwN p l e s m below meth c D b a a2 cZ cI cJ cZ2 cI2 o k) : W p l e room_1 s m #[Value.ref b] below meth c H locs (17 + k) (663 + 6 * k) (lw_Z below #[Value.ref b] s) (F0 m 521 ls []) := by
  obtain ⟨⟨hx, hb, hr, hml, hown, hts0, hX, hbl, hlocks, hgv⟩, hL, hfl, hNY, hZ, hK⟩ := F
  have hts : ∀ w ∈ wsL_law, w.before #[Value.ref b] s = true := fun w h => hts0 w (wsL_law_in w h)
  have hA : ∀ q : Nat, s.heap.size ≤ q → lwA s q := fun _ h => h
  have hbA : ¬ lwA s b := Nat.not_le.mpr hbl
  obtain ⟨hP, hD, hS⟩ := hV
  have hin1 : vp_in (nI (3 * k + 1)) L := vp_in_nI (by omega) (by omega)
  have hin2 : vp_in (nI (3 * k + 2)) L := vp_in_nI (by omega) (by omega)
  have hn : 800 * k < 1000000 := by omega
  have hn2 : 800 * k + 800 < 1000000 := by omega
  have hm := Rel_M hR
  have hJ := Rel_J hR
  have hKc := hK.sub (tys' := tyZI cZ cI) [0, 1] rfl
  have hKm := hK.sub (tys' := tyZI cZ2 cI2) [3, 4] rfl
  have hPc := subP hP
  have hDc := subD hD
  have hAc : ∀ q : Nat, q ∈ adP a → lwA s q := adA hDc rfl
  refine lv_aload_n hx hb dL_law_521 rfl (lv_at hl 2 rfl) ?_
  refine va_calli (va_runV (As := []) (rest := []) ⟨hx, hb, hml, hown, hts⟩ (k_X10_line l D a cZ cI C H.size) (cwV 0 hts gL_law_X10_line rfl rfl rfl (by decide +kernel) ⟨Nat.le_of_ble_eq_true rfl, Nat.le_of_ble_eq_true rfl⟩) ⟨blW okN_P, va_recv hKc hPc (ci := 10) (q0 := 0) rfl rfl, preW hPc hKc hDc okN_P hNY.1⟩ rfl rfl hl.1 rfl (lv_room (Nat.le_of_ble_eq_true rfl)) dL_law_522 ⟨by show 17 + k + 0 ≤ 1052; omega, by show 663 + 6 * k + 0 ≤ 8921; omega⟩) hS (aA_in hAc) (aA_free hAc hA hS) (fun r1 u1 t1 H1 L1 ht1 hvm1 hw1 hB1 hz1 hk1 hS1 => ?_)
  obtain ⟨hP1, -, -⟩ := hB1
  rw [ht1] at hP1
  obtain ⟨hu1, hr1⟩ := hw1
  subst u1
  obtain ⟨hP2, hD2⟩ := joinW (as := adP a) hP hD rfl rfl hk1 hP1
  replace hP2 : va_P D vwCl ([] ++ (wM a2 cZ2 cI2 M ++ (wP a cZ cI C ++ wO o cJ fo))) H1 := hP2
  replace hD2 : va_D (lwA s) ([] ++ (wM a2 cZ2 cI2 M ++ (wP a cZ cI C ++ wO o cJ fo))) := hD2
  refine lv_aload_n hx hb dL_law_525 rfl (lv_at hl 3 rfl) ?_
  have hPm := subP hP2
  have hDm := subD hD2
  have hAm : ∀ q : Nat, q ∈ adM a2 → lwA s q := adA hDm rfl
  refine va_calli (va_runV (As := []) (rest := [.int r1]) ⟨hx, hb, hml, hown, hts⟩ (k_X11_line l D a2 cZ2 cI2 M H1.size) (cwV 0 hts gL_law_X11_line rfl rfl rfl (by decide +kernel) ⟨Nat.le_of_ble_eq_true rfl, Nat.le_of_ble_eq_true rfl⟩) ⟨blW okN_T, va_recv hKm hPm (ci := 11) (q0 := 0) rfl rfl, preW hPm hKm hDm okN_T trivial⟩ rfl rfl hl.1 rfl (lv_room (Nat.le_of_ble_eq_true rfl)) dL_law_526 ⟨by show 17 + k + 0 + 0 ≤ 1052; omega, by show 663 + 6 * k + 0 + 0 ≤ 8921; omega⟩) hS1 (aA_in hAm) (aA_free hAm hA hS1) (fun r2 u2 t2 H2 L2 ht2 hvm2 hw2 hB2 hz2 hk2 hS2 => ?_)
  obtain ⟨hP3, -, -⟩ := hB2
  rw [ht2] at hP3
  obtain ⟨hu2, hr2⟩ := hw2
  obtain ⟨hP4, hD4⟩ := joinW (as := adM a2) hP2 hD2 rfl rfl hk2 hP3
  replace hP4 : va_P D vwCl (wM a2 cZ2 cI2 u2 ++ (wP a cZ cI C ++ wO o cJ fo)) H2 := hP4
  replace hD4 : va_D (lwA s) (wM a2 cZ2 cI2 u2 ++ (wP a cZ cI C ++ wO o cJ fo)) := hD4
  have hRel : Rel (800 * k) C u2 := by rw [hu2]; exact Rel_thr (v := 0) hR
  have hEq : r1 = r2 := by rw [hr1, hr2]; exact q_get (k := 7) hR rfl (by decide)
  refine lv_icmp_eq (tgt := 885) hx hb dL_law_529 (by decide) (fun c1 => ?_) (fun c1 => absurd hEq c1)
  refine W.widen (k := 17 + (k + 1)) (n := 663 + 6 * (k + 1)) (by omega) (by omega) ?_
  exact kont C u2 fo H2 L2 ls (Rel_up hRel (by omega)) ⟨hP4, hD4, hS2⟩ hl

set_option maxHeartbeats 4000000 in
set_option maxRecDepth 100000 in
theorem cs_level {p : Program} {l : Launch} {e : Env} {s : State} {m : MethodId} {below : List Frame} {meth : Method} {c : Code} {D : va_G} {b L : Nat} {xs : Nat → Int32} {a a2 : Nat → Nat} {cZ cI cJ cZ2 cI2 : ClassId} {o k : Nat} {C M : St} {fo : Nat → Int64} {H : Heap} {locs : List Loc} {ls : Array Slot} (F : lwF p l s m meth c D b L xs cZ cI cJ cZ2 cI2) (hk : 3 * k + 2 < L) (hR : Rel (800 * k) C M) (hV : lwV s D a a2 cZ cI cJ cZ2 cI2 o C M fo H locs) (hl : lv_has ls 7 [(4, .int (nI (3 * k))), (0, .ref b), (1, .ref (a 0)), (2, .ref (a2 0)), (3, .ref o)]) (kont : lwN p l e s m below meth c D b a a2 cZ cI cJ cZ2 cI2 o k) : W p l e room_1 s m #[Value.ref b] below meth c H locs (17 + k) (663 + 6 * k) (lw_Z below #[Value.ref b] s) (F0 m 534 ls []) := by
  obtain ⟨⟨hx, hb, hr, hml, hown, hts0, hX, hbl, hlocks, hgv⟩, hL, hfl, hNY, hZ, hK⟩ := F
  have hts : ∀ w ∈ wsL_law, w.before #[Value.ref b] s = true := fun w h => hts0 w (wsL_law_in w h)
  have hA : ∀ q : Nat, s.heap.size ≤ q → lwA s q := fun _ h => h
  have hbA : ¬ lwA s b := Nat.not_le.mpr hbl
  obtain ⟨hP, hD, hS⟩ := hV
  have hin1 : vp_in (nI (3 * k + 1)) L := vp_in_nI (by omega) (by omega)
  have hin2 : vp_in (nI (3 * k + 2)) L := vp_in_nI (by omega) (by omega)
  have hn : 800 * k < 1000000 := by omega
  have hn2 : 800 * k + 800 < 1000000 := by omega
  have hm := Rel_M hR
  have hJ := Rel_J hR
  have hKc := hK.sub (tys' := tyZI cZ cI) [0, 1] rfl
  have hKm := hK.sub (tys' := tyZI cZ2 cI2) [3, 4] rfl
  have hPc := subP hP
  have hDc := subD hD
  have hAc : ∀ q : Nat, q ∈ adP a → lwA s q := adA hDc rfl
  refine lv_aload_n hx hb dL_law_534 rfl (lv_at hl 2 rfl) ?_
  refine va_calli (va_runV (As := []) (rest := []) ⟨hx, hb, hml, hown, hts⟩ (k_X10_level l D a cZ cI C H.size) (cwV 0 hts gL_law_X10_level rfl rfl rfl (by decide +kernel) ⟨Nat.le_of_ble_eq_true rfl, Nat.le_of_ble_eq_true rfl⟩) ⟨blW okN_P, va_recv hKc hPc (ci := 10) (q0 := 0) rfl rfl, preW hPc hKc hDc okN_P hNY.1⟩ rfl rfl hl.1 rfl (lv_room (Nat.le_of_ble_eq_true rfl)) dL_law_535 ⟨by show 17 + k + 0 ≤ 1052; omega, by show 663 + 6 * k + 0 ≤ 8921; omega⟩) hS (aA_in hAc) (aA_free hAc hA hS) (fun r1 u1 t1 H1 L1 ht1 hvm1 hw1 hB1 hz1 hk1 hS1 => ?_)
  obtain ⟨hP1, -, -⟩ := hB1
  rw [ht1] at hP1
  obtain ⟨hu1, hr1⟩ := hw1
  subst u1
  obtain ⟨hP2, hD2⟩ := joinW (as := adP a) hP hD rfl rfl hk1 hP1
  replace hP2 : va_P D vwCl ([] ++ (wM a2 cZ2 cI2 M ++ (wP a cZ cI C ++ wO o cJ fo))) H1 := hP2
  replace hD2 : va_D (lwA s) ([] ++ (wM a2 cZ2 cI2 M ++ (wP a cZ cI C ++ wO o cJ fo))) := hD2
  refine lv_aload_n hx hb dL_law_538 rfl (lv_at hl 3 rfl) ?_
  have hPm := subP hP2
  have hDm := subD hD2
  have hAm : ∀ q : Nat, q ∈ adM a2 → lwA s q := adA hDm rfl
  refine va_calli (va_runV (As := []) (rest := [.int r1]) ⟨hx, hb, hml, hown, hts⟩ (k_X11_level l D a2 cZ2 cI2 M H1.size) (cwV 0 hts gL_law_X11_level rfl rfl rfl (by decide +kernel) ⟨Nat.le_of_ble_eq_true rfl, Nat.le_of_ble_eq_true rfl⟩) ⟨blW okN_T, va_recv hKm hPm (ci := 11) (q0 := 0) rfl rfl, preW hPm hKm hDm okN_T trivial⟩ rfl rfl hl.1 rfl (lv_room (Nat.le_of_ble_eq_true rfl)) dL_law_539 ⟨by show 17 + k + 0 + 0 ≤ 1052; omega, by show 663 + 6 * k + 0 + 0 ≤ 8921; omega⟩) hS1 (aA_in hAm) (aA_free hAm hA hS1) (fun r2 u2 t2 H2 L2 ht2 hvm2 hw2 hB2 hz2 hk2 hS2 => ?_)
  obtain ⟨hP3, -, -⟩ := hB2
  rw [ht2] at hP3
  obtain ⟨hu2, hr2⟩ := hw2
  obtain ⟨hP4, hD4⟩ := joinW (as := adM a2) hP2 hD2 rfl rfl hk2 hP3
  replace hP4 : va_P D vwCl (wM a2 cZ2 cI2 u2 ++ (wP a cZ cI C ++ wO o cJ fo)) H2 := hP4
  replace hD4 : va_D (lwA s) (wM a2 cZ2 cI2 u2 ++ (wP a cZ cI C ++ wO o cJ fo)) := hD4
  have hRel : Rel (800 * k) C u2 := by rw [hu2]; exact Rel_thr (v := 0) hR
  have hEq : r1 = r2 := by rw [hr1, hr2]; exact q_level hR
  refine lv_icmp_eq (tgt := 885) hx hb dL_law_542 (by decide) (fun c1 => ?_) (fun c1 => absurd hEq c1)
  refine W.widen (k := 17 + (k + 1)) (n := 663 + 6 * (k + 1)) (by omega) (by omega) ?_
  exact kont C u2 fo H2 L2 ls (Rel_up hRel (by omega)) ⟨hP4, hD4, hS2⟩ hl

set_option maxHeartbeats 4000000 in
set_option maxRecDepth 100000 in
theorem cs_sender {p : Program} {l : Launch} {e : Env} {s : State} {m : MethodId} {below : List Frame} {meth : Method} {c : Code} {D : va_G} {b L : Nat} {xs : Nat → Int32} {a a2 : Nat → Nat} {cZ cI cJ cZ2 cI2 : ClassId} {o k : Nat} {C M : St} {fo : Nat → Int64} {H : Heap} {locs : List Loc} {ls : Array Slot} (F : lwF p l s m meth c D b L xs cZ cI cJ cZ2 cI2) (hk : 3 * k + 2 < L) (hR : Rel (800 * k) C M) (hV : lwV s D a a2 cZ cI cJ cZ2 cI2 o C M fo H locs) (hl : lv_has ls 7 [(4, .int (nI (3 * k))), (0, .ref b), (1, .ref (a 0)), (2, .ref (a2 0)), (3, .ref o)]) (kont : lwN p l e s m below meth c D b a a2 cZ cI cJ cZ2 cI2 o k) : W p l e room_1 s m #[Value.ref b] below meth c H locs (17 + k) (663 + 6 * k) (lw_Z below #[Value.ref b] s) (F0 m 547 ls []) := by
  obtain ⟨⟨hx, hb, hr, hml, hown, hts0, hX, hbl, hlocks, hgv⟩, hL, hfl, hNY, hZ, hK⟩ := F
  have hts : ∀ w ∈ wsL_law, w.before #[Value.ref b] s = true := fun w h => hts0 w (wsL_law_in w h)
  have hA : ∀ q : Nat, s.heap.size ≤ q → lwA s q := fun _ h => h
  have hbA : ¬ lwA s b := Nat.not_le.mpr hbl
  obtain ⟨hP, hD, hS⟩ := hV
  have hin1 : vp_in (nI (3 * k + 1)) L := vp_in_nI (by omega) (by omega)
  have hin2 : vp_in (nI (3 * k + 2)) L := vp_in_nI (by omega) (by omega)
  have hn : 800 * k < 1000000 := by omega
  have hn2 : 800 * k + 800 < 1000000 := by omega
  have hm := Rel_M hR
  have hJ := Rel_J hR
  have hKc := hK.sub (tys' := tyZI cZ cI) [0, 1] rfl
  have hKm := hK.sub (tys' := tyZI cZ2 cI2) [3, 4] rfl
  have hPc := subP hP
  have hDc := subD hD
  have hAc : ∀ q : Nat, q ∈ adP a → lwA s q := adA hDc rfl
  refine lv_aload_n hx hb dL_law_547 rfl (lv_at hl 2 rfl) ?_
  refine va_calli (va_runV (As := []) (rest := []) ⟨hx, hb, hml, hown, hts⟩ (k_X10_sender l D a cZ cI C H.size) (cwV 0 hts gL_law_X10_sender rfl rfl rfl (by decide +kernel) ⟨Nat.le_of_ble_eq_true rfl, Nat.le_of_ble_eq_true rfl⟩) ⟨blW okN_P, va_recv hKc hPc (ci := 10) (q0 := 0) rfl rfl, preW hPc hKc hDc okN_P hNY.1⟩ rfl rfl hl.1 rfl (lv_room (Nat.le_of_ble_eq_true rfl)) dL_law_548 ⟨by show 17 + k + 0 ≤ 1052; omega, by show 663 + 6 * k + 0 ≤ 8921; omega⟩) hS (aA_in hAc) (aA_free hAc hA hS) (fun r1 u1 t1 H1 L1 ht1 hvm1 hw1 hB1 hz1 hk1 hS1 => ?_)
  obtain ⟨hP1, -, -⟩ := hB1
  rw [ht1] at hP1
  obtain ⟨hu1, hr1⟩ := hw1
  subst u1
  obtain ⟨hP2, hD2⟩ := joinW (as := adP a) hP hD rfl rfl hk1 hP1
  replace hP2 : va_P D vwCl ([] ++ (wM a2 cZ2 cI2 M ++ (wP a cZ cI C ++ wO o cJ fo))) H1 := hP2
  replace hD2 : va_D (lwA s) ([] ++ (wM a2 cZ2 cI2 M ++ (wP a cZ cI C ++ wO o cJ fo))) := hD2
  refine lv_aload_n hx hb dL_law_551 rfl (lv_at hl 3 rfl) ?_
  have hPm := subP hP2
  have hDm := subD hD2
  have hAm : ∀ q : Nat, q ∈ adM a2 → lwA s q := adA hDm rfl
  refine va_calli (va_runV (As := []) (rest := [.int r1]) ⟨hx, hb, hml, hown, hts⟩ (k_X11_sender l D a2 cZ2 cI2 M H1.size) (cwV 0 hts gL_law_X11_sender rfl rfl rfl (by decide +kernel) ⟨Nat.le_of_ble_eq_true rfl, Nat.le_of_ble_eq_true rfl⟩) ⟨blW okN_T, va_recv hKm hPm (ci := 11) (q0 := 0) rfl rfl, preW hPm hKm hDm okN_T trivial⟩ rfl rfl hl.1 rfl (lv_room (Nat.le_of_ble_eq_true rfl)) dL_law_552 ⟨by show 17 + k + 0 + 0 ≤ 1052; omega, by show 663 + 6 * k + 0 + 0 ≤ 8921; omega⟩) hS1 (aA_in hAm) (aA_free hAm hA hS1) (fun r2 u2 t2 H2 L2 ht2 hvm2 hw2 hB2 hz2 hk2 hS2 => ?_)
  obtain ⟨hP3, -, -⟩ := hB2
  rw [ht2] at hP3
  obtain ⟨hu2, hr2⟩ := hw2
  obtain ⟨hP4, hD4⟩ := joinW (as := adM a2) hP2 hD2 rfl rfl hk2 hP3
  replace hP4 : va_P D vwCl (wM a2 cZ2 cI2 u2 ++ (wP a cZ cI C ++ wO o cJ fo)) H2 := hP4
  replace hD4 : va_D (lwA s) (wM a2 cZ2 cI2 u2 ++ (wP a cZ cI C ++ wO o cJ fo)) := hD4
  have hRel : Rel (800 * k) C u2 := by rw [hu2]; exact Rel_thr (v := 0) hR
  have hEq : r1 = r2 := by rw [hr1, hr2]; exact q_get (k := 1) hR rfl (by decide)
  refine lv_icmp_eq (tgt := 885) hx hb dL_law_555 (by decide) (fun c1 => ?_) (fun c1 => absurd hEq c1)
  refine W.widen (k := 17 + (k + 1)) (n := 663 + 6 * (k + 1)) (by omega) (by omega) ?_
  exact kont C u2 fo H2 L2 ls (Rel_up hRel (by omega)) ⟨hP4, hD4, hS2⟩ hl

set_option maxHeartbeats 4000000 in
set_option maxRecDepth 100000 in
theorem cs_receiver {p : Program} {l : Launch} {e : Env} {s : State} {m : MethodId} {below : List Frame} {meth : Method} {c : Code} {D : va_G} {b L : Nat} {xs : Nat → Int32} {a a2 : Nat → Nat} {cZ cI cJ cZ2 cI2 : ClassId} {o k : Nat} {C M : St} {fo : Nat → Int64} {H : Heap} {locs : List Loc} {ls : Array Slot} (F : lwF p l s m meth c D b L xs cZ cI cJ cZ2 cI2) (hk : 3 * k + 2 < L) (hR : Rel (800 * k) C M) (hV : lwV s D a a2 cZ cI cJ cZ2 cI2 o C M fo H locs) (hl : lv_has ls 7 [(4, .int (nI (3 * k))), (0, .ref b), (1, .ref (a 0)), (2, .ref (a2 0)), (3, .ref o)]) (kont : lwN p l e s m below meth c D b a a2 cZ cI cJ cZ2 cI2 o k) : W p l e room_1 s m #[Value.ref b] below meth c H locs (17 + k) (663 + 6 * k) (lw_Z below #[Value.ref b] s) (F0 m 560 ls []) := by
  obtain ⟨⟨hx, hb, hr, hml, hown, hts0, hX, hbl, hlocks, hgv⟩, hL, hfl, hNY, hZ, hK⟩ := F
  have hts : ∀ w ∈ wsL_law, w.before #[Value.ref b] s = true := fun w h => hts0 w (wsL_law_in w h)
  have hA : ∀ q : Nat, s.heap.size ≤ q → lwA s q := fun _ h => h
  have hbA : ¬ lwA s b := Nat.not_le.mpr hbl
  obtain ⟨hP, hD, hS⟩ := hV
  have hin1 : vp_in (nI (3 * k + 1)) L := vp_in_nI (by omega) (by omega)
  have hin2 : vp_in (nI (3 * k + 2)) L := vp_in_nI (by omega) (by omega)
  have hn : 800 * k < 1000000 := by omega
  have hn2 : 800 * k + 800 < 1000000 := by omega
  have hm := Rel_M hR
  have hJ := Rel_J hR
  have hKc := hK.sub (tys' := tyZI cZ cI) [0, 1] rfl
  have hKm := hK.sub (tys' := tyZI cZ2 cI2) [3, 4] rfl
  have hPc := subP hP
  have hDc := subD hD
  have hAc : ∀ q : Nat, q ∈ adP a → lwA s q := adA hDc rfl
  refine lv_aload_n hx hb dL_law_560 rfl (lv_at hl 2 rfl) ?_
  refine va_calli (va_runV (As := []) (rest := []) ⟨hx, hb, hml, hown, hts⟩ (k_X10_receiver l D a cZ cI C H.size) (cwV 0 hts gL_law_X10_receiver rfl rfl rfl (by decide +kernel) ⟨Nat.le_of_ble_eq_true rfl, Nat.le_of_ble_eq_true rfl⟩) ⟨blW okN_P, va_recv hKc hPc (ci := 10) (q0 := 0) rfl rfl, preW hPc hKc hDc okN_P hNY.1⟩ rfl rfl hl.1 rfl (lv_room (Nat.le_of_ble_eq_true rfl)) dL_law_561 ⟨by show 17 + k + 0 ≤ 1052; omega, by show 663 + 6 * k + 0 ≤ 8921; omega⟩) hS (aA_in hAc) (aA_free hAc hA hS) (fun r1 u1 t1 H1 L1 ht1 hvm1 hw1 hB1 hz1 hk1 hS1 => ?_)
  obtain ⟨hP1, -, -⟩ := hB1
  rw [ht1] at hP1
  obtain ⟨hu1, hr1⟩ := hw1
  subst u1
  obtain ⟨hP2, hD2⟩ := joinW (as := adP a) hP hD rfl rfl hk1 hP1
  replace hP2 : va_P D vwCl ([] ++ (wM a2 cZ2 cI2 M ++ (wP a cZ cI C ++ wO o cJ fo))) H1 := hP2
  replace hD2 : va_D (lwA s) ([] ++ (wM a2 cZ2 cI2 M ++ (wP a cZ cI C ++ wO o cJ fo))) := hD2
  refine lv_aload_n hx hb dL_law_564 rfl (lv_at hl 3 rfl) ?_
  have hPm := subP hP2
  have hDm := subD hD2
  have hAm : ∀ q : Nat, q ∈ adM a2 → lwA s q := adA hDm rfl
  refine va_calli (va_runV (As := []) (rest := [.int r1]) ⟨hx, hb, hml, hown, hts⟩ (k_X11_receiver l D a2 cZ2 cI2 M H1.size) (cwV 0 hts gL_law_X11_receiver rfl rfl rfl (by decide +kernel) ⟨Nat.le_of_ble_eq_true rfl, Nat.le_of_ble_eq_true rfl⟩) ⟨blW okN_T, va_recv hKm hPm (ci := 11) (q0 := 0) rfl rfl, preW hPm hKm hDm okN_T trivial⟩ rfl rfl hl.1 rfl (lv_room (Nat.le_of_ble_eq_true rfl)) dL_law_565 ⟨by show 17 + k + 0 + 0 ≤ 1052; omega, by show 663 + 6 * k + 0 + 0 ≤ 8921; omega⟩) hS1 (aA_in hAm) (aA_free hAm hA hS1) (fun r2 u2 t2 H2 L2 ht2 hvm2 hw2 hB2 hz2 hk2 hS2 => ?_)
  obtain ⟨hP3, -, -⟩ := hB2
  rw [ht2] at hP3
  obtain ⟨hu2, hr2⟩ := hw2
  obtain ⟨hP4, hD4⟩ := joinW (as := adM a2) hP2 hD2 rfl rfl hk2 hP3
  replace hP4 : va_P D vwCl (wM a2 cZ2 cI2 u2 ++ (wP a cZ cI C ++ wO o cJ fo)) H2 := hP4
  replace hD4 : va_D (lwA s) (wM a2 cZ2 cI2 u2 ++ (wP a cZ cI C ++ wO o cJ fo)) := hD4
  have hRel : Rel (800 * k) C u2 := by rw [hu2]; exact Rel_thr (v := 0) hR
  have hEq : r1 = r2 := by rw [hr1, hr2]; exact q_get (k := 11) hR rfl (by decide)
  refine lv_icmp_eq (tgt := 885) hx hb dL_law_568 (by decide) (fun c1 => ?_) (fun c1 => absurd hEq c1)
  refine W.widen (k := 17 + (k + 1)) (n := 663 + 6 * (k + 1)) (by omega) (by omega) ?_
  exact kont C u2 fo H2 L2 ls (Rel_up hRel (by omega)) ⟨hP4, hD4, hS2⟩ hl

set_option maxHeartbeats 4000000 in
set_option maxRecDepth 100000 in
theorem cs_error {p : Program} {l : Launch} {e : Env} {s : State} {m : MethodId} {below : List Frame} {meth : Method} {c : Code} {D : va_G} {b L : Nat} {xs : Nat → Int32} {a a2 : Nat → Nat} {cZ cI cJ cZ2 cI2 : ClassId} {o k : Nat} {C M : St} {fo : Nat → Int64} {H : Heap} {locs : List Loc} {ls : Array Slot} (F : lwF p l s m meth c D b L xs cZ cI cJ cZ2 cI2) (hk : 3 * k + 2 < L) (hR : Rel (800 * k) C M) (hV : lwV s D a a2 cZ cI cJ cZ2 cI2 o C M fo H locs) (hl : lv_has ls 7 [(4, .int (nI (3 * k))), (0, .ref b), (1, .ref (a 0)), (2, .ref (a2 0)), (3, .ref o)]) (kont : lwN p l e s m below meth c D b a a2 cZ cI cJ cZ2 cI2 o k) : W p l e room_1 s m #[Value.ref b] below meth c H locs (17 + k) (663 + 6 * k) (lw_Z below #[Value.ref b] s) (F0 m 573 ls []) := by
  obtain ⟨⟨hx, hb, hr, hml, hown, hts0, hX, hbl, hlocks, hgv⟩, hL, hfl, hNY, hZ, hK⟩ := F
  have hts : ∀ w ∈ wsL_law, w.before #[Value.ref b] s = true := fun w h => hts0 w (wsL_law_in w h)
  have hA : ∀ q : Nat, s.heap.size ≤ q → lwA s q := fun _ h => h
  have hbA : ¬ lwA s b := Nat.not_le.mpr hbl
  obtain ⟨hP, hD, hS⟩ := hV
  have hin1 : vp_in (nI (3 * k + 1)) L := vp_in_nI (by omega) (by omega)
  have hin2 : vp_in (nI (3 * k + 2)) L := vp_in_nI (by omega) (by omega)
  have hn : 800 * k < 1000000 := by omega
  have hn2 : 800 * k + 800 < 1000000 := by omega
  have hm := Rel_M hR
  have hJ := Rel_J hR
  have hKc := hK.sub (tys' := tyZI cZ cI) [0, 1] rfl
  have hKm := hK.sub (tys' := tyZI cZ2 cI2) [3, 4] rfl
  have hPc := subP hP
  have hDc := subD hD
  have hAc : ∀ q : Nat, q ∈ adP a → lwA s q := adA hDc rfl
  refine lv_aload_n hx hb dL_law_573 rfl (lv_at hl 2 rfl) ?_
  refine va_calli (va_runV (As := []) (rest := []) ⟨hx, hb, hml, hown, hts⟩ (k_X10_error l D a cZ cI C H.size) (cwV 0 hts gL_law_X10_error rfl rfl rfl (by decide +kernel) ⟨Nat.le_of_ble_eq_true rfl, Nat.le_of_ble_eq_true rfl⟩) ⟨blW okN_P, va_recv hKc hPc (ci := 10) (q0 := 0) rfl rfl, preW hPc hKc hDc okN_P hNY.1⟩ rfl rfl hl.1 rfl (lv_room (Nat.le_of_ble_eq_true rfl)) dL_law_574 ⟨by show 17 + k + 0 ≤ 1052; omega, by show 663 + 6 * k + 0 ≤ 8921; omega⟩) hS (aA_in hAc) (aA_free hAc hA hS) (fun r1 u1 t1 H1 L1 ht1 hvm1 hw1 hB1 hz1 hk1 hS1 => ?_)
  obtain ⟨hP1, -, -⟩ := hB1
  rw [ht1] at hP1
  obtain ⟨hu1, hr1⟩ := hw1
  subst u1
  obtain ⟨hP2, hD2⟩ := joinW (as := adP a) hP hD rfl rfl hk1 hP1
  replace hP2 : va_P D vwCl ([] ++ (wM a2 cZ2 cI2 M ++ (wP a cZ cI C ++ wO o cJ fo))) H1 := hP2
  replace hD2 : va_D (lwA s) ([] ++ (wM a2 cZ2 cI2 M ++ (wP a cZ cI C ++ wO o cJ fo))) := hD2
  refine lv_aload_n hx hb dL_law_577 rfl (lv_at hl 3 rfl) ?_
  have hPm := subP hP2
  have hDm := subD hD2
  have hAm : ∀ q : Nat, q ∈ adM a2 → lwA s q := adA hDm rfl
  refine va_calli (va_runV (As := []) (rest := [.int r1]) ⟨hx, hb, hml, hown, hts⟩ (k_X11_error l D a2 cZ2 cI2 M H1.size) (cwV 0 hts gL_law_X11_error rfl rfl rfl (by decide +kernel) ⟨Nat.le_of_ble_eq_true rfl, Nat.le_of_ble_eq_true rfl⟩) ⟨blW okN_T, va_recv hKm hPm (ci := 11) (q0 := 0) rfl rfl, preW hPm hKm hDm okN_T trivial⟩ rfl rfl hl.1 rfl (lv_room (Nat.le_of_ble_eq_true rfl)) dL_law_578 ⟨by show 17 + k + 0 + 0 ≤ 1052; omega, by show 663 + 6 * k + 0 + 0 ≤ 8921; omega⟩) hS1 (aA_in hAm) (aA_free hAm hA hS1) (fun r2 u2 t2 H2 L2 ht2 hvm2 hw2 hB2 hz2 hk2 hS2 => ?_)
  obtain ⟨hP3, -, -⟩ := hB2
  rw [ht2] at hP3
  obtain ⟨hu2, hr2⟩ := hw2
  obtain ⟨hP4, hD4⟩ := joinW (as := adM a2) hP2 hD2 rfl rfl hk2 hP3
  replace hP4 : va_P D vwCl (wM a2 cZ2 cI2 u2 ++ (wP a cZ cI C ++ wO o cJ fo)) H2 := hP4
  replace hD4 : va_D (lwA s) (wM a2 cZ2 cI2 u2 ++ (wP a cZ cI C ++ wO o cJ fo)) := hD4
  have hRel : Rel (800 * k) C u2 := by rw [hu2]; exact Rel_thr (v := 0) hR
  have hEq : r1 = r2 := by rw [hr1, hr2]; exact q_get (k := 14) hR rfl (by decide)
  refine lv_icmp_eq (tgt := 885) hx hb dL_law_581 (by decide) (fun c1 => ?_) (fun c1 => absurd hEq c1)
  refine W.widen (k := 17 + (k + 1)) (n := 663 + 6 * (k + 1)) (by omega) (by omega) ?_
  exact kont C u2 fo H2 L2 ls (Rel_up hRel (by omega)) ⟨hP4, hD4, hS2⟩ hl

set_option maxHeartbeats 4000000 in
set_option maxRecDepth 100000 in
theorem cs_integral {p : Program} {l : Launch} {e : Env} {s : State} {m : MethodId} {below : List Frame} {meth : Method} {c : Code} {D : va_G} {b L : Nat} {xs : Nat → Int32} {a a2 : Nat → Nat} {cZ cI cJ cZ2 cI2 : ClassId} {o k : Nat} {C M : St} {fo : Nat → Int64} {H : Heap} {locs : List Loc} {ls : Array Slot} (F : lwF p l s m meth c D b L xs cZ cI cJ cZ2 cI2) (hk : 3 * k + 2 < L) (hR : Rel (800 * k) C M) (hV : lwV s D a a2 cZ cI cJ cZ2 cI2 o C M fo H locs) (hl : lv_has ls 7 [(4, .int (nI (3 * k))), (0, .ref b), (1, .ref (a 0)), (2, .ref (a2 0)), (3, .ref o)]) (kont : lwN p l e s m below meth c D b a a2 cZ cI cJ cZ2 cI2 o k) : W p l e room_1 s m #[Value.ref b] below meth c H locs (17 + k) (663 + 6 * k) (lw_Z below #[Value.ref b] s) (F0 m 586 ls []) := by
  obtain ⟨⟨hx, hb, hr, hml, hown, hts0, hX, hbl, hlocks, hgv⟩, hL, hfl, hNY, hZ, hK⟩ := F
  have hts : ∀ w ∈ wsL_law, w.before #[Value.ref b] s = true := fun w h => hts0 w (wsL_law_in w h)
  have hA : ∀ q : Nat, s.heap.size ≤ q → lwA s q := fun _ h => h
  have hbA : ¬ lwA s b := Nat.not_le.mpr hbl
  obtain ⟨hP, hD, hS⟩ := hV
  have hin1 : vp_in (nI (3 * k + 1)) L := vp_in_nI (by omega) (by omega)
  have hin2 : vp_in (nI (3 * k + 2)) L := vp_in_nI (by omega) (by omega)
  have hn : 800 * k < 1000000 := by omega
  have hn2 : 800 * k + 800 < 1000000 := by omega
  have hm := Rel_M hR
  have hJ := Rel_J hR
  have hKc := hK.sub (tys' := tyZI cZ cI) [0, 1] rfl
  have hKm := hK.sub (tys' := tyZI cZ2 cI2) [3, 4] rfl
  have hPc := subP hP
  have hDc := subD hD
  have hAc : ∀ q : Nat, q ∈ adP a → lwA s q := adA hDc rfl
  refine lv_aload_n hx hb dL_law_586 rfl (lv_at hl 2 rfl) ?_
  refine va_calli (va_runV (As := []) (rest := []) ⟨hx, hb, hml, hown, hts⟩ (k_X10_integral l D a cZ cI C H.size) (cwV 0 hts gL_law_X10_integral rfl rfl rfl (by decide +kernel) ⟨Nat.le_of_ble_eq_true rfl, Nat.le_of_ble_eq_true rfl⟩) ⟨blW okN_P, va_recv hKc hPc (ci := 10) (q0 := 0) rfl rfl, preW hPc hKc hDc okN_P hNY.1⟩ rfl rfl hl.1 rfl (lv_room (Nat.le_of_ble_eq_true rfl)) dL_law_587 ⟨by show 17 + k + 0 ≤ 1052; omega, by show 663 + 6 * k + 0 ≤ 8921; omega⟩) hS (aA_in hAc) (aA_free hAc hA hS) (fun r1 u1 t1 H1 L1 ht1 hvm1 hw1 hB1 hz1 hk1 hS1 => ?_)
  obtain ⟨hP1, -, -⟩ := hB1
  rw [ht1] at hP1
  obtain ⟨hu1, hr1⟩ := hw1
  subst u1
  obtain ⟨hP2, hD2⟩ := joinW (as := adP a) hP hD rfl rfl hk1 hP1
  replace hP2 : va_P D vwCl ([] ++ (wM a2 cZ2 cI2 M ++ (wP a cZ cI C ++ wO o cJ fo))) H1 := hP2
  replace hD2 : va_D (lwA s) ([] ++ (wM a2 cZ2 cI2 M ++ (wP a cZ cI C ++ wO o cJ fo))) := hD2
  refine lv_aload_n hx hb dL_law_590 rfl (lv_at hl 3 rfl) ?_
  have hPm := subP hP2
  have hDm := subD hD2
  have hAm : ∀ q : Nat, q ∈ adM a2 → lwA s q := adA hDm rfl
  refine va_calli (va_runV (As := []) (rest := [.int r1]) ⟨hx, hb, hml, hown, hts⟩ (k_X11_integral l D a2 cZ2 cI2 M H1.size) (cwV 0 hts gL_law_X11_integral rfl rfl rfl (by decide +kernel) ⟨Nat.le_of_ble_eq_true rfl, Nat.le_of_ble_eq_true rfl⟩) ⟨blW okN_T, va_recv hKm hPm (ci := 11) (q0 := 0) rfl rfl, preW hPm hKm hDm okN_T trivial⟩ rfl rfl hl.1 rfl (lv_room (Nat.le_of_ble_eq_true rfl)) dL_law_591 ⟨by show 17 + k + 0 + 0 ≤ 1052; omega, by show 663 + 6 * k + 0 + 0 ≤ 8921; omega⟩) hS1 (aA_in hAm) (aA_free hAm hA hS1) (fun r2 u2 t2 H2 L2 ht2 hvm2 hw2 hB2 hz2 hk2 hS2 => ?_)
  obtain ⟨hP3, -, -⟩ := hB2
  rw [ht2] at hP3
  obtain ⟨hu2, hr2⟩ := hw2
  obtain ⟨hP4, hD4⟩ := joinW (as := adM a2) hP2 hD2 rfl rfl hk2 hP3
  replace hP4 : va_P D vwCl (wM a2 cZ2 cI2 u2 ++ (wP a cZ cI C ++ wO o cJ fo)) H2 := hP4
  replace hD4 : va_D (lwA s) (wM a2 cZ2 cI2 u2 ++ (wP a cZ cI C ++ wO o cJ fo)) := hD4
  have hRel : Rel (800 * k) C u2 := by rw [hu2]; exact Rel_thr (v := 0) hR
  have hEq : r1 = r2 := by rw [hr1, hr2]; exact q_get (k := 13) hR rfl (by decide)
  refine lv_icmp_eq (tgt := 885) hx hb dL_law_594 (by decide) (fun c1 => ?_) (fun c1 => absurd hEq c1)
  refine W.widen (k := 17 + (k + 1)) (n := 663 + 6 * (k + 1)) (by omega) (by omega) ?_
  exact kont C u2 fo H2 L2 ls (Rel_up hRel (by omega)) ⟨hP4, hD4, hS2⟩ hl

set_option maxHeartbeats 4000000 in
set_option maxRecDepth 100000 in
theorem cs_control {p : Program} {l : Launch} {e : Env} {s : State} {m : MethodId} {below : List Frame} {meth : Method} {c : Code} {D : va_G} {b L : Nat} {xs : Nat → Int32} {a a2 : Nat → Nat} {cZ cI cJ cZ2 cI2 : ClassId} {o k : Nat} {C M : St} {fo : Nat → Int64} {H : Heap} {locs : List Loc} {ls : Array Slot} (F : lwF p l s m meth c D b L xs cZ cI cJ cZ2 cI2) (hk : 3 * k + 2 < L) (hR : Rel (800 * k) C M) (hV : lwV s D a a2 cZ cI cJ cZ2 cI2 o C M fo H locs) (hl : lv_has ls 7 [(4, .int (nI (3 * k))), (0, .ref b), (1, .ref (a 0)), (2, .ref (a2 0)), (3, .ref o)]) (kont : lwN p l e s m below meth c D b a a2 cZ cI cJ cZ2 cI2 o k) : W p l e room_1 s m #[Value.ref b] below meth c H locs (17 + k) (663 + 6 * k) (lw_Z below #[Value.ref b] s) (F0 m 599 ls []) := by
  obtain ⟨⟨hx, hb, hr, hml, hown, hts0, hX, hbl, hlocks, hgv⟩, hL, hfl, hNY, hZ, hK⟩ := F
  have hts : ∀ w ∈ wsL_law, w.before #[Value.ref b] s = true := fun w h => hts0 w (wsL_law_in w h)
  have hA : ∀ q : Nat, s.heap.size ≤ q → lwA s q := fun _ h => h
  have hbA : ¬ lwA s b := Nat.not_le.mpr hbl
  obtain ⟨hP, hD, hS⟩ := hV
  have hin1 : vp_in (nI (3 * k + 1)) L := vp_in_nI (by omega) (by omega)
  have hin2 : vp_in (nI (3 * k + 2)) L := vp_in_nI (by omega) (by omega)
  have hn : 800 * k < 1000000 := by omega
  have hn2 : 800 * k + 800 < 1000000 := by omega
  have hm := Rel_M hR
  have hJ := Rel_J hR
  have hKc := hK.sub (tys' := tyZI cZ cI) [0, 1] rfl
  have hKm := hK.sub (tys' := tyZI cZ2 cI2) [3, 4] rfl
  have hPc := subP hP
  have hDc := subD hD
  have hAc : ∀ q : Nat, q ∈ adP a → lwA s q := adA hDc rfl
  refine lv_aload_n hx hb dL_law_599 rfl (lv_at hl 2 rfl) ?_
  refine va_calli (va_runV (As := []) (rest := []) ⟨hx, hb, hml, hown, hts⟩ (k_X10_control l D a cZ cI C H.size) (cwV 0 hts gL_law_X10_control rfl rfl rfl (by decide +kernel) ⟨Nat.le_of_ble_eq_true rfl, Nat.le_of_ble_eq_true rfl⟩) ⟨blW okN_P, va_recv hKc hPc (ci := 10) (q0 := 0) rfl rfl, preW hPc hKc hDc okN_P hNY.1⟩ rfl rfl hl.1 rfl (lv_room (Nat.le_of_ble_eq_true rfl)) dL_law_600 ⟨by show 17 + k + 0 ≤ 1052; omega, by show 663 + 6 * k + 0 ≤ 8921; omega⟩) hS (aA_in hAc) (aA_free hAc hA hS) (fun r1 u1 t1 H1 L1 ht1 hvm1 hw1 hB1 hz1 hk1 hS1 => ?_)
  obtain ⟨hP1, -, -⟩ := hB1
  rw [ht1] at hP1
  obtain ⟨hu1, hr1⟩ := hw1
  subst u1
  obtain ⟨hP2, hD2⟩ := joinW (as := adP a) hP hD rfl rfl hk1 hP1
  replace hP2 : va_P D vwCl ([] ++ (wM a2 cZ2 cI2 M ++ (wP a cZ cI C ++ wO o cJ fo))) H1 := hP2
  replace hD2 : va_D (lwA s) ([] ++ (wM a2 cZ2 cI2 M ++ (wP a cZ cI C ++ wO o cJ fo))) := hD2
  refine lv_aload_n hx hb dL_law_603 rfl (lv_at hl 3 rfl) ?_
  have hPm := subP hP2
  have hDm := subD hD2
  have hAm : ∀ q : Nat, q ∈ adM a2 → lwA s q := adA hDm rfl
  refine va_calli (va_runV (As := []) (rest := [.int r1]) ⟨hx, hb, hml, hown, hts⟩ (k_X11_control l D a2 cZ2 cI2 M H1.size) (cwV 0 hts gL_law_X11_control rfl rfl rfl (by decide +kernel) ⟨Nat.le_of_ble_eq_true rfl, Nat.le_of_ble_eq_true rfl⟩) ⟨blW okN_T, va_recv hKm hPm (ci := 11) (q0 := 0) rfl rfl, preW hPm hKm hDm okN_T trivial⟩ rfl rfl hl.1 rfl (lv_room (Nat.le_of_ble_eq_true rfl)) dL_law_604 ⟨by show 17 + k + 0 + 0 ≤ 1052; omega, by show 663 + 6 * k + 0 + 0 ≤ 8921; omega⟩) hS1 (aA_in hAm) (aA_free hAm hA hS1) (fun r2 u2 t2 H2 L2 ht2 hvm2 hw2 hB2 hz2 hk2 hS2 => ?_)
  obtain ⟨hP3, -, -⟩ := hB2
  rw [ht2] at hP3
  obtain ⟨hu2, hr2⟩ := hw2
  obtain ⟨hP4, hD4⟩ := joinW (as := adM a2) hP2 hD2 rfl rfl hk2 hP3
  replace hP4 : va_P D vwCl (wM a2 cZ2 cI2 u2 ++ (wP a cZ cI C ++ wO o cJ fo)) H2 := hP4
  replace hD4 : va_D (lwA s) (wM a2 cZ2 cI2 u2 ++ (wP a cZ cI C ++ wO o cJ fo)) := hD4
  have hRel : Rel (800 * k) C u2 := by rw [hu2]; exact Rel_thr (v := 0) hR
  have hEq : r1 = r2 := by rw [hr1, hr2]; exact q_get (k := 12) hR rfl (by decide)
  refine lv_icmp_eq (tgt := 885) hx hb dL_law_607 (by decide) (fun c1 => ?_) (fun c1 => absurd hEq c1)
  refine W.widen (k := 17 + (k + 1)) (n := 663 + 6 * (k + 1)) (by omega) (by omega) ?_
  exact kont C u2 fo H2 L2 ls (Rel_up hRel (by omega)) ⟨hP4, hD4, hS2⟩ hl

set_option maxHeartbeats 4000000 in
set_option maxRecDepth 100000 in
theorem cs_received {p : Program} {l : Launch} {e : Env} {s : State} {m : MethodId} {below : List Frame} {meth : Method} {c : Code} {D : va_G} {b L : Nat} {xs : Nat → Int32} {a a2 : Nat → Nat} {cZ cI cJ cZ2 cI2 : ClassId} {o k : Nat} {C M : St} {fo : Nat → Int64} {H : Heap} {locs : List Loc} {ls : Array Slot} (F : lwF p l s m meth c D b L xs cZ cI cJ cZ2 cI2) (hk : 3 * k + 2 < L) (hR : Rel (800 * k) C M) (hV : lwV s D a a2 cZ cI cJ cZ2 cI2 o C M fo H locs) (hl : lv_has ls 7 [(4, .int (nI (3 * k))), (0, .ref b), (1, .ref (a 0)), (2, .ref (a2 0)), (3, .ref o)]) (kont : lwN p l e s m below meth c D b a a2 cZ cI cJ cZ2 cI2 o k) : W p l e room_1 s m #[Value.ref b] below meth c H locs (17 + k) (663 + 6 * k) (lw_Z below #[Value.ref b] s) (F0 m 612 ls []) := by
  obtain ⟨⟨hx, hb, hr, hml, hown, hts0, hX, hbl, hlocks, hgv⟩, hL, hfl, hNY, hZ, hK⟩ := F
  have hts : ∀ w ∈ wsL_law, w.before #[Value.ref b] s = true := fun w h => hts0 w (wsL_law_in w h)
  have hA : ∀ q : Nat, s.heap.size ≤ q → lwA s q := fun _ h => h
  have hbA : ¬ lwA s b := Nat.not_le.mpr hbl
  obtain ⟨hP, hD, hS⟩ := hV
  have hin1 : vp_in (nI (3 * k + 1)) L := vp_in_nI (by omega) (by omega)
  have hin2 : vp_in (nI (3 * k + 2)) L := vp_in_nI (by omega) (by omega)
  have hn : 800 * k < 1000000 := by omega
  have hn2 : 800 * k + 800 < 1000000 := by omega
  have hm := Rel_M hR
  have hJ := Rel_J hR
  have hKc := hK.sub (tys' := tyZI cZ cI) [0, 1] rfl
  have hKm := hK.sub (tys' := tyZI cZ2 cI2) [3, 4] rfl
  have hPc := subP hP
  have hDc := subD hD
  have hAc : ∀ q : Nat, q ∈ adP a → lwA s q := adA hDc rfl
  refine lv_aload_n hx hb dL_law_612 rfl (lv_at hl 2 rfl) ?_
  refine va_calli (va_runV (As := []) (rest := []) ⟨hx, hb, hml, hown, hts⟩ (k_X10_received l D a cZ cI C H.size) (cwV 0 hts gL_law_X10_received rfl rfl rfl (by decide +kernel) ⟨Nat.le_of_ble_eq_true rfl, Nat.le_of_ble_eq_true rfl⟩) ⟨blW okN_P, va_recv hKc hPc (ci := 10) (q0 := 0) rfl rfl, preW hPc hKc hDc okN_P hNY.1⟩ rfl rfl hl.1 rfl (lv_room (Nat.le_of_ble_eq_true rfl)) dL_law_613 ⟨by show 17 + k + 0 ≤ 1052; omega, by show 663 + 6 * k + 0 ≤ 8921; omega⟩) hS (aA_in hAc) (aA_free hAc hA hS) (fun r1 u1 t1 H1 L1 ht1 hvm1 hw1 hB1 hz1 hk1 hS1 => ?_)
  obtain ⟨hP1, -, -⟩ := hB1
  rw [ht1] at hP1
  obtain ⟨hu1, hr1⟩ := hw1
  subst u1
  obtain ⟨hP2, hD2⟩ := joinW (as := adP a) hP hD rfl rfl hk1 hP1
  replace hP2 : va_P D vwCl ([] ++ (wM a2 cZ2 cI2 M ++ (wP a cZ cI C ++ wO o cJ fo))) H1 := hP2
  replace hD2 : va_D (lwA s) ([] ++ (wM a2 cZ2 cI2 M ++ (wP a cZ cI C ++ wO o cJ fo))) := hD2
  refine lv_aload_n hx hb dL_law_616 rfl (lv_at hl 3 rfl) ?_
  have hPm := subP hP2
  have hDm := subD hD2
  have hAm : ∀ q : Nat, q ∈ adM a2 → lwA s q := adA hDm rfl
  refine va_calli (va_runV (As := []) (rest := [.int r1]) ⟨hx, hb, hml, hown, hts⟩ (k_X11_received l D a2 cZ2 cI2 M H1.size) (cwV 0 hts gL_law_X11_received rfl rfl rfl (by decide +kernel) ⟨Nat.le_of_ble_eq_true rfl, Nat.le_of_ble_eq_true rfl⟩) ⟨blW okN_T, va_recv hKm hPm (ci := 11) (q0 := 0) rfl rfl, preW hPm hKm hDm okN_T trivial⟩ rfl rfl hl.1 rfl (lv_room (Nat.le_of_ble_eq_true rfl)) dL_law_617 ⟨by show 17 + k + 0 + 0 ≤ 1052; omega, by show 663 + 6 * k + 0 + 0 ≤ 8921; omega⟩) hS1 (aA_in hAm) (aA_free hAm hA hS1) (fun r2 u2 t2 H2 L2 ht2 hvm2 hw2 hB2 hz2 hk2 hS2 => ?_)
  obtain ⟨hP3, -, -⟩ := hB2
  rw [ht2] at hP3
  obtain ⟨hu2, hr2⟩ := hw2
  obtain ⟨hP4, hD4⟩ := joinW (as := adM a2) hP2 hD2 rfl rfl hk2 hP3
  replace hP4 : va_P D vwCl (wM a2 cZ2 cI2 u2 ++ (wP a cZ cI C ++ wO o cJ fo)) H2 := hP4
  replace hD4 : va_D (lwA s) (wM a2 cZ2 cI2 u2 ++ (wP a cZ cI C ++ wO o cJ fo)) := hD4
  have hRel : Rel (800 * k) C u2 := by rw [hu2]; exact Rel_thr (v := 0) hR
  have hEq : r1 = r2 := by rw [hr1, hr2]; exact q_get (k := 24) hR rfl (by decide)
  refine lv_icmp_eq (tgt := 885) hx hb dL_law_620 (by decide) (fun c1 => ?_) (fun c1 => absurd hEq c1)
  refine W.widen (k := 17 + (k + 1)) (n := 663 + 6 * (k + 1)) (by omega) (by omega) ?_
  exact kont C u2 fo H2 L2 ls (Rel_up hRel (by omega)) ⟨hP4, hD4, hS2⟩ hl

set_option maxHeartbeats 4000000 in
set_option maxRecDepth 100000 in
theorem cs_repeated {p : Program} {l : Launch} {e : Env} {s : State} {m : MethodId} {below : List Frame} {meth : Method} {c : Code} {D : va_G} {b L : Nat} {xs : Nat → Int32} {a a2 : Nat → Nat} {cZ cI cJ cZ2 cI2 : ClassId} {o k : Nat} {C M : St} {fo : Nat → Int64} {H : Heap} {locs : List Loc} {ls : Array Slot} (F : lwF p l s m meth c D b L xs cZ cI cJ cZ2 cI2) (hk : 3 * k + 2 < L) (hR : Rel (800 * k) C M) (hV : lwV s D a a2 cZ cI cJ cZ2 cI2 o C M fo H locs) (hl : lv_has ls 7 [(4, .int (nI (3 * k))), (0, .ref b), (1, .ref (a 0)), (2, .ref (a2 0)), (3, .ref o)]) (kont : lwN p l e s m below meth c D b a a2 cZ cI cJ cZ2 cI2 o k) : W p l e room_1 s m #[Value.ref b] below meth c H locs (17 + k) (663 + 6 * k) (lw_Z below #[Value.ref b] s) (F0 m 725 ls []) := by
  obtain ⟨⟨hx, hb, hr, hml, hown, hts0, hX, hbl, hlocks, hgv⟩, hL, hfl, hNY, hZ, hK⟩ := F
  have hts : ∀ w ∈ wsL_law, w.before #[Value.ref b] s = true := fun w h => hts0 w (wsL_law_in w h)
  have hA : ∀ q : Nat, s.heap.size ≤ q → lwA s q := fun _ h => h
  have hbA : ¬ lwA s b := Nat.not_le.mpr hbl
  obtain ⟨hP, hD, hS⟩ := hV
  have hin1 : vp_in (nI (3 * k + 1)) L := vp_in_nI (by omega) (by omega)
  have hin2 : vp_in (nI (3 * k + 2)) L := vp_in_nI (by omega) (by omega)
  have hn : 800 * k < 1000000 := by omega
  have hn2 : 800 * k + 800 < 1000000 := by omega
  have hm := Rel_M hR
  have hJ := Rel_J hR
  have hKc := hK.sub (tys' := tyZI cZ cI) [0, 1] rfl
  have hKm := hK.sub (tys' := tyZI cZ2 cI2) [3, 4] rfl
  have hPc := subP hP
  have hDc := subD hD
  have hAc : ∀ q : Nat, q ∈ adP a → lwA s q := adA hDc rfl
  refine lv_aload_n hx hb dL_law_725 rfl (lv_at hl 2 rfl) ?_
  refine va_calli (va_runV (As := []) (rest := []) ⟨hx, hb, hml, hown, hts⟩ (k_X10_repeated l D a cZ cI C H.size) (cwV 0 hts gL_law_X10_repeated rfl rfl rfl (by decide +kernel) ⟨Nat.le_of_ble_eq_true rfl, Nat.le_of_ble_eq_true rfl⟩) ⟨blW okN_P, va_recv hKc hPc (ci := 10) (q0 := 0) rfl rfl, preW hPc hKc hDc okN_P hNY.1⟩ rfl rfl hl.1 rfl (lv_room (Nat.le_of_ble_eq_true rfl)) dL_law_726 ⟨by show 17 + k + 0 ≤ 1052; omega, by show 663 + 6 * k + 0 ≤ 8921; omega⟩) hS (aA_in hAc) (aA_free hAc hA hS) (fun r1 u1 t1 H1 L1 ht1 hvm1 hw1 hB1 hz1 hk1 hS1 => ?_)
  obtain ⟨hP1, -, -⟩ := hB1
  rw [ht1] at hP1
  obtain ⟨hu1, hr1⟩ := hw1
  subst u1
  obtain ⟨hP2, hD2⟩ := joinW (as := adP a) hP hD rfl rfl hk1 hP1
  replace hP2 : va_P D vwCl ([] ++ (wM a2 cZ2 cI2 M ++ (wP a cZ cI C ++ wO o cJ fo))) H1 := hP2
  replace hD2 : va_D (lwA s) ([] ++ (wM a2 cZ2 cI2 M ++ (wP a cZ cI C ++ wO o cJ fo))) := hD2
  refine lv_aload_n hx hb dL_law_729 rfl (lv_at hl 3 rfl) ?_
  have hPm := subP hP2
  have hDm := subD hD2
  have hAm : ∀ q : Nat, q ∈ adM a2 → lwA s q := adA hDm rfl
  refine va_calli (va_runV (As := []) (rest := [.int r1]) ⟨hx, hb, hml, hown, hts⟩ (k_X11_repeated l D a2 cZ2 cI2 M H1.size) (cwV 0 hts gL_law_X11_repeated rfl rfl rfl (by decide +kernel) ⟨Nat.le_of_ble_eq_true rfl, Nat.le_of_ble_eq_true rfl⟩) ⟨blW okN_T, va_recv hKm hPm (ci := 11) (q0 := 0) rfl rfl, preW hPm hKm hDm okN_T trivial⟩ rfl rfl hl.1 rfl (lv_room (Nat.le_of_ble_eq_true rfl)) dL_law_730 ⟨by show 17 + k + 0 + 0 ≤ 1052; omega, by show 663 + 6 * k + 0 + 0 ≤ 8921; omega⟩) hS1 (aA_in hAm) (aA_free hAm hA hS1) (fun r2 u2 t2 H2 L2 ht2 hvm2 hw2 hB2 hz2 hk2 hS2 => ?_)
  obtain ⟨hP3, -, -⟩ := hB2
  rw [ht2] at hP3
  obtain ⟨hu2, hr2⟩ := hw2
  obtain ⟨hP4, hD4⟩ := joinW (as := adM a2) hP2 hD2 rfl rfl hk2 hP3
  replace hP4 : va_P D vwCl (wM a2 cZ2 cI2 u2 ++ (wP a cZ cI C ++ wO o cJ fo)) H2 := hP4
  replace hD4 : va_D (lwA s) (wM a2 cZ2 cI2 u2 ++ (wP a cZ cI C ++ wO o cJ fo)) := hD4
  have hRel : Rel (800 * k) C u2 := by rw [hu2]; exact Rel_thr (v := 0) hR
  have hEq : r1 = r2 := by rw [hr1, hr2]; exact q_get (k := 27) hR rfl (by decide)
  refine lv_icmp_eq (tgt := 885) hx hb dL_law_733 (by decide) (fun c1 => ?_) (fun c1 => absurd hEq c1)
  refine W.widen (k := 17 + (k + 1)) (n := 663 + 6 * (k + 1)) (by omega) (by omega) ?_
  exact kont C u2 fo H2 L2 ls (Rel_up hRel (by omega)) ⟨hP4, hD4, hS2⟩ hl

set_option maxHeartbeats 4000000 in
set_option maxRecDepth 100000 in
theorem cs_skipped {p : Program} {l : Launch} {e : Env} {s : State} {m : MethodId} {below : List Frame} {meth : Method} {c : Code} {D : va_G} {b L : Nat} {xs : Nat → Int32} {a a2 : Nat → Nat} {cZ cI cJ cZ2 cI2 : ClassId} {o k : Nat} {C M : St} {fo : Nat → Int64} {H : Heap} {locs : List Loc} {ls : Array Slot} (F : lwF p l s m meth c D b L xs cZ cI cJ cZ2 cI2) (hk : 3 * k + 2 < L) (hR : Rel (800 * k) C M) (hV : lwV s D a a2 cZ cI cJ cZ2 cI2 o C M fo H locs) (hl : lv_has ls 7 [(4, .int (nI (3 * k))), (0, .ref b), (1, .ref (a 0)), (2, .ref (a2 0)), (3, .ref o)]) (kont : lwN p l e s m below meth c D b a a2 cZ cI cJ cZ2 cI2 o k) : W p l e room_1 s m #[Value.ref b] below meth c H locs (17 + k) (663 + 6 * k) (lw_Z below #[Value.ref b] s) (F0 m 738 ls []) := by
  obtain ⟨⟨hx, hb, hr, hml, hown, hts0, hX, hbl, hlocks, hgv⟩, hL, hfl, hNY, hZ, hK⟩ := F
  have hts : ∀ w ∈ wsL_law, w.before #[Value.ref b] s = true := fun w h => hts0 w (wsL_law_in w h)
  have hA : ∀ q : Nat, s.heap.size ≤ q → lwA s q := fun _ h => h
  have hbA : ¬ lwA s b := Nat.not_le.mpr hbl
  obtain ⟨hP, hD, hS⟩ := hV
  have hin1 : vp_in (nI (3 * k + 1)) L := vp_in_nI (by omega) (by omega)
  have hin2 : vp_in (nI (3 * k + 2)) L := vp_in_nI (by omega) (by omega)
  have hn : 800 * k < 1000000 := by omega
  have hn2 : 800 * k + 800 < 1000000 := by omega
  have hm := Rel_M hR
  have hJ := Rel_J hR
  have hKc := hK.sub (tys' := tyZI cZ cI) [0, 1] rfl
  have hKm := hK.sub (tys' := tyZI cZ2 cI2) [3, 4] rfl
  have hPc := subP hP
  have hDc := subD hD
  have hAc : ∀ q : Nat, q ∈ adP a → lwA s q := adA hDc rfl
  refine lv_aload_n hx hb dL_law_738 rfl (lv_at hl 2 rfl) ?_
  refine va_calli (va_runV (As := []) (rest := []) ⟨hx, hb, hml, hown, hts⟩ (k_X10_skipped l D a cZ cI C H.size) (cwV 0 hts gL_law_X10_skipped rfl rfl rfl (by decide +kernel) ⟨Nat.le_of_ble_eq_true rfl, Nat.le_of_ble_eq_true rfl⟩) ⟨blW okN_P, va_recv hKc hPc (ci := 10) (q0 := 0) rfl rfl, preW hPc hKc hDc okN_P hNY.1⟩ rfl rfl hl.1 rfl (lv_room (Nat.le_of_ble_eq_true rfl)) dL_law_739 ⟨by show 17 + k + 0 ≤ 1052; omega, by show 663 + 6 * k + 0 ≤ 8921; omega⟩) hS (aA_in hAc) (aA_free hAc hA hS) (fun r1 u1 t1 H1 L1 ht1 hvm1 hw1 hB1 hz1 hk1 hS1 => ?_)
  obtain ⟨hP1, -, -⟩ := hB1
  rw [ht1] at hP1
  obtain ⟨hu1, hr1⟩ := hw1
  subst u1
  obtain ⟨hP2, hD2⟩ := joinW (as := adP a) hP hD rfl rfl hk1 hP1
  replace hP2 : va_P D vwCl ([] ++ (wM a2 cZ2 cI2 M ++ (wP a cZ cI C ++ wO o cJ fo))) H1 := hP2
  replace hD2 : va_D (lwA s) ([] ++ (wM a2 cZ2 cI2 M ++ (wP a cZ cI C ++ wO o cJ fo))) := hD2
  refine lv_aload_n hx hb dL_law_742 rfl (lv_at hl 3 rfl) ?_
  have hPm := subP hP2
  have hDm := subD hD2
  have hAm : ∀ q : Nat, q ∈ adM a2 → lwA s q := adA hDm rfl
  refine va_calli (va_runV (As := []) (rest := [.int r1]) ⟨hx, hb, hml, hown, hts⟩ (k_X11_skipped l D a2 cZ2 cI2 M H1.size) (cwV 0 hts gL_law_X11_skipped rfl rfl rfl (by decide +kernel) ⟨Nat.le_of_ble_eq_true rfl, Nat.le_of_ble_eq_true rfl⟩) ⟨blW okN_T, va_recv hKm hPm (ci := 11) (q0 := 0) rfl rfl, preW hPm hKm hDm okN_T trivial⟩ rfl rfl hl.1 rfl (lv_room (Nat.le_of_ble_eq_true rfl)) dL_law_743 ⟨by show 17 + k + 0 + 0 ≤ 1052; omega, by show 663 + 6 * k + 0 + 0 ≤ 8921; omega⟩) hS1 (aA_in hAm) (aA_free hAm hA hS1) (fun r2 u2 t2 H2 L2 ht2 hvm2 hw2 hB2 hz2 hk2 hS2 => ?_)
  obtain ⟨hP3, -, -⟩ := hB2
  rw [ht2] at hP3
  obtain ⟨hu2, hr2⟩ := hw2
  obtain ⟨hP4, hD4⟩ := joinW (as := adM a2) hP2 hD2 rfl rfl hk2 hP3
  replace hP4 : va_P D vwCl (wM a2 cZ2 cI2 u2 ++ (wP a cZ cI C ++ wO o cJ fo)) H2 := hP4
  replace hD4 : va_D (lwA s) (wM a2 cZ2 cI2 u2 ++ (wP a cZ cI C ++ wO o cJ fo)) := hD4
  have hRel : Rel (800 * k) C u2 := by rw [hu2]; exact Rel_thr (v := 0) hR
  have hEq : r1 = r2 := by rw [hr1, hr2]; exact q_get (k := 28) hR rfl (by decide)
  refine lv_icmp_eq (tgt := 885) hx hb dL_law_746 (by decide) (fun c1 => ?_) (fun c1 => absurd hEq c1)
  refine W.widen (k := 17 + (k + 1)) (n := 663 + 6 * (k + 1)) (by omega) (by omega) ?_
  exact kont C u2 fo H2 L2 ls (Rel_up hRel (by omega)) ⟨hP4, hD4, hS2⟩ hl

set_option maxHeartbeats 4000000 in
set_option maxRecDepth 100000 in
theorem cs_isLocked {p : Program} {l : Launch} {e : Env} {s : State} {m : MethodId} {below : List Frame} {meth : Method} {c : Code} {D : va_G} {b L : Nat} {xs : Nat → Int32} {a a2 : Nat → Nat} {cZ cI cJ cZ2 cI2 : ClassId} {o k : Nat} {C M : St} {fo : Nat → Int64} {H : Heap} {locs : List Loc} {ls : Array Slot} (F : lwF p l s m meth c D b L xs cZ cI cJ cZ2 cI2) (hk : 3 * k + 2 < L) (hR : Rel (800 * k) C M) (hV : lwV s D a a2 cZ cI cJ cZ2 cI2 o C M fo H locs) (hl : lv_has ls 7 [(4, .int (nI (3 * k))), (0, .ref b), (1, .ref (a 0)), (2, .ref (a2 0)), (3, .ref o)]) (kont : lwN p l e s m below meth c D b a a2 cZ cI cJ cZ2 cI2 o k) : W p l e room_1 s m #[Value.ref b] below meth c H locs (17 + k) (663 + 6 * k) (lw_Z below #[Value.ref b] s) (F0 m 751 ls []) := by
  obtain ⟨⟨hx, hb, hr, hml, hown, hts0, hX, hbl, hlocks, hgv⟩, hL, hfl, hNY, hZ, hK⟩ := F
  have hts : ∀ w ∈ wsL_law, w.before #[Value.ref b] s = true := fun w h => hts0 w (wsL_law_in w h)
  have hA : ∀ q : Nat, s.heap.size ≤ q → lwA s q := fun _ h => h
  have hbA : ¬ lwA s b := Nat.not_le.mpr hbl
  obtain ⟨hP, hD, hS⟩ := hV
  have hin1 : vp_in (nI (3 * k + 1)) L := vp_in_nI (by omega) (by omega)
  have hin2 : vp_in (nI (3 * k + 2)) L := vp_in_nI (by omega) (by omega)
  have hn : 800 * k < 1000000 := by omega
  have hn2 : 800 * k + 800 < 1000000 := by omega
  have hm := Rel_M hR
  have hJ := Rel_J hR
  have hKc := hK.sub (tys' := tyZI cZ cI) [0, 1] rfl
  have hKm := hK.sub (tys' := tyZI cZ2 cI2) [3, 4] rfl
  have hPc := subP hP
  have hDc := subD hD
  have hAc : ∀ q : Nat, q ∈ adP a → lwA s q := adA hDc rfl
  refine lv_aload_n hx hb dL_law_751 rfl (lv_at hl 2 rfl) ?_
  refine va_calli (va_runV (As := []) (rest := []) ⟨hx, hb, hml, hown, hts⟩ (k_X10_isLocked l D a cZ cI C H.size) (cwV 0 hts gL_law_X10_isLocked rfl rfl rfl (by decide +kernel) ⟨Nat.le_of_ble_eq_true rfl, Nat.le_of_ble_eq_true rfl⟩) ⟨blW okN_P, va_recv hKc hPc (ci := 10) (q0 := 0) rfl rfl, preW hPc hKc hDc okN_P hNY.1⟩ rfl rfl hl.1 rfl (lv_room (Nat.le_of_ble_eq_true rfl)) dL_law_752 ⟨by show 17 + k + 0 ≤ 1052; omega, by show 663 + 6 * k + 0 ≤ 8921; omega⟩) hS (aA_in hAc) (aA_free hAc hA hS) (fun r1 u1 t1 H1 L1 ht1 hvm1 hw1 hB1 hz1 hk1 hS1 => ?_)
  obtain ⟨hP1, -, -⟩ := hB1
  rw [ht1] at hP1
  obtain ⟨hu1, hr1⟩ := hw1
  subst u1
  obtain ⟨hP2, hD2⟩ := joinW (as := adP a) hP hD rfl rfl hk1 hP1
  replace hP2 : va_P D vwCl ([] ++ (wM a2 cZ2 cI2 M ++ (wP a cZ cI C ++ wO o cJ fo))) H1 := hP2
  replace hD2 : va_D (lwA s) ([] ++ (wM a2 cZ2 cI2 M ++ (wP a cZ cI C ++ wO o cJ fo))) := hD2
  refine lv_aload_n hx hb dL_law_755 rfl (lv_at hl 3 rfl) ?_
  have hPm := subP hP2
  have hDm := subD hD2
  have hAm : ∀ q : Nat, q ∈ adM a2 → lwA s q := adA hDm rfl
  refine va_calli (va_runV (As := []) (rest := [.int r1]) ⟨hx, hb, hml, hown, hts⟩ (k_X11_isLocked l D a2 cZ2 cI2 M H1.size) (cwV 0 hts gL_law_X11_isLocked rfl rfl rfl (by decide +kernel) ⟨Nat.le_of_ble_eq_true rfl, Nat.le_of_ble_eq_true rfl⟩) ⟨blW okN_T, va_recv hKm hPm (ci := 11) (q0 := 0) rfl rfl, preW hPm hKm hDm okN_T trivial⟩ rfl rfl hl.1 rfl (lv_room (Nat.le_of_ble_eq_true rfl)) dL_law_756 ⟨by show 17 + k + 0 + 0 ≤ 1052; omega, by show 663 + 6 * k + 0 + 0 ≤ 8921; omega⟩) hS1 (aA_in hAm) (aA_free hAm hA hS1) (fun r2 u2 t2 H2 L2 ht2 hvm2 hw2 hB2 hz2 hk2 hS2 => ?_)
  obtain ⟨hP3, -, -⟩ := hB2
  rw [ht2] at hP3
  obtain ⟨hu2, hr2⟩ := hw2
  obtain ⟨hP4, hD4⟩ := joinW (as := adM a2) hP2 hD2 rfl rfl hk2 hP3
  replace hP4 : va_P D vwCl (wM a2 cZ2 cI2 u2 ++ (wP a cZ cI C ++ wO o cJ fo)) H2 := hP4
  replace hD4 : va_D (lwA s) (wM a2 cZ2 cI2 u2 ++ (wP a cZ cI C ++ wO o cJ fo)) := hD4
  have hRel : Rel (800 * k) C u2 := by rw [hu2]; exact Rel_thr (v := 0) hR
  have hEq : r1 = r2 := by rw [hr1, hr2]; exact q_isLocked (by omega) hR
  refine lv_icmp_eq (tgt := 885) hx hb dL_law_759 (by decide) (fun c1 => ?_) (fun c1 => absurd hEq c1)
  refine W.widen (k := 17 + (k + 1)) (n := 663 + 6 * (k + 1)) (by omega) (by omega) ?_
  exact kont C u2 fo H2 L2 ls (Rel_up hRel (by omega)) ⟨hP4, hD4, hS2⟩ hl

set_option maxHeartbeats 4000000 in
set_option maxRecDepth 100000 in
theorem cs_wander {p : Program} {l : Launch} {e : Env} {s : State} {m : MethodId} {below : List Frame} {meth : Method} {c : Code} {D : va_G} {b L : Nat} {xs : Nat → Int32} {a a2 : Nat → Nat} {cZ cI cJ cZ2 cI2 : ClassId} {o k : Nat} {C M : St} {fo : Nat → Int64} {H : Heap} {locs : List Loc} {ls : Array Slot} (F : lwF p l s m meth c D b L xs cZ cI cJ cZ2 cI2) (hk : 3 * k + 2 < L) (hR : Rel (800 * k) C M) (hV : lwV s D a a2 cZ cI cJ cZ2 cI2 o C M fo H locs) (hl : lv_has ls 7 [(4, .int (nI (3 * k))), (0, .ref b), (1, .ref (a 0)), (2, .ref (a2 0)), (3, .ref o)]) (kont : lwN p l e s m below meth c D b a a2 cZ cI cJ cZ2 cI2 o k) : W p l e room_1 s m #[Value.ref b] below meth c H locs (17 + k) (663 + 6 * k) (lw_Z below #[Value.ref b] s) (F0 m 764 ls []) := by
  obtain ⟨⟨hx, hb, hr, hml, hown, hts0, hX, hbl, hlocks, hgv⟩, hL, hfl, hNY, hZ, hK⟩ := F
  have hts : ∀ w ∈ wsL_law, w.before #[Value.ref b] s = true := fun w h => hts0 w (wsL_law_in w h)
  have hA : ∀ q : Nat, s.heap.size ≤ q → lwA s q := fun _ h => h
  have hbA : ¬ lwA s b := Nat.not_le.mpr hbl
  obtain ⟨hP, hD, hS⟩ := hV
  have hin1 : vp_in (nI (3 * k + 1)) L := vp_in_nI (by omega) (by omega)
  have hin2 : vp_in (nI (3 * k + 2)) L := vp_in_nI (by omega) (by omega)
  have hn : 800 * k < 1000000 := by omega
  have hn2 : 800 * k + 800 < 1000000 := by omega
  have hm := Rel_M hR
  have hJ := Rel_J hR
  have hKc := hK.sub (tys' := tyZI cZ cI) [0, 1] rfl
  have hKm := hK.sub (tys' := tyZI cZ2 cI2) [3, 4] rfl
  have hPc := subP hP
  have hDc := subD hD
  have hAc : ∀ q : Nat, q ∈ adP a → lwA s q := adA hDc rfl
  refine lv_aload_n hx hb dL_law_764 rfl (lv_at hl 2 rfl) ?_
  refine va_calli (va_runV (As := []) (rest := []) ⟨hx, hb, hml, hown, hts⟩ (k_X10_wander l D a cZ cI C H.size) (cwV 0 hts gL_law_X10_wander rfl rfl rfl (by decide +kernel) ⟨Nat.le_of_ble_eq_true rfl, Nat.le_of_ble_eq_true rfl⟩) ⟨blW okN_P, va_recv hKc hPc (ci := 10) (q0 := 0) rfl rfl, preW hPc hKc hDc okN_P hNY.1⟩ rfl rfl hl.1 rfl (lv_room (Nat.le_of_ble_eq_true rfl)) dL_law_765 ⟨by show 17 + k + 0 ≤ 1052; omega, by show 663 + 6 * k + 0 ≤ 8921; omega⟩) hS (aA_in hAc) (aA_free hAc hA hS) (fun r1 u1 t1 H1 L1 ht1 hvm1 hw1 hB1 hz1 hk1 hS1 => ?_)
  obtain ⟨hP1, -, -⟩ := hB1
  rw [ht1] at hP1
  obtain ⟨hu1, hr1⟩ := hw1
  subst u1
  obtain ⟨hP2, hD2⟩ := joinW (as := adP a) hP hD rfl rfl hk1 hP1
  replace hP2 : va_P D vwCl ([] ++ (wM a2 cZ2 cI2 M ++ (wP a cZ cI C ++ wO o cJ fo))) H1 := hP2
  replace hD2 : va_D (lwA s) ([] ++ (wM a2 cZ2 cI2 M ++ (wP a cZ cI C ++ wO o cJ fo))) := hD2
  refine lv_aload_n hx hb dL_law_768 rfl (lv_at hl 3 rfl) ?_
  have hPm := subP hP2
  have hDm := subD hD2
  have hAm : ∀ q : Nat, q ∈ adM a2 → lwA s q := adA hDm rfl
  refine va_calli (va_runV (As := []) (rest := [.int r1]) ⟨hx, hb, hml, hown, hts⟩ (k_X11_wander l D a2 cZ2 cI2 M H1.size (800 * k) (by omega) hm) (cwV 0 hts gL_law_X11_wander rfl rfl rfl (by decide +kernel) ⟨Nat.le_of_ble_eq_true rfl, Nat.le_of_ble_eq_true rfl⟩) ⟨blW okN_T, va_recv hKm hPm (ci := 11) (q0 := 0) rfl rfl, preW hPm hKm hDm okN_T trivial⟩ rfl rfl hl.1 rfl (lv_room (Nat.le_of_ble_eq_true rfl)) dL_law_769 ⟨by show 17 + k + 0 + 0 ≤ 1052; omega, by show 663 + 6 * k + 0 + 0 ≤ 8921; omega⟩) hS1 (aA_in hAm) (aA_free hAm hA hS1) (fun r2 u2 t2 H2 L2 ht2 hvm2 hw2 hB2 hz2 hk2 hS2 => ?_)
  obtain ⟨hP3, -, -⟩ := hB2
  rw [ht2] at hP3
  obtain ⟨hu2, hr2⟩ := hw2
  obtain ⟨hP4, hD4⟩ := joinW (as := adM a2) hP2 hD2 rfl rfl hk2 hP3
  replace hP4 : va_P D vwCl (wM a2 cZ2 cI2 u2 ++ (wP a cZ cI C ++ wO o cJ fo)) H2 := hP4
  replace hD4 : va_D (lwA s) (wM a2 cZ2 cI2 u2 ++ (wP a cZ cI C ++ wO o cJ fo)) := hD4
  have hRel : Rel (800 * k) C u2 := by rw [hu2]; exact Rel_thr (v := 0) hR
  have hEq : r1 = r2 := by rw [hr1, hr2]; exact q_wander hR
  refine lv_icmp_eq (tgt := 885) hx hb dL_law_772 (by decide) (fun c1 => ?_) (fun c1 => absurd hEq c1)
  refine W.widen (k := 17 + (k + 1)) (n := 663 + 6 * (k + 1)) (by omega) (by omega) ?_
  exact kont C u2 fo H2 L2 ls (Rel_up hRel (by omega)) ⟨hP4, hD4, hS2⟩ hl

set_option maxHeartbeats 4000000 in
set_option maxRecDepth 100000 in
theorem cs_alignment {p : Program} {l : Launch} {e : Env} {s : State} {m : MethodId} {below : List Frame} {meth : Method} {c : Code} {D : va_G} {b L : Nat} {xs : Nat → Int32} {a a2 : Nat → Nat} {cZ cI cJ cZ2 cI2 : ClassId} {o k : Nat} {C M : St} {fo : Nat → Int64} {H : Heap} {locs : List Loc} {ls : Array Slot} (F : lwF p l s m meth c D b L xs cZ cI cJ cZ2 cI2) (hk : 3 * k + 2 < L) (hR : Rel (800 * k) C M) (hV : lwV s D a a2 cZ cI cJ cZ2 cI2 o C M fo H locs) (hl : lv_has ls 7 [(4, .int (nI (3 * k))), (0, .ref b), (1, .ref (a 0)), (2, .ref (a2 0)), (3, .ref o)]) (kont : lwN p l e s m below meth c D b a a2 cZ cI cJ cZ2 cI2 o k) : W p l e room_1 s m #[Value.ref b] below meth c H locs (17 + k) (663 + 6 * k) (lw_Z below #[Value.ref b] s) (F0 m 777 ls []) := by
  obtain ⟨⟨hx, hb, hr, hml, hown, hts0, hX, hbl, hlocks, hgv⟩, hL, hfl, hNY, hZ, hK⟩ := F
  have hts : ∀ w ∈ wsL_law, w.before #[Value.ref b] s = true := fun w h => hts0 w (wsL_law_in w h)
  have hA : ∀ q : Nat, s.heap.size ≤ q → lwA s q := fun _ h => h
  have hbA : ¬ lwA s b := Nat.not_le.mpr hbl
  obtain ⟨hP, hD, hS⟩ := hV
  have hin1 : vp_in (nI (3 * k + 1)) L := vp_in_nI (by omega) (by omega)
  have hin2 : vp_in (nI (3 * k + 2)) L := vp_in_nI (by omega) (by omega)
  have hn : 800 * k < 1000000 := by omega
  have hn2 : 800 * k + 800 < 1000000 := by omega
  have hm := Rel_M hR
  have hJ := Rel_J hR
  have hKc := hK.sub (tys' := tyZI cZ cI) [0, 1] rfl
  have hKm := hK.sub (tys' := tyZI cZ2 cI2) [3, 4] rfl
  have hPc := subP hP
  have hDc := subD hD
  have hAc : ∀ q : Nat, q ∈ adP a → lwA s q := adA hDc rfl
  refine lv_aload_n hx hb dL_law_777 rfl (lv_at hl 2 rfl) ?_
  refine va_calli (va_runV (As := []) (rest := []) ⟨hx, hb, hml, hown, hts⟩ (k_X10_alignment l D a cZ cI C H.size) (cwV 0 hts gL_law_X10_alignment rfl rfl rfl (by decide +kernel) ⟨Nat.le_of_ble_eq_true rfl, Nat.le_of_ble_eq_true rfl⟩) ⟨blW okN_P, va_recv hKc hPc (ci := 10) (q0 := 0) rfl rfl, preW hPc hKc hDc okN_P hNY.1⟩ rfl rfl hl.1 rfl (lv_room (Nat.le_of_ble_eq_true rfl)) dL_law_778 ⟨by show 17 + k + 0 ≤ 1052; omega, by show 663 + 6 * k + 0 ≤ 8921; omega⟩) hS (aA_in hAc) (aA_free hAc hA hS) (fun r1 u1 t1 H1 L1 ht1 hvm1 hw1 hB1 hz1 hk1 hS1 => ?_)
  obtain ⟨hP1, -, -⟩ := hB1
  rw [ht1] at hP1
  obtain ⟨hu1, hr1⟩ := hw1
  subst u1
  obtain ⟨hP2, hD2⟩ := joinW (as := adP a) hP hD rfl rfl hk1 hP1
  replace hP2 : va_P D vwCl ([] ++ (wM a2 cZ2 cI2 M ++ (wP a cZ cI C ++ wO o cJ fo))) H1 := hP2
  replace hD2 : va_D (lwA s) ([] ++ (wM a2 cZ2 cI2 M ++ (wP a cZ cI C ++ wO o cJ fo))) := hD2
  refine lv_aload_n hx hb dL_law_781 rfl (lv_at hl 3 rfl) ?_
  have hPm := subP hP2
  have hDm := subD hD2
  have hAm : ∀ q : Nat, q ∈ adM a2 → lwA s q := adA hDm rfl
  refine va_calli (va_runV (As := []) (rest := [.int r1]) ⟨hx, hb, hml, hown, hts⟩ (k_X11_alignment l D a2 cZ2 cI2 M H1.size) (cwV 0 hts gL_law_X11_alignment rfl rfl rfl (by decide +kernel) ⟨Nat.le_of_ble_eq_true rfl, Nat.le_of_ble_eq_true rfl⟩) ⟨blW okN_T, va_recv hKm hPm (ci := 11) (q0 := 0) rfl rfl, preW hPm hKm hDm okN_T trivial⟩ rfl rfl hl.1 rfl (lv_room (Nat.le_of_ble_eq_true rfl)) dL_law_782 ⟨by show 17 + k + 0 + 0 ≤ 1052; omega, by show 663 + 6 * k + 0 + 0 ≤ 8921; omega⟩) hS1 (aA_in hAm) (aA_free hAm hA hS1) (fun r2 u2 t2 H2 L2 ht2 hvm2 hw2 hB2 hz2 hk2 hS2 => ?_)
  obtain ⟨hP3, -, -⟩ := hB2
  rw [ht2] at hP3
  obtain ⟨hu2, hr2⟩ := hw2
  obtain ⟨hP4, hD4⟩ := joinW (as := adM a2) hP2 hD2 rfl rfl hk2 hP3
  replace hP4 : va_P D vwCl (wM a2 cZ2 cI2 u2 ++ (wP a cZ cI C ++ wO o cJ fo)) H2 := hP4
  replace hD4 : va_D (lwA s) (wM a2 cZ2 cI2 u2 ++ (wP a cZ cI C ++ wO o cJ fo)) := hD4
  have hRel : Rel (800 * k) C u2 := by rw [hu2]; exact Rel_thr (v := 0) hR
  have hEq : r1 = r2 := by rw [hr1, hr2]; exact q_get (k := 31) hR rfl (by decide)
  refine lv_icmp_eq (tgt := 885) hx hb dL_law_785 (by decide) (fun c1 => ?_) (fun c1 => absurd hEq c1)
  refine W.widen (k := 17 + (k + 1)) (n := 663 + 6 * (k + 1)) (by omega) (by omega) ?_
  exact kont C u2 fo H2 L2 ls (Rel_up hRel (by omega)) ⟨hP4, hD4, hS2⟩ hl

set_option maxHeartbeats 4000000 in
set_option maxRecDepth 100000 in
theorem cs_frames {p : Program} {l : Launch} {e : Env} {s : State} {m : MethodId} {below : List Frame} {meth : Method} {c : Code} {D : va_G} {b L : Nat} {xs : Nat → Int32} {a a2 : Nat → Nat} {cZ cI cJ cZ2 cI2 : ClassId} {o k : Nat} {C M : St} {fo : Nat → Int64} {H : Heap} {locs : List Loc} {ls : Array Slot} (F : lwF p l s m meth c D b L xs cZ cI cJ cZ2 cI2) (hk : 3 * k + 2 < L) (hR : Rel (800 * k) C M) (hV : lwV s D a a2 cZ cI cJ cZ2 cI2 o C M fo H locs) (hl : lv_has ls 7 [(4, .int (nI (3 * k))), (0, .ref b), (1, .ref (a 0)), (2, .ref (a2 0)), (3, .ref o)]) (kont : lwN p l e s m below meth c D b a a2 cZ cI cJ cZ2 cI2 o k) : W p l e room_1 s m #[Value.ref b] below meth c H locs (17 + k) (663 + 6 * k) (lw_Z below #[Value.ref b] s) (F0 m 790 ls []) := by
  obtain ⟨⟨hx, hb, hr, hml, hown, hts0, hX, hbl, hlocks, hgv⟩, hL, hfl, hNY, hZ, hK⟩ := F
  have hts : ∀ w ∈ wsL_law, w.before #[Value.ref b] s = true := fun w h => hts0 w (wsL_law_in w h)
  have hA : ∀ q : Nat, s.heap.size ≤ q → lwA s q := fun _ h => h
  have hbA : ¬ lwA s b := Nat.not_le.mpr hbl
  obtain ⟨hP, hD, hS⟩ := hV
  have hin1 : vp_in (nI (3 * k + 1)) L := vp_in_nI (by omega) (by omega)
  have hin2 : vp_in (nI (3 * k + 2)) L := vp_in_nI (by omega) (by omega)
  have hn : 800 * k < 1000000 := by omega
  have hn2 : 800 * k + 800 < 1000000 := by omega
  have hm := Rel_M hR
  have hJ := Rel_J hR
  have hKc := hK.sub (tys' := tyZI cZ cI) [0, 1] rfl
  have hKm := hK.sub (tys' := tyZI cZ2 cI2) [3, 4] rfl
  have hPc := subP hP
  have hDc := subD hD
  have hAc : ∀ q : Nat, q ∈ adP a → lwA s q := adA hDc rfl
  refine lv_aload_n hx hb dL_law_790 rfl (lv_at hl 2 rfl) ?_
  refine va_calli (va_runV (As := []) (rest := []) ⟨hx, hb, hml, hown, hts⟩ (k_X10_frames l D a cZ cI C H.size) (cwV 0 hts gL_law_X10_frames rfl rfl rfl (by decide +kernel) ⟨Nat.le_of_ble_eq_true rfl, Nat.le_of_ble_eq_true rfl⟩) ⟨blW okN_P, va_recv hKc hPc (ci := 10) (q0 := 0) rfl rfl, preW hPc hKc hDc okN_P hNY.1⟩ rfl rfl hl.1 rfl (lv_room (Nat.le_of_ble_eq_true rfl)) dL_law_791 ⟨by show 17 + k + 0 ≤ 1052; omega, by show 663 + 6 * k + 0 ≤ 8921; omega⟩) hS (aA_in hAc) (aA_free hAc hA hS) (fun r1 u1 t1 H1 L1 ht1 hvm1 hw1 hB1 hz1 hk1 hS1 => ?_)
  obtain ⟨hP1, -, -⟩ := hB1
  rw [ht1] at hP1
  obtain ⟨hu1, hr1⟩ := hw1
  subst u1
  obtain ⟨hP2, hD2⟩ := joinW (as := adP a) hP hD rfl rfl hk1 hP1
  replace hP2 : va_P D vwCl ([] ++ (wM a2 cZ2 cI2 M ++ (wP a cZ cI C ++ wO o cJ fo))) H1 := hP2
  replace hD2 : va_D (lwA s) ([] ++ (wM a2 cZ2 cI2 M ++ (wP a cZ cI C ++ wO o cJ fo))) := hD2
  refine lv_aload_n hx hb dL_law_794 rfl (lv_at hl 3 rfl) ?_
  have hPm := subP hP2
  have hDm := subD hD2
  have hAm : ∀ q : Nat, q ∈ adM a2 → lwA s q := adA hDm rfl
  refine va_calli (va_runV (As := []) (rest := [.int r1]) ⟨hx, hb, hml, hown, hts⟩ (k_X11_frames l D a2 cZ2 cI2 M H1.size) (cwV 0 hts gL_law_X11_frames rfl rfl rfl (by decide +kernel) ⟨Nat.le_of_ble_eq_true rfl, Nat.le_of_ble_eq_true rfl⟩) ⟨blW okN_T, va_recv hKm hPm (ci := 11) (q0 := 0) rfl rfl, preW hPm hKm hDm okN_T trivial⟩ rfl rfl hl.1 rfl (lv_room (Nat.le_of_ble_eq_true rfl)) dL_law_795 ⟨by show 17 + k + 0 + 0 ≤ 1052; omega, by show 663 + 6 * k + 0 + 0 ≤ 8921; omega⟩) hS1 (aA_in hAm) (aA_free hAm hA hS1) (fun r2 u2 t2 H2 L2 ht2 hvm2 hw2 hB2 hz2 hk2 hS2 => ?_)
  obtain ⟨hP3, -, -⟩ := hB2
  rw [ht2] at hP3
  obtain ⟨hu2, hr2⟩ := hw2
  obtain ⟨hP4, hD4⟩ := joinW (as := adM a2) hP2 hD2 rfl rfl hk2 hP3
  replace hP4 : va_P D vwCl (wM a2 cZ2 cI2 u2 ++ (wP a cZ cI C ++ wO o cJ fo)) H2 := hP4
  replace hD4 : va_D (lwA s) (wM a2 cZ2 cI2 u2 ++ (wP a cZ cI C ++ wO o cJ fo)) := hD4
  have hRel : Rel (800 * k) C u2 := by rw [hu2]; exact Rel_thr (v := 0) hR
  have hEq : r1 = r2 := by rw [hr1, hr2]; exact q_get (k := 35) hR rfl (by decide)
  refine lv_icmp_eq (tgt := 885) hx hb dL_law_798 (by decide) (fun c1 => ?_) (fun c1 => absurd hEq c1)
  refine W.widen (k := 17 + (k + 1)) (n := 663 + 6 * (k + 1)) (by omega) (by omega) ?_
  exact kont C u2 fo H2 L2 ls (Rel_up hRel (by omega)) ⟨hP4, hD4, hS2⟩ hl

set_option maxHeartbeats 4000000 in
set_option maxRecDepth 100000 in
theorem cs_losses {p : Program} {l : Launch} {e : Env} {s : State} {m : MethodId} {below : List Frame} {meth : Method} {c : Code} {D : va_G} {b L : Nat} {xs : Nat → Int32} {a a2 : Nat → Nat} {cZ cI cJ cZ2 cI2 : ClassId} {o k : Nat} {C M : St} {fo : Nat → Int64} {H : Heap} {locs : List Loc} {ls : Array Slot} (F : lwF p l s m meth c D b L xs cZ cI cJ cZ2 cI2) (hk : 3 * k + 2 < L) (hR : Rel (800 * k) C M) (hV : lwV s D a a2 cZ cI cJ cZ2 cI2 o C M fo H locs) (hl : lv_has ls 7 [(4, .int (nI (3 * k))), (0, .ref b), (1, .ref (a 0)), (2, .ref (a2 0)), (3, .ref o)]) (kont : lwN p l e s m below meth c D b a a2 cZ cI cJ cZ2 cI2 o k) : W p l e room_1 s m #[Value.ref b] below meth c H locs (17 + k) (663 + 6 * k) (lw_Z below #[Value.ref b] s) (F0 m 803 ls []) := by
  obtain ⟨⟨hx, hb, hr, hml, hown, hts0, hX, hbl, hlocks, hgv⟩, hL, hfl, hNY, hZ, hK⟩ := F
  have hts : ∀ w ∈ wsL_law, w.before #[Value.ref b] s = true := fun w h => hts0 w (wsL_law_in w h)
  have hA : ∀ q : Nat, s.heap.size ≤ q → lwA s q := fun _ h => h
  have hbA : ¬ lwA s b := Nat.not_le.mpr hbl
  obtain ⟨hP, hD, hS⟩ := hV
  have hin1 : vp_in (nI (3 * k + 1)) L := vp_in_nI (by omega) (by omega)
  have hin2 : vp_in (nI (3 * k + 2)) L := vp_in_nI (by omega) (by omega)
  have hn : 800 * k < 1000000 := by omega
  have hn2 : 800 * k + 800 < 1000000 := by omega
  have hm := Rel_M hR
  have hJ := Rel_J hR
  have hKc := hK.sub (tys' := tyZI cZ cI) [0, 1] rfl
  have hKm := hK.sub (tys' := tyZI cZ2 cI2) [3, 4] rfl
  have hPc := subP hP
  have hDc := subD hD
  have hAc : ∀ q : Nat, q ∈ adP a → lwA s q := adA hDc rfl
  refine lv_aload_n hx hb dL_law_803 rfl (lv_at hl 2 rfl) ?_
  refine va_calli (va_runV (As := []) (rest := []) ⟨hx, hb, hml, hown, hts⟩ (k_X10_losses l D a cZ cI C H.size) (cwV 0 hts gL_law_X10_losses rfl rfl rfl (by decide +kernel) ⟨Nat.le_of_ble_eq_true rfl, Nat.le_of_ble_eq_true rfl⟩) ⟨blW okN_P, va_recv hKc hPc (ci := 10) (q0 := 0) rfl rfl, preW hPc hKc hDc okN_P hNY.1⟩ rfl rfl hl.1 rfl (lv_room (Nat.le_of_ble_eq_true rfl)) dL_law_804 ⟨by show 17 + k + 0 ≤ 1052; omega, by show 663 + 6 * k + 0 ≤ 8921; omega⟩) hS (aA_in hAc) (aA_free hAc hA hS) (fun r1 u1 t1 H1 L1 ht1 hvm1 hw1 hB1 hz1 hk1 hS1 => ?_)
  obtain ⟨hP1, -, -⟩ := hB1
  rw [ht1] at hP1
  obtain ⟨hu1, hr1⟩ := hw1
  subst u1
  obtain ⟨hP2, hD2⟩ := joinW (as := adP a) hP hD rfl rfl hk1 hP1
  replace hP2 : va_P D vwCl ([] ++ (wM a2 cZ2 cI2 M ++ (wP a cZ cI C ++ wO o cJ fo))) H1 := hP2
  replace hD2 : va_D (lwA s) ([] ++ (wM a2 cZ2 cI2 M ++ (wP a cZ cI C ++ wO o cJ fo))) := hD2
  refine lv_aload_n hx hb dL_law_807 rfl (lv_at hl 3 rfl) ?_
  have hPm := subP hP2
  have hDm := subD hD2
  have hAm : ∀ q : Nat, q ∈ adM a2 → lwA s q := adA hDm rfl
  refine va_calli (va_runV (As := []) (rest := [.int r1]) ⟨hx, hb, hml, hown, hts⟩ (k_X11_losses l D a2 cZ2 cI2 M H1.size) (cwV 0 hts gL_law_X11_losses rfl rfl rfl (by decide +kernel) ⟨Nat.le_of_ble_eq_true rfl, Nat.le_of_ble_eq_true rfl⟩) ⟨blW okN_T, va_recv hKm hPm (ci := 11) (q0 := 0) rfl rfl, preW hPm hKm hDm okN_T trivial⟩ rfl rfl hl.1 rfl (lv_room (Nat.le_of_ble_eq_true rfl)) dL_law_808 ⟨by show 17 + k + 0 + 0 ≤ 1052; omega, by show 663 + 6 * k + 0 + 0 ≤ 8921; omega⟩) hS1 (aA_in hAm) (aA_free hAm hA hS1) (fun r2 u2 t2 H2 L2 ht2 hvm2 hw2 hB2 hz2 hk2 hS2 => ?_)
  obtain ⟨hP3, -, -⟩ := hB2
  rw [ht2] at hP3
  obtain ⟨hu2, hr2⟩ := hw2
  obtain ⟨hP4, hD4⟩ := joinW (as := adM a2) hP2 hD2 rfl rfl hk2 hP3
  replace hP4 : va_P D vwCl (wM a2 cZ2 cI2 u2 ++ (wP a cZ cI C ++ wO o cJ fo)) H2 := hP4
  replace hD4 : va_D (lwA s) (wM a2 cZ2 cI2 u2 ++ (wP a cZ cI C ++ wO o cJ fo)) := hD4
  have hRel : Rel (800 * k) C u2 := by rw [hu2]; exact Rel_thr (v := 0) hR
  have hEq : r1 = r2 := by rw [hr1, hr2]; exact q_get (k := 36) hR rfl (by decide)
  refine lv_icmp_eq (tgt := 885) hx hb dL_law_811 (by decide) (fun c1 => ?_) (fun c1 => absurd hEq c1)
  refine W.widen (k := 17 + (k + 1)) (n := 663 + 6 * (k + 1)) (by omega) (by omega) ?_
  exact kont C u2 fo H2 L2 ls (Rel_up hRel (by omega)) ⟨hP4, hD4, hS2⟩ hl

set_option maxHeartbeats 4000000 in
set_option maxRecDepth 100000 in
theorem cs_bestPhase {p : Program} {l : Launch} {e : Env} {s : State} {m : MethodId} {below : List Frame} {meth : Method} {c : Code} {D : va_G} {b L : Nat} {xs : Nat → Int32} {a a2 : Nat → Nat} {cZ cI cJ cZ2 cI2 : ClassId} {o k : Nat} {C M : St} {fo : Nat → Int64} {H : Heap} {locs : List Loc} {ls : Array Slot} (F : lwF p l s m meth c D b L xs cZ cI cJ cZ2 cI2) (hk : 3 * k + 2 < L) (hR : Rel (800 * k) C M) (hV : lwV s D a a2 cZ cI cJ cZ2 cI2 o C M fo H locs) (hl : lv_has ls 7 [(4, .int (nI (3 * k))), (0, .ref b), (1, .ref (a 0)), (2, .ref (a2 0)), (3, .ref o)]) (kont : lwN p l e s m below meth c D b a a2 cZ cI cJ cZ2 cI2 o k) : W p l e room_1 s m #[Value.ref b] below meth c H locs (17 + k) (663 + 6 * k) (lw_Z below #[Value.ref b] s) (F0 m 816 ls []) := by
  obtain ⟨⟨hx, hb, hr, hml, hown, hts0, hX, hbl, hlocks, hgv⟩, hL, hfl, hNY, hZ, hK⟩ := F
  have hts : ∀ w ∈ wsL_law, w.before #[Value.ref b] s = true := fun w h => hts0 w (wsL_law_in w h)
  have hA : ∀ q : Nat, s.heap.size ≤ q → lwA s q := fun _ h => h
  have hbA : ¬ lwA s b := Nat.not_le.mpr hbl
  obtain ⟨hP, hD, hS⟩ := hV
  have hin1 : vp_in (nI (3 * k + 1)) L := vp_in_nI (by omega) (by omega)
  have hin2 : vp_in (nI (3 * k + 2)) L := vp_in_nI (by omega) (by omega)
  have hn : 800 * k < 1000000 := by omega
  have hn2 : 800 * k + 800 < 1000000 := by omega
  have hm := Rel_M hR
  have hJ := Rel_J hR
  have hKc := hK.sub (tys' := tyZI cZ cI) [0, 1] rfl
  have hKm := hK.sub (tys' := tyZI cZ2 cI2) [3, 4] rfl
  have hPc := subP hP
  have hDc := subD hD
  have hAc : ∀ q : Nat, q ∈ adP a → lwA s q := adA hDc rfl
  refine lv_aload_n hx hb dL_law_816 rfl (lv_at hl 2 rfl) ?_
  refine va_calli (va_runV (As := []) (rest := []) ⟨hx, hb, hml, hown, hts⟩ (k_X10_bestPhase l D a cZ cI C H.size) (cwV 0 hts gL_law_X10_bestPhase rfl rfl rfl (by decide +kernel) ⟨Nat.le_of_ble_eq_true rfl, Nat.le_of_ble_eq_true rfl⟩) ⟨blW okN_P, va_recv hKc hPc (ci := 10) (q0 := 0) rfl rfl, preW hPc hKc hDc okN_P hNY.1⟩ rfl rfl hl.1 rfl (lv_room (Nat.le_of_ble_eq_true rfl)) dL_law_817 ⟨by show 17 + k + 0 ≤ 1052; omega, by show 663 + 6 * k + 0 ≤ 8921; omega⟩) hS (aA_in hAc) (aA_free hAc hA hS) (fun r1 u1 t1 H1 L1 ht1 hvm1 hw1 hB1 hz1 hk1 hS1 => ?_)
  obtain ⟨hP1, -, -⟩ := hB1
  rw [ht1] at hP1
  obtain ⟨hu1, hr1⟩ := hw1
  subst u1
  obtain ⟨hP2, hD2⟩ := joinW (as := adP a) hP hD rfl rfl hk1 hP1
  replace hP2 : va_P D vwCl ([] ++ (wM a2 cZ2 cI2 M ++ (wP a cZ cI C ++ wO o cJ fo))) H1 := hP2
  replace hD2 : va_D (lwA s) ([] ++ (wM a2 cZ2 cI2 M ++ (wP a cZ cI C ++ wO o cJ fo))) := hD2
  refine lv_aload_n hx hb dL_law_820 rfl (lv_at hl 3 rfl) ?_
  have hPm := subP hP2
  have hDm := subD hD2
  have hAm : ∀ q : Nat, q ∈ adM a2 → lwA s q := adA hDm rfl
  refine va_calli (va_runV (As := []) (rest := [.int r1]) ⟨hx, hb, hml, hown, hts⟩ (k_X11_bestPhase l D a2 cZ2 cI2 M H1.size (800 * k) (by omega) hm) (cwV 0 hts gL_law_X11_bestPhase rfl rfl rfl (by decide +kernel) ⟨Nat.le_of_ble_eq_true rfl, Nat.le_of_ble_eq_true rfl⟩) ⟨blW okN_T, va_recv hKm hPm (ci := 11) (q0 := 0) rfl rfl, preW hPm hKm hDm okN_T trivial⟩ rfl rfl hl.1 rfl (lv_room (Nat.le_of_ble_eq_true rfl)) dL_law_821 ⟨by show 17 + k + 0 + 0 ≤ 1052; omega, by show 663 + 6 * k + 0 + 0 ≤ 8921; omega⟩) hS1 (aA_in hAm) (aA_free hAm hA hS1) (fun r2 u2 t2 H2 L2 ht2 hvm2 hw2 hB2 hz2 hk2 hS2 => ?_)
  obtain ⟨hP3, -, -⟩ := hB2
  rw [ht2] at hP3
  obtain ⟨hu2, hr2⟩ := hw2
  obtain ⟨hP4, hD4⟩ := joinW (as := adM a2) hP2 hD2 rfl rfl hk2 hP3
  replace hP4 : va_P D vwCl (wM a2 cZ2 cI2 u2 ++ (wP a cZ cI C ++ wO o cJ fo)) H2 := hP4
  replace hD4 : va_D (lwA s) (wM a2 cZ2 cI2 u2 ++ (wP a cZ cI C ++ wO o cJ fo)) := hD4
  have hRel : Rel (800 * k) C u2 := by rw [hu2]; exact Rel_thr (v := 0) hR
  have hEq : r1 = r2 := by rw [hr1, hr2]; exact q_bestPhase (by omega) hR
  refine lv_icmp_eq (tgt := 885) hx hb dL_law_824 (by decide) (fun c1 => ?_) (fun c1 => absurd hEq c1)
  refine W.widen (k := 17 + (k + 1)) (n := 663 + 6 * (k + 1)) (by omega) (by omega) ?_
  exact kont C u2 fo H2 L2 ls (Rel_up hRel (by omega)) ⟨hP4, hD4, hS2⟩ hl

