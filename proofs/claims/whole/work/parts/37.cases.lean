set_option maxHeartbeats 4000000 in
set_option maxRecDepth 100000 in
theorem cs_setOffset {p : Program} {l : Launch} {e : Env} {s : State} {m : MethodId} {below : List Frame} {meth : Method} {c : Code} {D : va_G} {b L : Nat} {xs : Nat → Int32} {a a2 : Nat → Nat} {cZ cI cJ cZ2 cI2 : ClassId} {o k : Nat} {C M : St} {fo : Nat → Int64} {H : Heap} {locs : List Loc} {ls : Array Slot} (F : lwF p l s m meth c D b L xs cZ cI cJ cZ2 cI2) (hk : 3 * k + 2 < L) (hR : Rel (800 * k) C M) (hV : lwV s D a a2 cZ cI cJ cZ2 cI2 o C M fo H locs) (hl : lv_has ls 7 [(4, .int (nI (3 * k))), (0, .ref b), (1, .ref (a 0)), (2, .ref (a2 0)), (3, .ref o)]) (kont : lwN p l e s m below meth c D b a a2 cZ cI cJ cZ2 cI2 o k) : W p l e room_1 s m #[Value.ref b] below meth c H locs (17 + k) (663 + 6 * k) (lw_Z below #[Value.ref b] s) (F0 m 164 ls []) := by
  obtain ⟨⟨hx, hb, hr, hml, hown, hts0, hX, hbl, hlocks, hgv⟩, hL, hfl, hNY, hZ, hK⟩ := F
  have hts : ∀ w ∈ wsL_law, w.before #[Value.ref b] s = true := fun w h => hts0 w (wsL_law_in w h)
  have hA : ∀ q : Nat, s.heap.size ≤ q → lwA s q := fun _ h => h
  have hbA : ¬ lwA s b := Nat.not_le.mpr hbl
  obtain ⟨hP, hD, hS⟩ := hV
  have hin1 : vp_in (nI (3 * k + 1)) L := vp_in_nI (by omega) (by omega)
  have hin2 : vp_in (nI (3 * k + 2)) L := vp_in_nI (by omega) (by omega)
  have hn : 800 * k < 1000000 := by omega
  have hn2 : 800 * k + 800 < 1000000 := by omega
  have hm := Rel_M hR
  have hJ := Rel_J hR
  obtain ⟨y1, hy1⟩ : ∃ y : Int32, y = xs (nI (3 * k + 1)).toNatClampNeg := ⟨_, rfl⟩
  have hPw : va_P D vwCl (wM a2 cZ2 cI2 M ++ (wPo a cZ cI o cJ C fo ++ [])) H := cvP (apN (wM a2 cZ2 cI2 M) (wPo a cZ cI o cJ C fo)).symm hP
  have hDw : va_D (lwA s) (wM a2 cZ2 cI2 M ++ (wPo a cZ cI o cJ C fo ++ [])) := cvD (apN (wM a2 cZ2 cI2 M) (wPo a cZ cI o cJ C fo)).symm hD
  have hKc := hK.sub (tys' := tyZIJ cZ cI cJ) [0, 1, 2] rfl
  have hAc : ∀ q : Nat, q ∈ adPo a o → lwA s q := adA (subD hDw) rfl
  have hPc := subP hPw
  have hDc := subD hDw
  have hKm := hK.sub (tys' := tyZI cZ2 cI2) [3, 4] rfl
  refine lv_aload_n hx hb dL_law_164 rfl (lv_at hl 2 rfl) ?_
  refine lv_aload_n hx hb dL_law_165 rfl (lv_at hl 1 rfl) ?_
  refine lv_iload hx hb dL_law_166 (lv_at hl 0 rfl) ?_
  refine lv_iconst (v := 1) hx hb dL_law_168 (by decide) ?_
  refine lv_iadd hx hb dL_law_169 ?_
  refine lv_asi (y := nI (3 * k + 1)) (nI_add (3 * k) 1) ?_
  refine va_sld hx hb hX hbl hbA hS hin1 dL_law_170 ?_
  refine lv_asi (y := y1) hy1.symm ?_
  refine lv_aload_n hx hb dL_law_171 rfl (lv_at hl 4 rfl) ?_
  refine va_calli (vx_runSW (As := [.ref (a 0), .int y1, .ref o]) (rest := []) ⟨hx, hb, hml, hown, hts⟩ (k_L_setOffset l hfl D a cZ cI o cJ C fo H.size y1) (vx_cwSW 3 hts gL_law_L_setOffset rfl rfl rfl (by decide +kernel) ⟨Nat.le_of_ble_eq_true rfl, Nat.le_of_ble_eq_true rfl⟩) ⟨blY, preY hPc hKc hDc hNY hZ hS (aA_free hAc hA hS)⟩ rfl rfl hl.1 rfl (lv_room (Nat.le_of_ble_eq_true rfl)) dL_law_172 ⟨by show 17 + k + 1 ≤ 1052; omega, by show 663 + 6 * k + 6 ≤ 8921; omega⟩) hS (aA_in hAc) (aA_free hAc hA hS) (fun r1 u1 t1 H1 L1 ht1 hvm1 hw1 hB1 hz1 hk1 hS1 => ?_)
  obtain ⟨hr1, hbad, hok⟩ := hw1
  obtain ⟨hP1, -, -⟩ := hB1
  rw [ht1] at hP1
  obtain ⟨C1, fo1⟩ := u1
  obtain ⟨hP2, hD2⟩ := joinW (as := adPo a o) hPw hDw rfl rfl hk1 hP1
  replace hP2 : va_P D vwCl ([] ++ (wM a2 cZ2 cI2 M ++ (wP a cZ cI C1 ++ wO o cJ fo1))) H1 := cvP (apN (wM a2 cZ2 cI2 M) (wPo a cZ cI o cJ C1 fo1)) hP2
  replace hD2 : va_D (lwA s) ([] ++ (wM a2 cZ2 cI2 M ++ (wP a cZ cI C1 ++ wO o cJ fo1))) := cvD (apN (wM a2 cZ2 cI2 M) (wPo a cZ cI o cJ C1 fo1)) hD2
  clear hPw hDw hPc hDc hP hD hk1 hP1 hz1 ht1
  refine lv_istore (lv' := [(5, .int r1), (4, .int (nI (3 * k))), (0, .ref b), (1, .ref (a 0)), (2, .ref (a2 0)), (3, .ref o)]) hx hb dL_law_175 hl (by decide) rfl (fun ls1 hl1 => ?_)
  refine lv_aload_n hx hb dL_law_177 rfl (lv_at hl1 4 rfl) ?_
  refine lv_aload_n hx hb dL_law_178 rfl (lv_at hl1 2 rfl) ?_
  refine lv_iload hx hb dL_law_179 (lv_at hl1 1 rfl) ?_
  refine lv_iconst (v := 1) hx hb dL_law_181 (by decide) ?_
  refine lv_iadd hx hb dL_law_182 ?_
  refine lv_asi (y := nI (3 * k + 1)) (nI_add (3 * k) 1) ?_
  refine va_sld hx hb hX hbl hbA hS1 hin1 dL_law_183 ?_
  refine lv_asi (y := y1) hy1.symm ?_
  have hPm := subP hP2
  have hDm := subD hD2
  have hAm : ∀ q : Nat, q ∈ adM a2 → lwA s q := adA hDm rfl
  refine va_calli (va_runV (As := [.int y1]) (rest := []) ⟨hx, hb, hml, hown, hts⟩ (k_X11_setOffset l D a2 cZ2 cI2 M H1.size y1) (cwV 1 hts gL_law_X11_setOffset rfl rfl rfl (by decide +kernel) ⟨Nat.le_of_ble_eq_true rfl, Nat.le_of_ble_eq_true rfl⟩) ⟨blW okN_T, va_recv hKm hPm (ci := 11) (q0 := 0) rfl rfl, preW hPm hKm hDm okN_T trivial⟩ rfl rfl hl1.1 rfl (lv_room (Nat.le_of_ble_eq_true rfl)) dL_law_184 ⟨by show 17 + k + 1 + 0 ≤ 1052; omega, by show 663 + 6 * k + 6 + 0 ≤ 8921; omega⟩) hS1 (aA_in hAm) (aA_free hAm hA hS1) (fun r2 u2 t2 H2 L2 ht2 hvm2 hw2 hB2 hz2 hk2 hS2 => ?_)
  obtain ⟨hP3, -, -⟩ := hB2
  rw [ht2] at hP3
  obtain ⟨hP4, hD4⟩ := joinW (as := adM a2) hP2 hD2 rfl rfl hk2 hP3
  obtain ⟨hu2, hr2⟩ := hw2
  clear hP2 hD2 hPm hDm hP3 hk2 hz2 ht2
  refine lv_istore (lv' := [(6, .int r2), (5, .int r1), (4, .int (nI (3 * k))), (0, .ref b), (1, .ref (a 0)), (2, .ref (a2 0)), (3, .ref o)]) hx hb dL_law_187 hl1 (by decide) rfl (fun ls2 hl2 => ?_)
  have hans := Ans_fin (u := C1) (w := fo1 0) (q_setOffset hR y1) hbad hok
  rw [← hu2] at hans
  obtain ⟨hth, hRel, hval⟩ := hans
  refine lv_aload_n hx hb dL_law_189 rfl (lv_at hl2 5 rfl) ?_
  have hPm := subP hP4
  have hDm := subD hD4
  refine va_calli (va_runV (As := []) (rest := []) ⟨hx, hb, hml, hown, hts⟩ (k_X11_thrown l D a2 cZ2 cI2 u2 H2.size) (cwV 0 hts gL_law_X11_thrown rfl rfl rfl (by decide +kernel) ⟨Nat.le_of_ble_eq_true rfl, Nat.le_of_ble_eq_true rfl⟩) ⟨blW okN_T, va_recv hKm hPm (ci := 11) (q0 := 0) rfl rfl, preW hPm hKm hDm okN_T trivial⟩ rfl rfl hl2.1 rfl (lv_room (Nat.le_of_ble_eq_true rfl)) dL_law_190 ⟨by show 17 + k + 1 + 0 + 0 ≤ 1052; omega, by show 663 + 6 * k + 6 + 0 + 0 ≤ 8921; omega⟩) hS2 (aA_in hAm) (aA_free hAm hA hS2) (fun r3 u3 t3 H3 L3 ht3 hvm3 hw3 hB3 hz3 hk3 hS3 => ?_)
  obtain ⟨hP5, -, -⟩ := hB3
  rw [ht3] at hP5
  obtain ⟨hP6, hD6⟩ := joinW (as := adM a2) hP4 hD4 rfl rfl hk3 hP5
  obtain ⟨hu3, hr3⟩ := hw3
  subst u3
  replace hP6 : va_P D vwCl (wM a2 cZ2 cI2 u2 ++ (wP a cZ cI C1 ++ wO o cJ fo1)) H3 := hP6
  replace hD6 : va_D (lwA s) (wM a2 cZ2 cI2 u2 ++ (wP a cZ cI C1 ++ wO o cJ fo1)) := hD6
  refine lv_iload hx hb dL_law_193 (lv_at hl2 1 rfl) ?_
  refine lv_icmp_eq (tgt := 200) hx hb dL_law_195 (by decide) (fun c1 => ?_) (fun c1 => absurd (by rw [hr3, hr1]; exact hth) c1)
  have fin : W p l e room_1 s m #[Value.ref b] below meth c H3 L3 (17 + k + 1 + 0 + 0) (663 + 6 * k + 6 + 0 + 0) (lw_Z below #[Value.ref b] s) (F0 m 217 ls2 []) := by
    refine lv_goto (tgt := 885) hx hb dL_law_217 (by decide) ?_
    refine W.widen (k := 17 + (k + 1)) (n := 663 + 6 * (k + 1)) (by omega) (by omega) ?_
    exact kont C1 u2 fo1 H3 L3 ls2 (Rel_up hRel (by omega)) ⟨hP6, hD6, hS3⟩ (lv_sub (l' := [(4, .int (nI (3 * k))), (0, .ref b), (1, .ref (a 0)), (2, .ref (a2 0)), (3, .ref o)]) hl2 [2, 3, 4, 5, 6] rfl)
  refine lv_iload hx hb dL_law_200 (lv_at hl2 1 rfl) ?_
  refine lv_if_ne (tgt := 217) hx hb dL_law_202 (by decide) (fun c2 => fin) (fun c2 => ?_)
  have hx0 : fo1 0 = Int32.toInt64 r2 := by rw [hr2]; exact hval (hr1.symm.trans c2)
  refine lv_aload_n hx hb dL_law_205 rfl (lv_at hl2 6 rfl) ?_
  refine lv_iconst (v := 0) hx hb dL_law_206 (by decide) ?_
  refine va_lald (D := D) hx hb hK hP6 16 2 rfl rfl (vp_in_nI (n := 0) (by decide) (by decide)) dL_law_207 ?_
  refine lv_asl (y := fo1 0) rfl ?_
  refine lv_iload hx hb dL_law_208 (lv_at hl2 0 rfl) ?_
  refine lv_i2l (v := Int32.toInt64 r2) hx hb dL_law_210 rfl ?_
  refine W.lcmp hx hb dL_law_211 ?_
  refine lv_if_eq (tgt := 217) hx hb dL_law_212 (by decide) (fun c3 => fin) (fun c3 => absurd (lg_same hx0) c3)

set_option maxHeartbeats 4000000 in
set_option maxRecDepth 100000 in
theorem cs_setJitter {p : Program} {l : Launch} {e : Env} {s : State} {m : MethodId} {below : List Frame} {meth : Method} {c : Code} {D : va_G} {b L : Nat} {xs : Nat → Int32} {a a2 : Nat → Nat} {cZ cI cJ cZ2 cI2 : ClassId} {o k : Nat} {C M : St} {fo : Nat → Int64} {H : Heap} {locs : List Loc} {ls : Array Slot} (F : lwF p l s m meth c D b L xs cZ cI cJ cZ2 cI2) (hk : 3 * k + 2 < L) (hR : Rel (800 * k) C M) (hV : lwV s D a a2 cZ cI cJ cZ2 cI2 o C M fo H locs) (hl : lv_has ls 7 [(4, .int (nI (3 * k))), (0, .ref b), (1, .ref (a 0)), (2, .ref (a2 0)), (3, .ref o)]) (kont : lwN p l e s m below meth c D b a a2 cZ cI cJ cZ2 cI2 o k) : W p l e room_1 s m #[Value.ref b] below meth c H locs (17 + k) (663 + 6 * k) (lw_Z below #[Value.ref b] s) (F0 m 220 ls []) := by
  obtain ⟨⟨hx, hb, hr, hml, hown, hts0, hX, hbl, hlocks, hgv⟩, hL, hfl, hNY, hZ, hK⟩ := F
  have hts : ∀ w ∈ wsL_law, w.before #[Value.ref b] s = true := fun w h => hts0 w (wsL_law_in w h)
  have hA : ∀ q : Nat, s.heap.size ≤ q → lwA s q := fun _ h => h
  have hbA : ¬ lwA s b := Nat.not_le.mpr hbl
  obtain ⟨hP, hD, hS⟩ := hV
  have hin1 : vp_in (nI (3 * k + 1)) L := vp_in_nI (by omega) (by omega)
  have hin2 : vp_in (nI (3 * k + 2)) L := vp_in_nI (by omega) (by omega)
  have hn : 800 * k < 1000000 := by omega
  have hn2 : 800 * k + 800 < 1000000 := by omega
  have hm := Rel_M hR
  have hJ := Rel_J hR
  obtain ⟨y1, hy1⟩ : ∃ y : Int32, y = xs (nI (3 * k + 1)).toNatClampNeg := ⟨_, rfl⟩
  obtain ⟨y2, hy2⟩ : ∃ y : Int32, y = xs (nI (3 * k + 2)).toNatClampNeg := ⟨_, rfl⟩
  have hPw : va_P D vwCl (wM a2 cZ2 cI2 M ++ (wP a cZ cI C ++ wO o cJ fo)) H := hP
  have hDw : va_D (lwA s) (wM a2 cZ2 cI2 M ++ (wP a cZ cI C ++ wO o cJ fo)) := hD
  have hKc := hK.sub (tys' := tyZI cZ cI) [0, 1] rfl
  have hAc : ∀ q : Nat, q ∈ adP a → lwA s q := adA (subD hDw) rfl
  have hPc := subP hPw
  have hDc := subD hDw
  have hKm := hK.sub (tys' := tyZI cZ2 cI2) [3, 4] rfl
  refine lv_aload_n hx hb dL_law_220 rfl (lv_at hl 2 rfl) ?_
  refine lv_aload_n hx hb dL_law_221 rfl (lv_at hl 1 rfl) ?_
  refine lv_iload hx hb dL_law_222 (lv_at hl 0 rfl) ?_
  refine lv_iconst (v := 1) hx hb dL_law_224 (by decide) ?_
  refine lv_iadd hx hb dL_law_225 ?_
  refine lv_asi (y := nI (3 * k + 1)) (nI_add (3 * k) 1) ?_
  refine va_sld hx hb hX hbl hbA hS hin1 dL_law_226 ?_
  refine lv_asi (y := y1) hy1.symm ?_
  refine lv_aload_n hx hb dL_law_227 rfl (lv_at hl 1 rfl) ?_
  refine lv_iload hx hb dL_law_228 (lv_at hl 0 rfl) ?_
  refine lv_iconst (v := 2) hx hb dL_law_230 (by decide) ?_
  refine lv_iadd hx hb dL_law_231 ?_
  refine lv_asi (y := nI (3 * k + 2)) (nI_add (3 * k) 2) ?_
  refine va_sld hx hb hX hbl hbA hS hin2 dL_law_232 ?_
  refine lv_asi (y := y2) hy2.symm ?_
  refine va_calli (vx_runSW (As := [.ref (a 0), .int y1, .int y2]) (rest := []) ⟨hx, hb, hml, hown, hts⟩ (k_L_setJitter l hfl D a cZ cI C H.size y1 y2) (vx_cwSW 3 hts gL_law_L_setJitter rfl rfl rfl (by decide +kernel) ⟨Nat.le_of_ble_eq_true rfl, Nat.le_of_ble_eq_true rfl⟩) ⟨blY, preY hPc hKc hDc hNY hZ hS (aA_free hAc hA hS)⟩ rfl rfl hl.1 rfl (lv_room (Nat.le_of_ble_eq_true rfl)) dL_law_233 ⟨by show 17 + k + 1 ≤ 1052; omega, by show 663 + 6 * k + 6 ≤ 8921; omega⟩) hS (aA_in hAc) (aA_free hAc hA hS) (fun r1 u1 t1 H1 L1 ht1 hvm1 hw1 hB1 hz1 hk1 hS1 => ?_)
  obtain ⟨hr1, hbad, hok⟩ := hw1
  obtain ⟨hP1, -, -⟩ := hB1
  rw [ht1] at hP1
  obtain ⟨C1, hC1⟩ : ∃ z : St, z = u1 := ⟨_, rfl⟩
  subst hC1
  obtain ⟨fo1, hfo1⟩ : ∃ z : Nat → Int64, z = fo := ⟨_, rfl⟩
  obtain ⟨hP2, hD2⟩ := joinW (as := adP a) hPw hDw rfl rfl hk1 hP1
  rw [← hfo1] at hP2 hD2
  replace hP2 : va_P D vwCl ([] ++ (wM a2 cZ2 cI2 M ++ (wP a cZ cI C1 ++ wO o cJ fo1))) H1 := hP2
  replace hD2 : va_D (lwA s) ([] ++ (wM a2 cZ2 cI2 M ++ (wP a cZ cI C1 ++ wO o cJ fo1))) := hD2
  clear hPw hDw hPc hDc hP hD hk1 hP1 hz1 ht1
  refine lv_istore (lv' := [(5, .int r1), (4, .int (nI (3 * k))), (0, .ref b), (1, .ref (a 0)), (2, .ref (a2 0)), (3, .ref o)]) hx hb dL_law_236 hl (by decide) rfl (fun ls1 hl1 => ?_)
  refine lv_aload_n hx hb dL_law_238 rfl (lv_at hl1 4 rfl) ?_
  refine lv_aload_n hx hb dL_law_239 rfl (lv_at hl1 2 rfl) ?_
  refine lv_iload hx hb dL_law_240 (lv_at hl1 1 rfl) ?_
  refine lv_iconst (v := 1) hx hb dL_law_242 (by decide) ?_
  refine lv_iadd hx hb dL_law_243 ?_
  refine lv_asi (y := nI (3 * k + 1)) (nI_add (3 * k) 1) ?_
  refine va_sld hx hb hX hbl hbA hS1 hin1 dL_law_244 ?_
  refine lv_asi (y := y1) hy1.symm ?_
  refine lv_aload_n hx hb dL_law_245 rfl (lv_at hl1 2 rfl) ?_
  refine lv_iload hx hb dL_law_246 (lv_at hl1 1 rfl) ?_
  refine lv_iconst (v := 2) hx hb dL_law_248 (by decide) ?_
  refine lv_iadd hx hb dL_law_249 ?_
  refine lv_asi (y := nI (3 * k + 2)) (nI_add (3 * k) 2) ?_
  refine va_sld hx hb hX hbl hbA hS1 hin2 dL_law_250 ?_
  refine lv_asi (y := y2) hy2.symm ?_
  have hPm := subP hP2
  have hDm := subD hD2
  have hAm : ∀ q : Nat, q ∈ adM a2 → lwA s q := adA hDm rfl
  refine va_callv (va_runV (As := [.int y1, .int y2]) (rest := []) ⟨hx, hb, hml, hown, hts⟩ (k_X11_setJitter l D a2 cZ2 cI2 M H1.size y1 y2) (cwV 2 hts gL_law_X11_setJitter rfl rfl rfl (by decide +kernel) ⟨Nat.le_of_ble_eq_true rfl, Nat.le_of_ble_eq_true rfl⟩) ⟨blW okN_T, va_recv hKm hPm (ci := 11) (q0 := 0) rfl rfl, preW hPm hKm hDm okN_T trivial⟩ rfl rfl hl1.1 rfl (lv_room (Nat.le_of_ble_eq_true rfl)) dL_law_251 ⟨by show 17 + k + 1 + 0 ≤ 1052; omega, by show 663 + 6 * k + 6 + 0 ≤ 8921; omega⟩) hS1 (aA_in hAm) (aA_free hAm hA hS1) (fun u2 t2 H2 L2 ht2 hvm2 hw2 hB2 hz2 hk2 hS2 => ?_)
  obtain ⟨hP3, -, -⟩ := hB2
  rw [ht2] at hP3
  obtain ⟨hP4, hD4⟩ := joinW (as := adM a2) hP2 hD2 rfl rfl hk2 hP3
  have hu2 : u2 = _ := hw2
  clear hP2 hD2 hPm hDm hP3 hk2 hz2 ht2
  have hl2 := hl1
  have ls2 := ls1
  have hans := Ans_fin (u := C1) (w := Int32.toInt64 0) (q_setJitter hR y1 y2) hbad (fun z => ⟨hok z, rfl⟩)
  rw [← hu2] at hans
  obtain ⟨hth, hRel, hval⟩ := hans
  refine lv_aload_n hx hb dL_law_254 rfl (lv_at hl1 4 rfl) ?_
  have hPm := subP hP4
  have hDm := subD hD4
  refine va_calli (va_runV (As := []) (rest := []) ⟨hx, hb, hml, hown, hts⟩ (k_X11_thrown l D a2 cZ2 cI2 u2 H2.size) (cwV 0 hts gL_law_X11_thrown rfl rfl rfl (by decide +kernel) ⟨Nat.le_of_ble_eq_true rfl, Nat.le_of_ble_eq_true rfl⟩) ⟨blW okN_T, va_recv hKm hPm (ci := 11) (q0 := 0) rfl rfl, preW hPm hKm hDm okN_T trivial⟩ rfl rfl hl1.1 rfl (lv_room (Nat.le_of_ble_eq_true rfl)) dL_law_255 ⟨by show 17 + k + 1 + 0 + 0 ≤ 1052; omega, by show 663 + 6 * k + 6 + 0 + 0 ≤ 8921; omega⟩) hS2 (aA_in hAm) (aA_free hAm hA hS2) (fun r3 u3 t3 H3 L3 ht3 hvm3 hw3 hB3 hz3 hk3 hS3 => ?_)
  obtain ⟨hP5, -, -⟩ := hB3
  rw [ht3] at hP5
  obtain ⟨hP6, hD6⟩ := joinW (as := adM a2) hP4 hD4 rfl rfl hk3 hP5
  obtain ⟨hu3, hr3⟩ := hw3
  subst u3
  replace hP6 : va_P D vwCl (wM a2 cZ2 cI2 u2 ++ (wP a cZ cI C1 ++ wO o cJ fo1)) H3 := hP6
  replace hD6 : va_D (lwA s) (wM a2 cZ2 cI2 u2 ++ (wP a cZ cI C1 ++ wO o cJ fo1)) := hD6
  refine lv_iload hx hb dL_law_258 (lv_at hl1 0 rfl) ?_
  refine lv_icmp_eq (tgt := 265) hx hb dL_law_260 (by decide) (fun c1 => ?_) (fun c1 => absurd (by rw [hr3, hr1]; exact hth) c1)
  refine lv_goto (tgt := 885) hx hb dL_law_265 (by decide) ?_
  refine W.widen (k := 17 + (k + 1)) (n := 663 + 6 * (k + 1)) (by omega) (by omega) ?_
  exact kont C1 u2 fo1 H3 L3 ls1 (Rel_up hRel (by omega)) ⟨hP6, hD6, hS3⟩ (lv_sub (l' := [(4, .int (nI (3 * k))), (0, .ref b), (1, .ref (a 0)), (2, .ref (a2 0)), (3, .ref o)]) hl1 [1, 2, 3, 4, 5] rfl)

set_option maxHeartbeats 4000000 in
set_option maxRecDepth 100000 in
theorem cs_setDetector {p : Program} {l : Launch} {e : Env} {s : State} {m : MethodId} {below : List Frame} {meth : Method} {c : Code} {D : va_G} {b L : Nat} {xs : Nat → Int32} {a a2 : Nat → Nat} {cZ cI cJ cZ2 cI2 : ClassId} {o k : Nat} {C M : St} {fo : Nat → Int64} {H : Heap} {locs : List Loc} {ls : Array Slot} (F : lwF p l s m meth c D b L xs cZ cI cJ cZ2 cI2) (hk : 3 * k + 2 < L) (hR : Rel (800 * k) C M) (hV : lwV s D a a2 cZ cI cJ cZ2 cI2 o C M fo H locs) (hl : lv_has ls 7 [(4, .int (nI (3 * k))), (0, .ref b), (1, .ref (a 0)), (2, .ref (a2 0)), (3, .ref o)]) (kont : lwN p l e s m below meth c D b a a2 cZ cI cJ cZ2 cI2 o k) : W p l e room_1 s m #[Value.ref b] below meth c H locs (17 + k) (663 + 6 * k) (lw_Z below #[Value.ref b] s) (F0 m 268 ls []) := by
  obtain ⟨⟨hx, hb, hr, hml, hown, hts0, hX, hbl, hlocks, hgv⟩, hL, hfl, hNY, hZ, hK⟩ := F
  have hts : ∀ w ∈ wsL_law, w.before #[Value.ref b] s = true := fun w h => hts0 w (wsL_law_in w h)
  have hA : ∀ q : Nat, s.heap.size ≤ q → lwA s q := fun _ h => h
  have hbA : ¬ lwA s b := Nat.not_le.mpr hbl
  obtain ⟨hP, hD, hS⟩ := hV
  have hin1 : vp_in (nI (3 * k + 1)) L := vp_in_nI (by omega) (by omega)
  have hin2 : vp_in (nI (3 * k + 2)) L := vp_in_nI (by omega) (by omega)
  have hn : 800 * k < 1000000 := by omega
  have hn2 : 800 * k + 800 < 1000000 := by omega
  have hm := Rel_M hR
  have hJ := Rel_J hR
  obtain ⟨y1, hy1⟩ : ∃ y : Int32, y = xs (nI (3 * k + 1)).toNatClampNeg := ⟨_, rfl⟩
  have hPw : va_P D vwCl (wM a2 cZ2 cI2 M ++ (wPo a cZ cI o cJ C fo ++ [])) H := cvP (apN (wM a2 cZ2 cI2 M) (wPo a cZ cI o cJ C fo)).symm hP
  have hDw : va_D (lwA s) (wM a2 cZ2 cI2 M ++ (wPo a cZ cI o cJ C fo ++ [])) := cvD (apN (wM a2 cZ2 cI2 M) (wPo a cZ cI o cJ C fo)).symm hD
  have hKc := hK.sub (tys' := tyZIJ cZ cI cJ) [0, 1, 2] rfl
  have hAc : ∀ q : Nat, q ∈ adPo a o → lwA s q := adA (subD hDw) rfl
  have hPc := subP hPw
  have hDc := subD hDw
  have hKm := hK.sub (tys' := tyZI cZ2 cI2) [3, 4] rfl
  refine lv_aload_n hx hb dL_law_268 rfl (lv_at hl 2 rfl) ?_
  refine lv_aload_n hx hb dL_law_269 rfl (lv_at hl 1 rfl) ?_
  refine lv_iload hx hb dL_law_270 (lv_at hl 0 rfl) ?_
  refine lv_iconst (v := 1) hx hb dL_law_272 (by decide) ?_
  refine lv_iadd hx hb dL_law_273 ?_
  refine lv_asi (y := nI (3 * k + 1)) (nI_add (3 * k) 1) ?_
  refine va_sld hx hb hX hbl hbA hS hin1 dL_law_274 ?_
  refine lv_asi (y := y1) hy1.symm ?_
  refine lv_aload_n hx hb dL_law_275 rfl (lv_at hl 4 rfl) ?_
  refine va_calli (vx_runSW (As := [.ref (a 0), .int y1, .ref o]) (rest := []) ⟨hx, hb, hml, hown, hts⟩ (k_L_setDetector l hfl D a cZ cI o cJ C fo H.size y1) (vx_cwSW 3 hts gL_law_L_setDetector rfl rfl rfl (by decide +kernel) ⟨Nat.le_of_ble_eq_true rfl, Nat.le_of_ble_eq_true rfl⟩) ⟨blY, preY hPc hKc hDc hNY hZ hS (aA_free hAc hA hS)⟩ rfl rfl hl.1 rfl (lv_room (Nat.le_of_ble_eq_true rfl)) dL_law_276 ⟨by show 17 + k + 1 ≤ 1052; omega, by show 663 + 6 * k + 6 ≤ 8921; omega⟩) hS (aA_in hAc) (aA_free hAc hA hS) (fun r1 u1 t1 H1 L1 ht1 hvm1 hw1 hB1 hz1 hk1 hS1 => ?_)
  obtain ⟨hr1, hbad, hok⟩ := hw1
  obtain ⟨hP1, -, -⟩ := hB1
  rw [ht1] at hP1
  obtain ⟨C1, fo1⟩ := u1
  obtain ⟨hP2, hD2⟩ := joinW (as := adPo a o) hPw hDw rfl rfl hk1 hP1
  replace hP2 : va_P D vwCl ([] ++ (wM a2 cZ2 cI2 M ++ (wP a cZ cI C1 ++ wO o cJ fo1))) H1 := cvP (apN (wM a2 cZ2 cI2 M) (wPo a cZ cI o cJ C1 fo1)) hP2
  replace hD2 : va_D (lwA s) ([] ++ (wM a2 cZ2 cI2 M ++ (wP a cZ cI C1 ++ wO o cJ fo1))) := cvD (apN (wM a2 cZ2 cI2 M) (wPo a cZ cI o cJ C1 fo1)) hD2
  clear hPw hDw hPc hDc hP hD hk1 hP1 hz1 ht1
  refine lv_istore (lv' := [(5, .int r1), (4, .int (nI (3 * k))), (0, .ref b), (1, .ref (a 0)), (2, .ref (a2 0)), (3, .ref o)]) hx hb dL_law_279 hl (by decide) rfl (fun ls1 hl1 => ?_)
  refine lv_aload_n hx hb dL_law_281 rfl (lv_at hl1 4 rfl) ?_
  refine lv_aload_n hx hb dL_law_282 rfl (lv_at hl1 2 rfl) ?_
  refine lv_iload hx hb dL_law_283 (lv_at hl1 1 rfl) ?_
  refine lv_iconst (v := 1) hx hb dL_law_285 (by decide) ?_
  refine lv_iadd hx hb dL_law_286 ?_
  refine lv_asi (y := nI (3 * k + 1)) (nI_add (3 * k) 1) ?_
  refine va_sld hx hb hX hbl hbA hS1 hin1 dL_law_287 ?_
  refine lv_asi (y := y1) hy1.symm ?_
  have hPm := subP hP2
  have hDm := subD hD2
  have hAm : ∀ q : Nat, q ∈ adM a2 → lwA s q := adA hDm rfl
  refine va_calli (va_runV (As := [.int y1]) (rest := []) ⟨hx, hb, hml, hown, hts⟩ (k_X11_setDetector l D a2 cZ2 cI2 M H1.size y1) (cwV 1 hts gL_law_X11_setDetector rfl rfl rfl (by decide +kernel) ⟨Nat.le_of_ble_eq_true rfl, Nat.le_of_ble_eq_true rfl⟩) ⟨blW okN_T, va_recv hKm hPm (ci := 11) (q0 := 0) rfl rfl, preW hPm hKm hDm okN_T trivial⟩ rfl rfl hl1.1 rfl (lv_room (Nat.le_of_ble_eq_true rfl)) dL_law_288 ⟨by show 17 + k + 1 + 0 ≤ 1052; omega, by show 663 + 6 * k + 6 + 0 ≤ 8921; omega⟩) hS1 (aA_in hAm) (aA_free hAm hA hS1) (fun r2 u2 t2 H2 L2 ht2 hvm2 hw2 hB2 hz2 hk2 hS2 => ?_)
  obtain ⟨hP3, -, -⟩ := hB2
  rw [ht2] at hP3
  obtain ⟨hP4, hD4⟩ := joinW (as := adM a2) hP2 hD2 rfl rfl hk2 hP3
  obtain ⟨hu2, hr2⟩ := hw2
  clear hP2 hD2 hPm hDm hP3 hk2 hz2 ht2
  refine lv_istore (lv' := [(6, .int r2), (5, .int r1), (4, .int (nI (3 * k))), (0, .ref b), (1, .ref (a 0)), (2, .ref (a2 0)), (3, .ref o)]) hx hb dL_law_291 hl1 (by decide) rfl (fun ls2 hl2 => ?_)
  have hans := Ans_fin (u := C1) (w := fo1 0) (q_setDetector hR y1) hbad hok
  rw [← hu2] at hans
  obtain ⟨hth, hRel, hval⟩ := hans
  refine lv_aload_n hx hb dL_law_293 rfl (lv_at hl2 5 rfl) ?_
  have hPm := subP hP4
  have hDm := subD hD4
  refine va_calli (va_runV (As := []) (rest := []) ⟨hx, hb, hml, hown, hts⟩ (k_X11_thrown l D a2 cZ2 cI2 u2 H2.size) (cwV 0 hts gL_law_X11_thrown rfl rfl rfl (by decide +kernel) ⟨Nat.le_of_ble_eq_true rfl, Nat.le_of_ble_eq_true rfl⟩) ⟨blW okN_T, va_recv hKm hPm (ci := 11) (q0 := 0) rfl rfl, preW hPm hKm hDm okN_T trivial⟩ rfl rfl hl2.1 rfl (lv_room (Nat.le_of_ble_eq_true rfl)) dL_law_294 ⟨by show 17 + k + 1 + 0 + 0 ≤ 1052; omega, by show 663 + 6 * k + 6 + 0 + 0 ≤ 8921; omega⟩) hS2 (aA_in hAm) (aA_free hAm hA hS2) (fun r3 u3 t3 H3 L3 ht3 hvm3 hw3 hB3 hz3 hk3 hS3 => ?_)
  obtain ⟨hP5, -, -⟩ := hB3
  rw [ht3] at hP5
  obtain ⟨hP6, hD6⟩ := joinW (as := adM a2) hP4 hD4 rfl rfl hk3 hP5
  obtain ⟨hu3, hr3⟩ := hw3
  subst u3
  replace hP6 : va_P D vwCl (wM a2 cZ2 cI2 u2 ++ (wP a cZ cI C1 ++ wO o cJ fo1)) H3 := hP6
  replace hD6 : va_D (lwA s) (wM a2 cZ2 cI2 u2 ++ (wP a cZ cI C1 ++ wO o cJ fo1)) := hD6
  refine lv_iload hx hb dL_law_297 (lv_at hl2 1 rfl) ?_
  refine lv_icmp_eq (tgt := 304) hx hb dL_law_299 (by decide) (fun c1 => ?_) (fun c1 => absurd (by rw [hr3, hr1]; exact hth) c1)
  have fin : W p l e room_1 s m #[Value.ref b] below meth c H3 L3 (17 + k + 1 + 0 + 0) (663 + 6 * k + 6 + 0 + 0) (lw_Z below #[Value.ref b] s) (F0 m 321 ls2 []) := by
    refine lv_goto (tgt := 885) hx hb dL_law_321 (by decide) ?_
    refine W.widen (k := 17 + (k + 1)) (n := 663 + 6 * (k + 1)) (by omega) (by omega) ?_
    exact kont C1 u2 fo1 H3 L3 ls2 (Rel_up hRel (by omega)) ⟨hP6, hD6, hS3⟩ (lv_sub (l' := [(4, .int (nI (3 * k))), (0, .ref b), (1, .ref (a 0)), (2, .ref (a2 0)), (3, .ref o)]) hl2 [2, 3, 4, 5, 6] rfl)
  refine lv_iload hx hb dL_law_304 (lv_at hl2 1 rfl) ?_
  refine lv_if_ne (tgt := 321) hx hb dL_law_306 (by decide) (fun c2 => fin) (fun c2 => ?_)
  have hx0 : fo1 0 = Int32.toInt64 r2 := by rw [hr2]; exact hval (hr1.symm.trans c2)
  refine lv_aload_n hx hb dL_law_309 rfl (lv_at hl2 6 rfl) ?_
  refine lv_iconst (v := 0) hx hb dL_law_310 (by decide) ?_
  refine va_lald (D := D) hx hb hK hP6 16 2 rfl rfl (vp_in_nI (n := 0) (by decide) (by decide)) dL_law_311 ?_
  refine lv_asl (y := fo1 0) rfl ?_
  refine lv_iload hx hb dL_law_312 (lv_at hl2 0 rfl) ?_
  refine lv_i2l (v := Int32.toInt64 r2) hx hb dL_law_314 rfl ?_
  refine W.lcmp hx hb dL_law_315 ?_
  refine lv_if_eq (tgt := 321) hx hb dL_law_316 (by decide) (fun c3 => fin) (fun c3 => absurd (lg_same hx0) c3)

set_option maxHeartbeats 4000000 in
set_option maxRecDepth 100000 in
theorem cs_setGains {p : Program} {l : Launch} {e : Env} {s : State} {m : MethodId} {below : List Frame} {meth : Method} {c : Code} {D : va_G} {b L : Nat} {xs : Nat → Int32} {a a2 : Nat → Nat} {cZ cI cJ cZ2 cI2 : ClassId} {o k : Nat} {C M : St} {fo : Nat → Int64} {H : Heap} {locs : List Loc} {ls : Array Slot} (F : lwF p l s m meth c D b L xs cZ cI cJ cZ2 cI2) (hk : 3 * k + 2 < L) (hR : Rel (800 * k) C M) (hV : lwV s D a a2 cZ cI cJ cZ2 cI2 o C M fo H locs) (hl : lv_has ls 7 [(4, .int (nI (3 * k))), (0, .ref b), (1, .ref (a 0)), (2, .ref (a2 0)), (3, .ref o)]) (kont : lwN p l e s m below meth c D b a a2 cZ cI cJ cZ2 cI2 o k) : W p l e room_1 s m #[Value.ref b] below meth c H locs (17 + k) (663 + 6 * k) (lw_Z below #[Value.ref b] s) (F0 m 324 ls []) := by
  obtain ⟨⟨hx, hb, hr, hml, hown, hts0, hX, hbl, hlocks, hgv⟩, hL, hfl, hNY, hZ, hK⟩ := F
  have hts : ∀ w ∈ wsL_law, w.before #[Value.ref b] s = true := fun w h => hts0 w (wsL_law_in w h)
  have hA : ∀ q : Nat, s.heap.size ≤ q → lwA s q := fun _ h => h
  have hbA : ¬ lwA s b := Nat.not_le.mpr hbl
  obtain ⟨hP, hD, hS⟩ := hV
  have hin1 : vp_in (nI (3 * k + 1)) L := vp_in_nI (by omega) (by omega)
  have hin2 : vp_in (nI (3 * k + 2)) L := vp_in_nI (by omega) (by omega)
  have hn : 800 * k < 1000000 := by omega
  have hn2 : 800 * k + 800 < 1000000 := by omega
  have hm := Rel_M hR
  have hJ := Rel_J hR
  obtain ⟨y1, hy1⟩ : ∃ y : Int32, y = xs (nI (3 * k + 1)).toNatClampNeg := ⟨_, rfl⟩
  obtain ⟨y2, hy2⟩ : ∃ y : Int32, y = xs (nI (3 * k + 2)).toNatClampNeg := ⟨_, rfl⟩
  have hPw : va_P D vwCl (wM a2 cZ2 cI2 M ++ (wP a cZ cI C ++ wO o cJ fo)) H := hP
  have hDw : va_D (lwA s) (wM a2 cZ2 cI2 M ++ (wP a cZ cI C ++ wO o cJ fo)) := hD
  have hKc := hK.sub (tys' := tyZI cZ cI) [0, 1] rfl
  have hAc : ∀ q : Nat, q ∈ adP a → lwA s q := adA (subD hDw) rfl
  have hPc := subP hPw
  have hDc := subD hDw
  have hKm := hK.sub (tys' := tyZI cZ2 cI2) [3, 4] rfl
  refine lv_aload_n hx hb dL_law_324 rfl (lv_at hl 2 rfl) ?_
  refine lv_aload_n hx hb dL_law_325 rfl (lv_at hl 1 rfl) ?_
  refine lv_iload hx hb dL_law_326 (lv_at hl 0 rfl) ?_
  refine lv_iconst (v := 1) hx hb dL_law_328 (by decide) ?_
  refine lv_iadd hx hb dL_law_329 ?_
  refine lv_asi (y := nI (3 * k + 1)) (nI_add (3 * k) 1) ?_
  refine va_sld hx hb hX hbl hbA hS hin1 dL_law_330 ?_
  refine lv_asi (y := y1) hy1.symm ?_
  refine lv_aload_n hx hb dL_law_331 rfl (lv_at hl 1 rfl) ?_
  refine lv_iload hx hb dL_law_332 (lv_at hl 0 rfl) ?_
  refine lv_iconst (v := 2) hx hb dL_law_334 (by decide) ?_
  refine lv_iadd hx hb dL_law_335 ?_
  refine lv_asi (y := nI (3 * k + 2)) (nI_add (3 * k) 2) ?_
  refine va_sld hx hb hX hbl hbA hS hin2 dL_law_336 ?_
  refine lv_asi (y := y2) hy2.symm ?_
  refine va_calli (vx_runSW (As := [.ref (a 0), .int y1, .int y2]) (rest := []) ⟨hx, hb, hml, hown, hts⟩ (k_L_setGains l hfl D a cZ cI C H.size y1 y2) (vx_cwSW 3 hts gL_law_L_setGains rfl rfl rfl (by decide +kernel) ⟨Nat.le_of_ble_eq_true rfl, Nat.le_of_ble_eq_true rfl⟩) ⟨blY, preY hPc hKc hDc hNY hZ hS (aA_free hAc hA hS)⟩ rfl rfl hl.1 rfl (lv_room (Nat.le_of_ble_eq_true rfl)) dL_law_337 ⟨by show 17 + k + 1 ≤ 1052; omega, by show 663 + 6 * k + 6 ≤ 8921; omega⟩) hS (aA_in hAc) (aA_free hAc hA hS) (fun r1 u1 t1 H1 L1 ht1 hvm1 hw1 hB1 hz1 hk1 hS1 => ?_)
  obtain ⟨hr1, hbad, hok⟩ := hw1
  obtain ⟨hP1, -, -⟩ := hB1
  rw [ht1] at hP1
  obtain ⟨C1, hC1⟩ : ∃ z : St, z = u1 := ⟨_, rfl⟩
  subst hC1
  obtain ⟨fo1, hfo1⟩ : ∃ z : Nat → Int64, z = fo := ⟨_, rfl⟩
  obtain ⟨hP2, hD2⟩ := joinW (as := adP a) hPw hDw rfl rfl hk1 hP1
  rw [← hfo1] at hP2 hD2
  replace hP2 : va_P D vwCl ([] ++ (wM a2 cZ2 cI2 M ++ (wP a cZ cI C1 ++ wO o cJ fo1))) H1 := hP2
  replace hD2 : va_D (lwA s) ([] ++ (wM a2 cZ2 cI2 M ++ (wP a cZ cI C1 ++ wO o cJ fo1))) := hD2
  clear hPw hDw hPc hDc hP hD hk1 hP1 hz1 ht1
  refine lv_istore (lv' := [(5, .int r1), (4, .int (nI (3 * k))), (0, .ref b), (1, .ref (a 0)), (2, .ref (a2 0)), (3, .ref o)]) hx hb dL_law_340 hl (by decide) rfl (fun ls1 hl1 => ?_)
  refine lv_aload_n hx hb dL_law_342 rfl (lv_at hl1 4 rfl) ?_
  refine lv_aload_n hx hb dL_law_343 rfl (lv_at hl1 2 rfl) ?_
  refine lv_iload hx hb dL_law_344 (lv_at hl1 1 rfl) ?_
  refine lv_iconst (v := 1) hx hb dL_law_346 (by decide) ?_
  refine lv_iadd hx hb dL_law_347 ?_
  refine lv_asi (y := nI (3 * k + 1)) (nI_add (3 * k) 1) ?_
  refine va_sld hx hb hX hbl hbA hS1 hin1 dL_law_348 ?_
  refine lv_asi (y := y1) hy1.symm ?_
  refine lv_aload_n hx hb dL_law_349 rfl (lv_at hl1 2 rfl) ?_
  refine lv_iload hx hb dL_law_350 (lv_at hl1 1 rfl) ?_
  refine lv_iconst (v := 2) hx hb dL_law_352 (by decide) ?_
  refine lv_iadd hx hb dL_law_353 ?_
  refine lv_asi (y := nI (3 * k + 2)) (nI_add (3 * k) 2) ?_
  refine va_sld hx hb hX hbl hbA hS1 hin2 dL_law_354 ?_
  refine lv_asi (y := y2) hy2.symm ?_
  have hPm := subP hP2
  have hDm := subD hD2
  have hAm : ∀ q : Nat, q ∈ adM a2 → lwA s q := adA hDm rfl
  refine va_callv (va_runV (As := [.int y1, .int y2]) (rest := []) ⟨hx, hb, hml, hown, hts⟩ (k_X11_setGains l D a2 cZ2 cI2 M H1.size y1 y2) (cwV 2 hts gL_law_X11_setGains rfl rfl rfl (by decide +kernel) ⟨Nat.le_of_ble_eq_true rfl, Nat.le_of_ble_eq_true rfl⟩) ⟨blW okN_T, va_recv hKm hPm (ci := 11) (q0 := 0) rfl rfl, preW hPm hKm hDm okN_T trivial⟩ rfl rfl hl1.1 rfl (lv_room (Nat.le_of_ble_eq_true rfl)) dL_law_355 ⟨by show 17 + k + 1 + 0 ≤ 1052; omega, by show 663 + 6 * k + 6 + 0 ≤ 8921; omega⟩) hS1 (aA_in hAm) (aA_free hAm hA hS1) (fun u2 t2 H2 L2 ht2 hvm2 hw2 hB2 hz2 hk2 hS2 => ?_)
  obtain ⟨hP3, -, -⟩ := hB2
  rw [ht2] at hP3
  obtain ⟨hP4, hD4⟩ := joinW (as := adM a2) hP2 hD2 rfl rfl hk2 hP3
  have hu2 : u2 = _ := hw2
  clear hP2 hD2 hPm hDm hP3 hk2 hz2 ht2
  have hl2 := hl1
  have ls2 := ls1
  have hans := Ans_fin (u := C1) (w := Int32.toInt64 0) (q_setGains hR y1 y2) hbad (fun z => ⟨hok z, rfl⟩)
  rw [← hu2] at hans
  obtain ⟨hth, hRel, hval⟩ := hans
  refine lv_aload_n hx hb dL_law_358 rfl (lv_at hl1 4 rfl) ?_
  have hPm := subP hP4
  have hDm := subD hD4
  refine va_calli (va_runV (As := []) (rest := []) ⟨hx, hb, hml, hown, hts⟩ (k_X11_thrown l D a2 cZ2 cI2 u2 H2.size) (cwV 0 hts gL_law_X11_thrown rfl rfl rfl (by decide +kernel) ⟨Nat.le_of_ble_eq_true rfl, Nat.le_of_ble_eq_true rfl⟩) ⟨blW okN_T, va_recv hKm hPm (ci := 11) (q0 := 0) rfl rfl, preW hPm hKm hDm okN_T trivial⟩ rfl rfl hl1.1 rfl (lv_room (Nat.le_of_ble_eq_true rfl)) dL_law_359 ⟨by show 17 + k + 1 + 0 + 0 ≤ 1052; omega, by show 663 + 6 * k + 6 + 0 + 0 ≤ 8921; omega⟩) hS2 (aA_in hAm) (aA_free hAm hA hS2) (fun r3 u3 t3 H3 L3 ht3 hvm3 hw3 hB3 hz3 hk3 hS3 => ?_)
  obtain ⟨hP5, -, -⟩ := hB3
  rw [ht3] at hP5
  obtain ⟨hP6, hD6⟩ := joinW (as := adM a2) hP4 hD4 rfl rfl hk3 hP5
  obtain ⟨hu3, hr3⟩ := hw3
  subst u3
  replace hP6 : va_P D vwCl (wM a2 cZ2 cI2 u2 ++ (wP a cZ cI C1 ++ wO o cJ fo1)) H3 := hP6
  replace hD6 : va_D (lwA s) (wM a2 cZ2 cI2 u2 ++ (wP a cZ cI C1 ++ wO o cJ fo1)) := hD6
  refine lv_iload hx hb dL_law_362 (lv_at hl1 0 rfl) ?_
  refine lv_icmp_eq (tgt := 369) hx hb dL_law_364 (by decide) (fun c1 => ?_) (fun c1 => absurd (by rw [hr3, hr1]; exact hth) c1)
  refine lv_goto (tgt := 885) hx hb dL_law_369 (by decide) ?_
  refine W.widen (k := 17 + (k + 1)) (n := 663 + 6 * (k + 1)) (by omega) (by omega) ?_
  exact kont C1 u2 fo1 H3 L3 ls1 (Rel_up hRel (by omega)) ⟨hP6, hD6, hS3⟩ (lv_sub (l' := [(4, .int (nI (3 * k))), (0, .ref b), (1, .ref (a 0)), (2, .ref (a2 0)), (3, .ref o)]) hl1 [1, 2, 3, 4, 5] rfl)

set_option maxHeartbeats 4000000 in
set_option maxRecDepth 100000 in
theorem cs_setPhase {p : Program} {l : Launch} {e : Env} {s : State} {m : MethodId} {below : List Frame} {meth : Method} {c : Code} {D : va_G} {b L : Nat} {xs : Nat → Int32} {a a2 : Nat → Nat} {cZ cI cJ cZ2 cI2 : ClassId} {o k : Nat} {C M : St} {fo : Nat → Int64} {H : Heap} {locs : List Loc} {ls : Array Slot} (F : lwF p l s m meth c D b L xs cZ cI cJ cZ2 cI2) (hk : 3 * k + 2 < L) (hR : Rel (800 * k) C M) (hV : lwV s D a a2 cZ cI cJ cZ2 cI2 o C M fo H locs) (hl : lv_has ls 7 [(4, .int (nI (3 * k))), (0, .ref b), (1, .ref (a 0)), (2, .ref (a2 0)), (3, .ref o)]) (kont : lwN p l e s m below meth c D b a a2 cZ cI cJ cZ2 cI2 o k) : W p l e room_1 s m #[Value.ref b] below meth c H locs (17 + k) (663 + 6 * k) (lw_Z below #[Value.ref b] s) (F0 m 372 ls []) := by
  obtain ⟨⟨hx, hb, hr, hml, hown, hts0, hX, hbl, hlocks, hgv⟩, hL, hfl, hNY, hZ, hK⟩ := F
  have hts : ∀ w ∈ wsL_law, w.before #[Value.ref b] s = true := fun w h => hts0 w (wsL_law_in w h)
  have hA : ∀ q : Nat, s.heap.size ≤ q → lwA s q := fun _ h => h
  have hbA : ¬ lwA s b := Nat.not_le.mpr hbl
  obtain ⟨hP, hD, hS⟩ := hV
  have hin1 : vp_in (nI (3 * k + 1)) L := vp_in_nI (by omega) (by omega)
  have hin2 : vp_in (nI (3 * k + 2)) L := vp_in_nI (by omega) (by omega)
  have hn : 800 * k < 1000000 := by omega
  have hn2 : 800 * k + 800 < 1000000 := by omega
  have hm := Rel_M hR
  have hJ := Rel_J hR
  obtain ⟨y1, hy1⟩ : ∃ y : Int32, y = xs (nI (3 * k + 1)).toNatClampNeg := ⟨_, rfl⟩
  have hPw : va_P D vwCl (wM a2 cZ2 cI2 M ++ (wPo a cZ cI o cJ C fo ++ [])) H := cvP (apN (wM a2 cZ2 cI2 M) (wPo a cZ cI o cJ C fo)).symm hP
  have hDw : va_D (lwA s) (wM a2 cZ2 cI2 M ++ (wPo a cZ cI o cJ C fo ++ [])) := cvD (apN (wM a2 cZ2 cI2 M) (wPo a cZ cI o cJ C fo)).symm hD
  have hKc := hK.sub (tys' := tyZIJ cZ cI cJ) [0, 1, 2] rfl
  have hAc : ∀ q : Nat, q ∈ adPo a o → lwA s q := adA (subD hDw) rfl
  have hPc := subP hPw
  have hDc := subD hDw
  have hKm := hK.sub (tys' := tyZI cZ2 cI2) [3, 4] rfl
  refine lv_aload_n hx hb dL_law_372 rfl (lv_at hl 2 rfl) ?_
  refine lv_aload_n hx hb dL_law_373 rfl (lv_at hl 1 rfl) ?_
  refine lv_iload hx hb dL_law_374 (lv_at hl 0 rfl) ?_
  refine lv_iconst (v := 1) hx hb dL_law_376 (by decide) ?_
  refine lv_iadd hx hb dL_law_377 ?_
  refine lv_asi (y := nI (3 * k + 1)) (nI_add (3 * k) 1) ?_
  refine va_sld hx hb hX hbl hbA hS hin1 dL_law_378 ?_
  refine lv_asi (y := y1) hy1.symm ?_
  refine lv_aload_n hx hb dL_law_379 rfl (lv_at hl 4 rfl) ?_
  refine va_calli (vx_runSW (As := [.ref (a 0), .int y1, .ref o]) (rest := []) ⟨hx, hb, hml, hown, hts⟩ (k_L_setPhase l hfl D a cZ cI o cJ C fo H.size y1) (vx_cwSW 3 hts gL_law_L_setPhase rfl rfl rfl (by decide +kernel) ⟨Nat.le_of_ble_eq_true rfl, Nat.le_of_ble_eq_true rfl⟩) ⟨blY, preY hPc hKc hDc hNY hZ hS (aA_free hAc hA hS)⟩ rfl rfl hl.1 rfl (lv_room (Nat.le_of_ble_eq_true rfl)) dL_law_380 ⟨by show 17 + k + 1 ≤ 1052; omega, by show 663 + 6 * k + 6 ≤ 8921; omega⟩) hS (aA_in hAc) (aA_free hAc hA hS) (fun r1 u1 t1 H1 L1 ht1 hvm1 hw1 hB1 hz1 hk1 hS1 => ?_)
  obtain ⟨hr1, hbad, hok⟩ := hw1
  obtain ⟨hP1, -, -⟩ := hB1
  rw [ht1] at hP1
  obtain ⟨C1, fo1⟩ := u1
  obtain ⟨hP2, hD2⟩ := joinW (as := adPo a o) hPw hDw rfl rfl hk1 hP1
  replace hP2 : va_P D vwCl ([] ++ (wM a2 cZ2 cI2 M ++ (wP a cZ cI C1 ++ wO o cJ fo1))) H1 := cvP (apN (wM a2 cZ2 cI2 M) (wPo a cZ cI o cJ C1 fo1)) hP2
  replace hD2 : va_D (lwA s) ([] ++ (wM a2 cZ2 cI2 M ++ (wP a cZ cI C1 ++ wO o cJ fo1))) := cvD (apN (wM a2 cZ2 cI2 M) (wPo a cZ cI o cJ C1 fo1)) hD2
  clear hPw hDw hPc hDc hP hD hk1 hP1 hz1 ht1
  refine lv_istore (lv' := [(5, .int r1), (4, .int (nI (3 * k))), (0, .ref b), (1, .ref (a 0)), (2, .ref (a2 0)), (3, .ref o)]) hx hb dL_law_383 hl (by decide) rfl (fun ls1 hl1 => ?_)
  refine lv_aload_n hx hb dL_law_385 rfl (lv_at hl1 4 rfl) ?_
  refine lv_aload_n hx hb dL_law_386 rfl (lv_at hl1 2 rfl) ?_
  refine lv_iload hx hb dL_law_387 (lv_at hl1 1 rfl) ?_
  refine lv_iconst (v := 1) hx hb dL_law_389 (by decide) ?_
  refine lv_iadd hx hb dL_law_390 ?_
  refine lv_asi (y := nI (3 * k + 1)) (nI_add (3 * k) 1) ?_
  refine va_sld hx hb hX hbl hbA hS1 hin1 dL_law_391 ?_
  refine lv_asi (y := y1) hy1.symm ?_
  have hPm := subP hP2
  have hDm := subD hD2
  have hAm : ∀ q : Nat, q ∈ adM a2 → lwA s q := adA hDm rfl
  refine va_calli (va_runV (As := [.int y1]) (rest := []) ⟨hx, hb, hml, hown, hts⟩ (k_X11_setPhase l D a2 cZ2 cI2 M H1.size y1) (cwV 1 hts gL_law_X11_setPhase rfl rfl rfl (by decide +kernel) ⟨Nat.le_of_ble_eq_true rfl, Nat.le_of_ble_eq_true rfl⟩) ⟨blW okN_T, va_recv hKm hPm (ci := 11) (q0 := 0) rfl rfl, preW hPm hKm hDm okN_T trivial⟩ rfl rfl hl1.1 rfl (lv_room (Nat.le_of_ble_eq_true rfl)) dL_law_392 ⟨by show 17 + k + 1 + 0 ≤ 1052; omega, by show 663 + 6 * k + 6 + 0 ≤ 8921; omega⟩) hS1 (aA_in hAm) (aA_free hAm hA hS1) (fun r2 u2 t2 H2 L2 ht2 hvm2 hw2 hB2 hz2 hk2 hS2 => ?_)
  obtain ⟨hP3, -, -⟩ := hB2
  rw [ht2] at hP3
  obtain ⟨hP4, hD4⟩ := joinW (as := adM a2) hP2 hD2 rfl rfl hk2 hP3
  obtain ⟨hu2, hr2⟩ := hw2
  clear hP2 hD2 hPm hDm hP3 hk2 hz2 ht2
  refine lv_istore (lv' := [(6, .int r2), (5, .int r1), (4, .int (nI (3 * k))), (0, .ref b), (1, .ref (a 0)), (2, .ref (a2 0)), (3, .ref o)]) hx hb dL_law_395 hl1 (by decide) rfl (fun ls2 hl2 => ?_)
  have hans := Ans_fin (u := C1) (w := fo1 0) (q_setPhase hR y1) hbad hok
  rw [← hu2] at hans
  obtain ⟨hth, hRel, hval⟩ := hans
  refine lv_aload_n hx hb dL_law_397 rfl (lv_at hl2 5 rfl) ?_
  have hPm := subP hP4
  have hDm := subD hD4
  refine va_calli (va_runV (As := []) (rest := []) ⟨hx, hb, hml, hown, hts⟩ (k_X11_thrown l D a2 cZ2 cI2 u2 H2.size) (cwV 0 hts gL_law_X11_thrown rfl rfl rfl (by decide +kernel) ⟨Nat.le_of_ble_eq_true rfl, Nat.le_of_ble_eq_true rfl⟩) ⟨blW okN_T, va_recv hKm hPm (ci := 11) (q0 := 0) rfl rfl, preW hPm hKm hDm okN_T trivial⟩ rfl rfl hl2.1 rfl (lv_room (Nat.le_of_ble_eq_true rfl)) dL_law_398 ⟨by show 17 + k + 1 + 0 + 0 ≤ 1052; omega, by show 663 + 6 * k + 6 + 0 + 0 ≤ 8921; omega⟩) hS2 (aA_in hAm) (aA_free hAm hA hS2) (fun r3 u3 t3 H3 L3 ht3 hvm3 hw3 hB3 hz3 hk3 hS3 => ?_)
  obtain ⟨hP5, -, -⟩ := hB3
  rw [ht3] at hP5
  obtain ⟨hP6, hD6⟩ := joinW (as := adM a2) hP4 hD4 rfl rfl hk3 hP5
  obtain ⟨hu3, hr3⟩ := hw3
  subst u3
  replace hP6 : va_P D vwCl (wM a2 cZ2 cI2 u2 ++ (wP a cZ cI C1 ++ wO o cJ fo1)) H3 := hP6
  replace hD6 : va_D (lwA s) (wM a2 cZ2 cI2 u2 ++ (wP a cZ cI C1 ++ wO o cJ fo1)) := hD6
  refine lv_iload hx hb dL_law_401 (lv_at hl2 1 rfl) ?_
  refine lv_icmp_eq (tgt := 408) hx hb dL_law_403 (by decide) (fun c1 => ?_) (fun c1 => absurd (by rw [hr3, hr1]; exact hth) c1)
  have fin : W p l e room_1 s m #[Value.ref b] below meth c H3 L3 (17 + k + 1 + 0 + 0) (663 + 6 * k + 6 + 0 + 0) (lw_Z below #[Value.ref b] s) (F0 m 425 ls2 []) := by
    refine lv_goto (tgt := 885) hx hb dL_law_425 (by decide) ?_
    refine W.widen (k := 17 + (k + 1)) (n := 663 + 6 * (k + 1)) (by omega) (by omega) ?_
    exact kont C1 u2 fo1 H3 L3 ls2 (Rel_up hRel (by omega)) ⟨hP6, hD6, hS3⟩ (lv_sub (l' := [(4, .int (nI (3 * k))), (0, .ref b), (1, .ref (a 0)), (2, .ref (a2 0)), (3, .ref o)]) hl2 [2, 3, 4, 5, 6] rfl)
  refine lv_iload hx hb dL_law_408 (lv_at hl2 1 rfl) ?_
  refine lv_if_ne (tgt := 425) hx hb dL_law_410 (by decide) (fun c2 => fin) (fun c2 => ?_)
  have hx0 : fo1 0 = Int32.toInt64 r2 := by rw [hr2]; exact hval (hr1.symm.trans c2)
  refine lv_aload_n hx hb dL_law_413 rfl (lv_at hl2 6 rfl) ?_
  refine lv_iconst (v := 0) hx hb dL_law_414 (by decide) ?_
  refine va_lald (D := D) hx hb hK hP6 16 2 rfl rfl (vp_in_nI (n := 0) (by decide) (by decide)) dL_law_415 ?_
  refine lv_asl (y := fo1 0) rfl ?_
  refine lv_iload hx hb dL_law_416 (lv_at hl2 0 rfl) ?_
  refine lv_i2l (v := Int32.toInt64 r2) hx hb dL_law_418 rfl ?_
  refine W.lcmp hx hb dL_law_419 ?_
  refine lv_if_eq (tgt := 425) hx hb dL_law_420 (by decide) (fun c3 => fin) (fun c3 => absurd (lg_same hx0) c3)

set_option maxHeartbeats 4000000 in
set_option maxRecDepth 100000 in
theorem cs_release {p : Program} {l : Launch} {e : Env} {s : State} {m : MethodId} {below : List Frame} {meth : Method} {c : Code} {D : va_G} {b L : Nat} {xs : Nat → Int32} {a a2 : Nat → Nat} {cZ cI cJ cZ2 cI2 : ClassId} {o k : Nat} {C M : St} {fo : Nat → Int64} {H : Heap} {locs : List Loc} {ls : Array Slot} (F : lwF p l s m meth c D b L xs cZ cI cJ cZ2 cI2) (hk : 3 * k + 2 < L) (hR : Rel (800 * k) C M) (hV : lwV s D a a2 cZ cI cJ cZ2 cI2 o C M fo H locs) (hl : lv_has ls 7 [(4, .int (nI (3 * k))), (0, .ref b), (1, .ref (a 0)), (2, .ref (a2 0)), (3, .ref o)]) (kont : lwN p l e s m below meth c D b a a2 cZ cI cJ cZ2 cI2 o k) : W p l e room_1 s m #[Value.ref b] below meth c H locs (17 + k) (663 + 6 * k) (lw_Z below #[Value.ref b] s) (F0 m 428 ls []) := by
  obtain ⟨⟨hx, hb, hr, hml, hown, hts0, hX, hbl, hlocks, hgv⟩, hL, hfl, hNY, hZ, hK⟩ := F
  have hts : ∀ w ∈ wsL_law, w.before #[Value.ref b] s = true := fun w h => hts0 w (wsL_law_in w h)
  have hA : ∀ q : Nat, s.heap.size ≤ q → lwA s q := fun _ h => h
  have hbA : ¬ lwA s b := Nat.not_le.mpr hbl
  obtain ⟨hP, hD, hS⟩ := hV
  have hin1 : vp_in (nI (3 * k + 1)) L := vp_in_nI (by omega) (by omega)
  have hin2 : vp_in (nI (3 * k + 2)) L := vp_in_nI (by omega) (by omega)
  have hn : 800 * k < 1000000 := by omega
  have hn2 : 800 * k + 800 < 1000000 := by omega
  have hm := Rel_M hR
  have hJ := Rel_J hR
  have hKc := hK.sub (tys' := tyZI cZ cI) [0, 1] rfl
  have hKm := hK.sub (tys' := tyZI cZ2 cI2) [3, 4] rfl
  have hPc := subP hP
  have hDc := subD hD
  have hAc : ∀ q : Nat, q ∈ adP a → lwA s q := adA hDc rfl
  refine lv_aload_n hx hb dL_law_428 rfl (lv_at hl 2 rfl) ?_
  refine va_callv (va_runV (As := []) (rest := []) ⟨hx, hb, hml, hown, hts⟩ (k_X10_release l D a cZ cI C H.size) (cwV 0 hts gL_law_X10_release rfl rfl rfl (by decide +kernel) ⟨Nat.le_of_ble_eq_true rfl, Nat.le_of_ble_eq_true rfl⟩) ⟨blW okN_P, va_recv hKc hPc (ci := 10) (q0 := 0) rfl rfl, preW hPc hKc hDc okN_P hNY.1⟩ rfl rfl hl.1 rfl (lv_room (Nat.le_of_ble_eq_true rfl)) dL_law_429 ⟨by show 17 + k + 0 ≤ 1052; omega, by show 663 + 6 * k + 0 ≤ 8921; omega⟩) hS (aA_in hAc) (aA_free hAc hA hS) (fun u1 t1 H1 L1 ht1 hvm1 hw1 hB1 hz1 hk1 hS1 => ?_)
  obtain ⟨hP1, -, -⟩ := hB1
  rw [ht1] at hP1
  have hu1 : u1 = s_X10_release C := hw1
  obtain ⟨hP2, hD2⟩ := joinW (as := adP a) hP hD rfl rfl hk1 hP1
  replace hP2 : va_P D vwCl ([] ++ (wM a2 cZ2 cI2 M ++ (wP a cZ cI u1 ++ wO o cJ fo))) H1 := hP2
  replace hD2 : va_D (lwA s) ([] ++ (wM a2 cZ2 cI2 M ++ (wP a cZ cI u1 ++ wO o cJ fo))) := hD2
  refine lv_aload_n hx hb dL_law_432 rfl (lv_at hl 3 rfl) ?_
  have hPm := subP hP2
  have hDm := subD hD2
  have hAm : ∀ q : Nat, q ∈ adM a2 → lwA s q := adA hDm rfl
  refine va_callv (va_runV (As := []) (rest := []) ⟨hx, hb, hml, hown, hts⟩ (k_X11_release l D a2 cZ2 cI2 M H1.size) (cwV 0 hts gL_law_X11_release rfl rfl rfl (by decide +kernel) ⟨Nat.le_of_ble_eq_true rfl, Nat.le_of_ble_eq_true rfl⟩) ⟨blW okN_T, va_recv hKm hPm (ci := 11) (q0 := 0) rfl rfl, preW hPm hKm hDm okN_T trivial⟩ rfl rfl hl.1 rfl (lv_room (Nat.le_of_ble_eq_true rfl)) dL_law_433 ⟨by show 17 + k + 0 + 0 ≤ 1052; omega, by show 663 + 6 * k + 0 + 0 ≤ 8921; omega⟩) hS1 (aA_in hAm) (aA_free hAm hA hS1) (fun u2 t2 H2 L2 ht2 hvm2 hw2 hB2 hz2 hk2 hS2 => ?_)
  obtain ⟨hP3, -, -⟩ := hB2
  rw [ht2] at hP3
  have hu2 : u2 = s_X11_release M := hw2
  obtain ⟨hP4, hD4⟩ := joinW (as := adM a2) hP2 hD2 rfl rfl hk2 hP3
  replace hP4 : va_P D vwCl (wM a2 cZ2 cI2 u2 ++ (wP a cZ cI u1 ++ wO o cJ fo)) H2 := hP4
  replace hD4 : va_D (lwA s) (wM a2 cZ2 cI2 u2 ++ (wP a cZ cI u1 ++ wO o cJ fo)) := hD4
  have hRel : Rel (800 * k) u1 u2 := by rw [hu1, hu2]; exact q_release hR
  refine lv_goto (tgt := 885) hx hb dL_law_436 (by decide) ?_
  refine W.widen (k := 17 + (k + 1)) (n := 663 + 6 * (k + 1)) (by omega) (by omega) ?_
  exact kont u1 u2 fo H2 L2 ls (Rel_up hRel (by omega)) ⟨hP4, hD4, hS2⟩ hl

set_option maxHeartbeats 4000000 in
set_option maxRecDepth 100000 in
theorem cs_run {p : Program} {l : Launch} {e : Env} {s : State} {m : MethodId} {below : List Frame} {meth : Method} {c : Code} {D : va_G} {b L : Nat} {xs : Nat → Int32} {a a2 : Nat → Nat} {cZ cI cJ cZ2 cI2 : ClassId} {o k : Nat} {C M : St} {fo : Nat → Int64} {H : Heap} {locs : List Loc} {ls : Array Slot} (F : lwF p l s m meth c D b L xs cZ cI cJ cZ2 cI2) (hk : 3 * k + 2 < L) (hR : Rel (800 * k) C M) (hV : lwV s D a a2 cZ cI cJ cZ2 cI2 o C M fo H locs) (hl : lv_has ls 7 [(4, .int (nI (3 * k))), (0, .ref b), (1, .ref (a 0)), (2, .ref (a2 0)), (3, .ref o)]) (kont : lwN p l e s m below meth c D b a a2 cZ cI cJ cZ2 cI2 o k) : W p l e room_1 s m #[Value.ref b] below meth c H locs (17 + k) (663 + 6 * k) (lw_Z below #[Value.ref b] s) (F0 m 439 ls []) := by
  obtain ⟨⟨hx, hb, hr, hml, hown, hts0, hX, hbl, hlocks, hgv⟩, hL, hfl, hNY, hZ, hK⟩ := F
  have hts : ∀ w ∈ wsL_law, w.before #[Value.ref b] s = true := fun w h => hts0 w (wsL_law_in w h)
  have hA : ∀ q : Nat, s.heap.size ≤ q → lwA s q := fun _ h => h
  have hbA : ¬ lwA s b := Nat.not_le.mpr hbl
  obtain ⟨hP, hD, hS⟩ := hV
  have hin1 : vp_in (nI (3 * k + 1)) L := vp_in_nI (by omega) (by omega)
  have hin2 : vp_in (nI (3 * k + 2)) L := vp_in_nI (by omega) (by omega)
  have hn : 800 * k < 1000000 := by omega
  have hn2 : 800 * k + 800 < 1000000 := by omega
  have hm := Rel_M hR
  have hJ := Rel_J hR
  obtain ⟨y1, hy1⟩ : ∃ y : Int32, y = xs (nI (3 * k + 1)).toNatClampNeg := ⟨_, rfl⟩
  have hPw : va_P D vwCl (wM a2 cZ2 cI2 M ++ (wPo a cZ cI o cJ C fo ++ [])) H := cvP (apN (wM a2 cZ2 cI2 M) (wPo a cZ cI o cJ C fo)).symm hP
  have hDw : va_D (lwA s) (wM a2 cZ2 cI2 M ++ (wPo a cZ cI o cJ C fo ++ [])) := cvD (apN (wM a2 cZ2 cI2 M) (wPo a cZ cI o cJ C fo)).symm hD
  have hKc := hK.sub (tys' := tyZIJ cZ cI cJ) [0, 1, 2] rfl
  have hAc : ∀ q : Nat, q ∈ adPo a o → lwA s q := adA (subD hDw) rfl
  have hPc := subP hPw
  have hDc := subD hDw
  have hKm := hK.sub (tys' := tyZI cZ2 cI2) [3, 4] rfl
  refine lv_aload_n hx hb dL_law_439 rfl (lv_at hl 2 rfl) ?_
  refine lv_aload_n hx hb dL_law_440 rfl (lv_at hl 1 rfl) ?_
  refine lv_iload hx hb dL_law_441 (lv_at hl 0 rfl) ?_
  refine lv_iconst (v := 1) hx hb dL_law_443 (by decide) ?_
  refine lv_iadd hx hb dL_law_444 ?_
  refine lv_asi (y := nI (3 * k + 1)) (nI_add (3 * k) 1) ?_
  refine va_sld hx hb hX hbl hbA hS hin1 dL_law_445 ?_
  refine lv_asi (y := y1) hy1.symm ?_
  refine lv_aload_n hx hb dL_law_446 rfl (lv_at hl 4 rfl) ?_
  refine va_calli (vx_runSW (As := [.ref (a 0), .int y1, .ref o]) (rest := []) ⟨hx, hb, hml, hown, hts⟩ (k_L_run l hfl D a cZ cI o cJ C fo H.size y1 hJ) (vx_cwSW 3 hts gL_law_L_run rfl rfl rfl (by decide +kernel) ⟨Nat.le_of_ble_eq_true rfl, Nat.le_of_ble_eq_true rfl⟩) ⟨blY, preY hPc hKc hDc hNY hZ hS (aA_free hAc hA hS)⟩ rfl rfl hl.1 rfl (lv_room (Nat.le_of_ble_eq_true rfl)) dL_law_447 ⟨by show 17 + k + 1 ≤ 1052; omega, by show 663 + 6 * k + 6 ≤ 8921; omega⟩) hS (aA_in hAc) (aA_free hAc hA hS) (fun r1 u1 t1 H1 L1 ht1 hvm1 hw1 hB1 hz1 hk1 hS1 => ?_)
  obtain ⟨hr1, hbad, hok⟩ := hw1
  obtain ⟨hP1, -, -⟩ := hB1
  rw [ht1] at hP1
  obtain ⟨C1, fo1⟩ := u1
  obtain ⟨hP2, hD2⟩ := joinW (as := adPo a o) hPw hDw rfl rfl hk1 hP1
  replace hP2 : va_P D vwCl ([] ++ (wM a2 cZ2 cI2 M ++ (wP a cZ cI C1 ++ wO o cJ fo1))) H1 := cvP (apN (wM a2 cZ2 cI2 M) (wPo a cZ cI o cJ C1 fo1)) hP2
  replace hD2 : va_D (lwA s) ([] ++ (wM a2 cZ2 cI2 M ++ (wP a cZ cI C1 ++ wO o cJ fo1))) := cvD (apN (wM a2 cZ2 cI2 M) (wPo a cZ cI o cJ C1 fo1)) hD2
  clear hPw hDw hPc hDc hP hD hk1 hP1 hz1 ht1
  refine lv_istore (lv' := [(5, .int r1), (4, .int (nI (3 * k))), (0, .ref b), (1, .ref (a 0)), (2, .ref (a2 0)), (3, .ref o)]) hx hb dL_law_450 hl (by decide) rfl (fun ls1 hl1 => ?_)
  refine lv_aload_n hx hb dL_law_452 rfl (lv_at hl1 4 rfl) ?_
  refine lv_aload_n hx hb dL_law_453 rfl (lv_at hl1 2 rfl) ?_
  refine lv_iload hx hb dL_law_454 (lv_at hl1 1 rfl) ?_
  refine lv_iconst (v := 1) hx hb dL_law_456 (by decide) ?_
  refine lv_iadd hx hb dL_law_457 ?_
  refine lv_asi (y := nI (3 * k + 1)) (nI_add (3 * k) 1) ?_
  refine va_sld hx hb hX hbl hbA hS1 hin1 dL_law_458 ?_
  refine lv_asi (y := y1) hy1.symm ?_
  have hPm := subP hP2
  have hDm := subD hD2
  have hAm : ∀ q : Nat, q ∈ adM a2 → lwA s q := adA hDm rfl
  refine va_calli (va_runV (As := [.int y1]) (rest := []) ⟨hx, hb, hml, hown, hts⟩ (k_X11_run l D a2 cZ2 cI2 M H1.size y1 (800 * k) hn2 hm) (cwV 1 hts gL_law_X11_run rfl rfl rfl (by decide +kernel) ⟨Nat.le_of_ble_eq_true rfl, Nat.le_of_ble_eq_true rfl⟩) ⟨blW okN_T, va_recv hKm hPm (ci := 11) (q0 := 0) rfl rfl, preW hPm hKm hDm okN_T trivial⟩ rfl rfl hl1.1 rfl (lv_room (Nat.le_of_ble_eq_true rfl)) dL_law_459 ⟨by show 17 + k + 1 + 0 ≤ 1052; omega, by show 663 + 6 * k + 6 + 0 ≤ 8921; omega⟩) hS1 (aA_in hAm) (aA_free hAm hA hS1) (fun r2 u2 t2 H2 L2 ht2 hvm2 hw2 hB2 hz2 hk2 hS2 => ?_)
  obtain ⟨hP3, -, -⟩ := hB2
  rw [ht2] at hP3
  obtain ⟨hP4, hD4⟩ := joinW (as := adM a2) hP2 hD2 rfl rfl hk2 hP3
  obtain ⟨hu2, hr2⟩ := hw2
  clear hP2 hD2 hPm hDm hP3 hk2 hz2 ht2
  refine lv_istore (lv' := [(6, .int r2), (5, .int r1), (4, .int (nI (3 * k))), (0, .ref b), (1, .ref (a 0)), (2, .ref (a2 0)), (3, .ref o)]) hx hb dL_law_462 hl1 (by decide) rfl (fun ls2 hl2 => ?_)
  have hans := Ans_fin (u := C1) (w := fo1 0) (q_run hn2 hR y1) hbad hok
  rw [← hu2] at hans
  obtain ⟨hth, hRel, hval⟩ := hans
  refine lv_aload_n hx hb dL_law_464 rfl (lv_at hl2 5 rfl) ?_
  have hPm := subP hP4
  have hDm := subD hD4
  refine va_calli (va_runV (As := []) (rest := []) ⟨hx, hb, hml, hown, hts⟩ (k_X11_thrown l D a2 cZ2 cI2 u2 H2.size) (cwV 0 hts gL_law_X11_thrown rfl rfl rfl (by decide +kernel) ⟨Nat.le_of_ble_eq_true rfl, Nat.le_of_ble_eq_true rfl⟩) ⟨blW okN_T, va_recv hKm hPm (ci := 11) (q0 := 0) rfl rfl, preW hPm hKm hDm okN_T trivial⟩ rfl rfl hl2.1 rfl (lv_room (Nat.le_of_ble_eq_true rfl)) dL_law_465 ⟨by show 17 + k + 1 + 0 + 0 ≤ 1052; omega, by show 663 + 6 * k + 6 + 0 + 0 ≤ 8921; omega⟩) hS2 (aA_in hAm) (aA_free hAm hA hS2) (fun r3 u3 t3 H3 L3 ht3 hvm3 hw3 hB3 hz3 hk3 hS3 => ?_)
  obtain ⟨hP5, -, -⟩ := hB3
  rw [ht3] at hP5
  obtain ⟨hP6, hD6⟩ := joinW (as := adM a2) hP4 hD4 rfl rfl hk3 hP5
  obtain ⟨hu3, hr3⟩ := hw3
  subst u3
  replace hP6 : va_P D vwCl (wM a2 cZ2 cI2 u2 ++ (wP a cZ cI C1 ++ wO o cJ fo1)) H3 := hP6
  replace hD6 : va_D (lwA s) (wM a2 cZ2 cI2 u2 ++ (wP a cZ cI C1 ++ wO o cJ fo1)) := hD6
  refine lv_iload hx hb dL_law_468 (lv_at hl2 1 rfl) ?_
  refine lv_icmp_eq (tgt := 475) hx hb dL_law_470 (by decide) (fun c1 => ?_) (fun c1 => absurd (by rw [hr3, hr1]; exact hth) c1)
  have fin : W p l e room_1 s m #[Value.ref b] below meth c H3 L3 (17 + k + 1 + 0 + 0) (663 + 6 * k + 6 + 0 + 0) (lw_Z below #[Value.ref b] s) (F0 m 492 ls2 []) := by
    refine lv_goto (tgt := 885) hx hb dL_law_492 (by decide) ?_
    refine W.widen (k := 17 + (k + 1)) (n := 663 + 6 * (k + 1)) (by omega) (by omega) ?_
    exact kont C1 u2 fo1 H3 L3 ls2 (Rel_up hRel (by omega)) ⟨hP6, hD6, hS3⟩ (lv_sub (l' := [(4, .int (nI (3 * k))), (0, .ref b), (1, .ref (a 0)), (2, .ref (a2 0)), (3, .ref o)]) hl2 [2, 3, 4, 5, 6] rfl)
  refine lv_iload hx hb dL_law_475 (lv_at hl2 1 rfl) ?_
  refine lv_if_ne (tgt := 492) hx hb dL_law_477 (by decide) (fun c2 => fin) (fun c2 => ?_)
  have hx0 : fo1 0 = Int32.toInt64 r2 := by rw [hr2]; exact hval (hr1.symm.trans c2)
  refine lv_aload_n hx hb dL_law_480 rfl (lv_at hl2 6 rfl) ?_
  refine lv_iconst (v := 0) hx hb dL_law_481 (by decide) ?_
  refine va_lald (D := D) hx hb hK hP6 16 2 rfl rfl (vp_in_nI (n := 0) (by decide) (by decide)) dL_law_482 ?_
  refine lv_asl (y := fo1 0) rfl ?_
  refine lv_iload hx hb dL_law_483 (lv_at hl2 0 rfl) ?_
  refine lv_i2l (v := Int32.toInt64 r2) hx hb dL_law_485 rfl ?_
  refine W.lcmp hx hb dL_law_486 ?_
  refine lv_if_eq (tgt := 492) hx hb dL_law_487 (by decide) (fun c3 => fin) (fun c3 => absurd (lg_same hx0) c3)

set_option maxHeartbeats 4000000 in
set_option maxRecDepth 100000 in
theorem cs_bit {p : Program} {l : Launch} {e : Env} {s : State} {m : MethodId} {below : List Frame} {meth : Method} {c : Code} {D : va_G} {b L : Nat} {xs : Nat → Int32} {a a2 : Nat → Nat} {cZ cI cJ cZ2 cI2 : ClassId} {o k : Nat} {C M : St} {fo : Nat → Int64} {H : Heap} {locs : List Loc} {ls : Array Slot} (F : lwF p l s m meth c D b L xs cZ cI cJ cZ2 cI2) (hk : 3 * k + 2 < L) (hR : Rel (800 * k) C M) (hV : lwV s D a a2 cZ cI cJ cZ2 cI2 o C M fo H locs) (hl : lv_has ls 7 [(4, .int (nI (3 * k))), (0, .ref b), (1, .ref (a 0)), (2, .ref (a2 0)), (3, .ref o)]) (kont : lwN p l e s m below meth c D b a a2 cZ cI cJ cZ2 cI2 o k) : W p l e room_1 s m #[Value.ref b] below meth c H locs (17 + k) (663 + 6 * k) (lw_Z below #[Value.ref b] s) (F0 m 625 ls []) := by
  obtain ⟨⟨hx, hb, hr, hml, hown, hts0, hX, hbl, hlocks, hgv⟩, hL, hfl, hNY, hZ, hK⟩ := F
  have hts : ∀ w ∈ wsL_law, w.before #[Value.ref b] s = true := fun w h => hts0 w (wsL_law_in w h)
  have hA : ∀ q : Nat, s.heap.size ≤ q → lwA s q := fun _ h => h
  have hbA : ¬ lwA s b := Nat.not_le.mpr hbl
  obtain ⟨hP, hD, hS⟩ := hV
  have hin1 : vp_in (nI (3 * k + 1)) L := vp_in_nI (by omega) (by omega)
  have hin2 : vp_in (nI (3 * k + 2)) L := vp_in_nI (by omega) (by omega)
  have hn : 800 * k < 1000000 := by omega
  have hn2 : 800 * k + 800 < 1000000 := by omega
  have hm := Rel_M hR
  have hJ := Rel_J hR
  obtain ⟨y1, hy1⟩ : ∃ y : Int32, y = xs (nI (3 * k + 1)).toNatClampNeg := ⟨_, rfl⟩
  have hPw : va_P D vwCl (wM a2 cZ2 cI2 M ++ (wPo a cZ cI o cJ C fo ++ [])) H := cvP (apN (wM a2 cZ2 cI2 M) (wPo a cZ cI o cJ C fo)).symm hP
  have hDw : va_D (lwA s) (wM a2 cZ2 cI2 M ++ (wPo a cZ cI o cJ C fo ++ [])) := cvD (apN (wM a2 cZ2 cI2 M) (wPo a cZ cI o cJ C fo)).symm hD
  have hKc := hK.sub (tys' := tyZIJ cZ cI cJ) [0, 1, 2] rfl
  have hAc : ∀ q : Nat, q ∈ adPo a o → lwA s q := adA (subD hDw) rfl
  have hPc := subP hPw
  have hDc := subD hDw
  have hKm := hK.sub (tys' := tyZI cZ2 cI2) [3, 4] rfl
  refine lv_aload_n hx hb dL_law_625 rfl (lv_at hl 2 rfl) ?_
  refine lv_aload_n hx hb dL_law_626 rfl (lv_at hl 1 rfl) ?_
  refine lv_iload hx hb dL_law_627 (lv_at hl 0 rfl) ?_
  refine lv_iconst (v := 1) hx hb dL_law_629 (by decide) ?_
  refine lv_iadd hx hb dL_law_630 ?_
  refine lv_asi (y := nI (3 * k + 1)) (nI_add (3 * k) 1) ?_
  refine va_sld hx hb hX hbl hbA hS hin1 dL_law_631 ?_
  refine lv_asi (y := y1) hy1.symm ?_
  refine lv_aload_n hx hb dL_law_632 rfl (lv_at hl 4 rfl) ?_
  refine va_calli (vx_runSW (As := [.ref (a 0), .int y1, .ref o]) (rest := []) ⟨hx, hb, hml, hown, hts⟩ (k_L_bit l hfl D a cZ cI o cJ C fo H.size y1) (vx_cwSW 3 hts gL_law_L_bit rfl rfl rfl (by decide +kernel) ⟨Nat.le_of_ble_eq_true rfl, Nat.le_of_ble_eq_true rfl⟩) ⟨blY, preY hPc hKc hDc hNY hZ hS (aA_free hAc hA hS)⟩ rfl rfl hl.1 rfl (lv_room (Nat.le_of_ble_eq_true rfl)) dL_law_633 ⟨by show 17 + k + 1 ≤ 1052; omega, by show 663 + 6 * k + 6 ≤ 8921; omega⟩) hS (aA_in hAc) (aA_free hAc hA hS) (fun r1 u1 t1 H1 L1 ht1 hvm1 hw1 hB1 hz1 hk1 hS1 => ?_)
  obtain ⟨hr1, hbad, hok⟩ := hw1
  obtain ⟨hP1, -, -⟩ := hB1
  rw [ht1] at hP1
  obtain ⟨C1, fo1⟩ := u1
  obtain ⟨hP2, hD2⟩ := joinW (as := adPo a o) hPw hDw rfl rfl hk1 hP1
  replace hP2 : va_P D vwCl ([] ++ (wM a2 cZ2 cI2 M ++ (wP a cZ cI C1 ++ wO o cJ fo1))) H1 := cvP (apN (wM a2 cZ2 cI2 M) (wPo a cZ cI o cJ C1 fo1)) hP2
  replace hD2 : va_D (lwA s) ([] ++ (wM a2 cZ2 cI2 M ++ (wP a cZ cI C1 ++ wO o cJ fo1))) := cvD (apN (wM a2 cZ2 cI2 M) (wPo a cZ cI o cJ C1 fo1)) hD2
  clear hPw hDw hPc hDc hP hD hk1 hP1 hz1 ht1
  refine lv_istore (lv' := [(5, .int r1), (4, .int (nI (3 * k))), (0, .ref b), (1, .ref (a 0)), (2, .ref (a2 0)), (3, .ref o)]) hx hb dL_law_636 hl (by decide) rfl (fun ls1 hl1 => ?_)
  refine lv_aload_n hx hb dL_law_638 rfl (lv_at hl1 4 rfl) ?_
  refine lv_aload_n hx hb dL_law_639 rfl (lv_at hl1 2 rfl) ?_
  refine lv_iload hx hb dL_law_640 (lv_at hl1 1 rfl) ?_
  refine lv_iconst (v := 1) hx hb dL_law_642 (by decide) ?_
  refine lv_iadd hx hb dL_law_643 ?_
  refine lv_asi (y := nI (3 * k + 1)) (nI_add (3 * k) 1) ?_
  refine va_sld hx hb hX hbl hbA hS1 hin1 dL_law_644 ?_
  refine lv_asi (y := y1) hy1.symm ?_
  have hPm := subP hP2
  have hDm := subD hD2
  have hAm : ∀ q : Nat, q ∈ adM a2 → lwA s q := adA hDm rfl
  refine va_calli (va_runV (As := [.int y1]) (rest := []) ⟨hx, hb, hml, hown, hts⟩ (k_X11_bit l D a2 cZ2 cI2 M H1.size y1) (cwV 1 hts gL_law_X11_bit rfl rfl rfl (by decide +kernel) ⟨Nat.le_of_ble_eq_true rfl, Nat.le_of_ble_eq_true rfl⟩) ⟨blW okN_T, va_recv hKm hPm (ci := 11) (q0 := 0) rfl rfl, preW hPm hKm hDm okN_T trivial⟩ rfl rfl hl1.1 rfl (lv_room (Nat.le_of_ble_eq_true rfl)) dL_law_645 ⟨by show 17 + k + 1 + 0 ≤ 1052; omega, by show 663 + 6 * k + 6 + 0 ≤ 8921; omega⟩) hS1 (aA_in hAm) (aA_free hAm hA hS1) (fun r2 u2 t2 H2 L2 ht2 hvm2 hw2 hB2 hz2 hk2 hS2 => ?_)
  obtain ⟨hP3, -, -⟩ := hB2
  rw [ht2] at hP3
  obtain ⟨hP4, hD4⟩ := joinW (as := adM a2) hP2 hD2 rfl rfl hk2 hP3
  obtain ⟨hu2, hr2⟩ := hw2
  clear hP2 hD2 hPm hDm hP3 hk2 hz2 ht2
  refine lv_istore (lv' := [(6, .int r2), (5, .int r1), (4, .int (nI (3 * k))), (0, .ref b), (1, .ref (a 0)), (2, .ref (a2 0)), (3, .ref o)]) hx hb dL_law_648 hl1 (by decide) rfl (fun ls2 hl2 => ?_)
  have hans := Ans_fin (u := C1) (w := fo1 0) (q_bit (by omega) hR y1) hbad hok
  rw [← hu2] at hans
  obtain ⟨hth, hRel, hval⟩ := hans
  refine lv_aload_n hx hb dL_law_650 rfl (lv_at hl2 5 rfl) ?_
  have hPm := subP hP4
  have hDm := subD hD4
  refine va_calli (va_runV (As := []) (rest := []) ⟨hx, hb, hml, hown, hts⟩ (k_X11_thrown l D a2 cZ2 cI2 u2 H2.size) (cwV 0 hts gL_law_X11_thrown rfl rfl rfl (by decide +kernel) ⟨Nat.le_of_ble_eq_true rfl, Nat.le_of_ble_eq_true rfl⟩) ⟨blW okN_T, va_recv hKm hPm (ci := 11) (q0 := 0) rfl rfl, preW hPm hKm hDm okN_T trivial⟩ rfl rfl hl2.1 rfl (lv_room (Nat.le_of_ble_eq_true rfl)) dL_law_651 ⟨by show 17 + k + 1 + 0 + 0 ≤ 1052; omega, by show 663 + 6 * k + 6 + 0 + 0 ≤ 8921; omega⟩) hS2 (aA_in hAm) (aA_free hAm hA hS2) (fun r3 u3 t3 H3 L3 ht3 hvm3 hw3 hB3 hz3 hk3 hS3 => ?_)
  obtain ⟨hP5, -, -⟩ := hB3
  rw [ht3] at hP5
  obtain ⟨hP6, hD6⟩ := joinW (as := adM a2) hP4 hD4 rfl rfl hk3 hP5
  obtain ⟨hu3, hr3⟩ := hw3
  subst u3
  replace hP6 : va_P D vwCl (wM a2 cZ2 cI2 u2 ++ (wP a cZ cI C1 ++ wO o cJ fo1)) H3 := hP6
  replace hD6 : va_D (lwA s) (wM a2 cZ2 cI2 u2 ++ (wP a cZ cI C1 ++ wO o cJ fo1)) := hD6
  refine lv_iload hx hb dL_law_654 (lv_at hl2 1 rfl) ?_
  refine lv_icmp_eq (tgt := 661) hx hb dL_law_656 (by decide) (fun c1 => ?_) (fun c1 => absurd (by rw [hr3, hr1]; exact hth) c1)
  have fin : W p l e room_1 s m #[Value.ref b] below meth c H3 L3 (17 + k + 1 + 0 + 0) (663 + 6 * k + 6 + 0 + 0) (lw_Z below #[Value.ref b] s) (F0 m 678 ls2 []) := by
    refine lv_goto (tgt := 885) hx hb dL_law_678 (by decide) ?_
    refine W.widen (k := 17 + (k + 1)) (n := 663 + 6 * (k + 1)) (by omega) (by omega) ?_
    exact kont C1 u2 fo1 H3 L3 ls2 (Rel_up hRel (by omega)) ⟨hP6, hD6, hS3⟩ (lv_sub (l' := [(4, .int (nI (3 * k))), (0, .ref b), (1, .ref (a 0)), (2, .ref (a2 0)), (3, .ref o)]) hl2 [2, 3, 4, 5, 6] rfl)
  refine lv_iload hx hb dL_law_661 (lv_at hl2 1 rfl) ?_
  refine lv_if_ne (tgt := 678) hx hb dL_law_663 (by decide) (fun c2 => fin) (fun c2 => ?_)
  have hx0 : fo1 0 = Int32.toInt64 r2 := by rw [hr2]; exact hval (hr1.symm.trans c2)
  refine lv_aload_n hx hb dL_law_666 rfl (lv_at hl2 6 rfl) ?_
  refine lv_iconst (v := 0) hx hb dL_law_667 (by decide) ?_
  refine va_lald (D := D) hx hb hK hP6 16 2 rfl rfl (vp_in_nI (n := 0) (by decide) (by decide)) dL_law_668 ?_
  refine lv_asl (y := fo1 0) rfl ?_
  refine lv_iload hx hb dL_law_669 (lv_at hl2 0 rfl) ?_
  refine lv_i2l (v := Int32.toInt64 r2) hx hb dL_law_671 rfl ?_
  refine W.lcmp hx hb dL_law_672 ?_
  refine lv_if_eq (tgt := 678) hx hb dL_law_673 (by decide) (fun c3 => fin) (fun c3 => absurd (lg_same hx0) c3)

set_option maxHeartbeats 4000000 in
set_option maxRecDepth 100000 in
theorem cs_phase {p : Program} {l : Launch} {e : Env} {s : State} {m : MethodId} {below : List Frame} {meth : Method} {c : Code} {D : va_G} {b L : Nat} {xs : Nat → Int32} {a a2 : Nat → Nat} {cZ cI cJ cZ2 cI2 : ClassId} {o k : Nat} {C M : St} {fo : Nat → Int64} {H : Heap} {locs : List Loc} {ls : Array Slot} (F : lwF p l s m meth c D b L xs cZ cI cJ cZ2 cI2) (hk : 3 * k + 2 < L) (hR : Rel (800 * k) C M) (hV : lwV s D a a2 cZ cI cJ cZ2 cI2 o C M fo H locs) (hl : lv_has ls 7 [(4, .int (nI (3 * k))), (0, .ref b), (1, .ref (a 0)), (2, .ref (a2 0)), (3, .ref o)]) (kont : lwN p l e s m below meth c D b a a2 cZ cI cJ cZ2 cI2 o k) : W p l e room_1 s m #[Value.ref b] below meth c H locs (17 + k) (663 + 6 * k) (lw_Z below #[Value.ref b] s) (F0 m 681 ls []) := by
  obtain ⟨⟨hx, hb, hr, hml, hown, hts0, hX, hbl, hlocks, hgv⟩, hL, hfl, hNY, hZ, hK⟩ := F
  have hts : ∀ w ∈ wsL_law, w.before #[Value.ref b] s = true := fun w h => hts0 w (wsL_law_in w h)
  have hA : ∀ q : Nat, s.heap.size ≤ q → lwA s q := fun _ h => h
  have hbA : ¬ lwA s b := Nat.not_le.mpr hbl
  obtain ⟨hP, hD, hS⟩ := hV
  have hin1 : vp_in (nI (3 * k + 1)) L := vp_in_nI (by omega) (by omega)
  have hin2 : vp_in (nI (3 * k + 2)) L := vp_in_nI (by omega) (by omega)
  have hn : 800 * k < 1000000 := by omega
  have hn2 : 800 * k + 800 < 1000000 := by omega
  have hm := Rel_M hR
  have hJ := Rel_J hR
  have hPw : va_P D vwCl (wM a2 cZ2 cI2 M ++ (wPo a cZ cI o cJ C fo ++ [])) H := cvP (apN (wM a2 cZ2 cI2 M) (wPo a cZ cI o cJ C fo)).symm hP
  have hDw : va_D (lwA s) (wM a2 cZ2 cI2 M ++ (wPo a cZ cI o cJ C fo ++ [])) := cvD (apN (wM a2 cZ2 cI2 M) (wPo a cZ cI o cJ C fo)).symm hD
  have hKc := hK.sub (tys' := tyZIJ cZ cI cJ) [0, 1, 2] rfl
  have hAc : ∀ q : Nat, q ∈ adPo a o → lwA s q := adA (subD hDw) rfl
  have hPc := subP hPw
  have hDc := subD hDw
  have hKm := hK.sub (tys' := tyZI cZ2 cI2) [3, 4] rfl
  refine lv_aload_n hx hb dL_law_681 rfl (lv_at hl 2 rfl) ?_
  refine lv_aload_n hx hb dL_law_682 rfl (lv_at hl 4 rfl) ?_
  refine va_calli (vx_runSW (As := [.ref (a 0), .ref o]) (rest := []) ⟨hx, hb, hml, hown, hts⟩ (k_L_phase l hfl D a cZ cI o cJ C fo H.size) (vx_cwSW 2 hts gL_law_L_phase rfl rfl rfl (by decide +kernel) ⟨Nat.le_of_ble_eq_true rfl, Nat.le_of_ble_eq_true rfl⟩) ⟨blY, preY hPc hKc hDc hNY hZ hS (aA_free hAc hA hS)⟩ rfl rfl hl.1 rfl (lv_room (Nat.le_of_ble_eq_true rfl)) dL_law_683 ⟨by show 17 + k + 1 ≤ 1052; omega, by show 663 + 6 * k + 6 ≤ 8921; omega⟩) hS (aA_in hAc) (aA_free hAc hA hS) (fun r1 u1 t1 H1 L1 ht1 hvm1 hw1 hB1 hz1 hk1 hS1 => ?_)
  obtain ⟨hr1, hbad, hok⟩ := hw1
  obtain ⟨hP1, -, -⟩ := hB1
  rw [ht1] at hP1
  obtain ⟨C1, fo1⟩ := u1
  obtain ⟨hP2, hD2⟩ := joinW (as := adPo a o) hPw hDw rfl rfl hk1 hP1
  replace hP2 : va_P D vwCl ([] ++ (wM a2 cZ2 cI2 M ++ (wP a cZ cI C1 ++ wO o cJ fo1))) H1 := cvP (apN (wM a2 cZ2 cI2 M) (wPo a cZ cI o cJ C1 fo1)) hP2
  replace hD2 : va_D (lwA s) ([] ++ (wM a2 cZ2 cI2 M ++ (wP a cZ cI C1 ++ wO o cJ fo1))) := cvD (apN (wM a2 cZ2 cI2 M) (wPo a cZ cI o cJ C1 fo1)) hD2
  clear hPw hDw hPc hDc hP hD hk1 hP1 hz1 ht1
  refine lv_istore (lv' := [(5, .int r1), (4, .int (nI (3 * k))), (0, .ref b), (1, .ref (a 0)), (2, .ref (a2 0)), (3, .ref o)]) hx hb dL_law_686 hl (by decide) rfl (fun ls1 hl1 => ?_)
  refine lv_aload_n hx hb dL_law_688 rfl (lv_at hl1 4 rfl) ?_
  have hPm := subP hP2
  have hDm := subD hD2
  have hAm : ∀ q : Nat, q ∈ adM a2 → lwA s q := adA hDm rfl
  refine va_calli (va_runV (As := []) (rest := []) ⟨hx, hb, hml, hown, hts⟩ (k_X11_phase l D a2 cZ2 cI2 M H1.size (800 * k) (by omega) hm) (cwV 0 hts gL_law_X11_phase rfl rfl rfl (by decide +kernel) ⟨Nat.le_of_ble_eq_true rfl, Nat.le_of_ble_eq_true rfl⟩) ⟨blW okN_T, va_recv hKm hPm (ci := 11) (q0 := 0) rfl rfl, preW hPm hKm hDm okN_T trivial⟩ rfl rfl hl1.1 rfl (lv_room (Nat.le_of_ble_eq_true rfl)) dL_law_689 ⟨by show 17 + k + 1 + 0 ≤ 1052; omega, by show 663 + 6 * k + 6 + 0 ≤ 8921; omega⟩) hS1 (aA_in hAm) (aA_free hAm hA hS1) (fun r2 u2 t2 H2 L2 ht2 hvm2 hw2 hB2 hz2 hk2 hS2 => ?_)
  obtain ⟨hP3, -, -⟩ := hB2
  rw [ht2] at hP3
  obtain ⟨hP4, hD4⟩ := joinW (as := adM a2) hP2 hD2 rfl rfl hk2 hP3
  obtain ⟨hu2, hr2⟩ := hw2
  clear hP2 hD2 hPm hDm hP3 hk2 hz2 ht2
  refine lv_istore (lv' := [(6, .int r2), (5, .int r1), (4, .int (nI (3 * k))), (0, .ref b), (1, .ref (a 0)), (2, .ref (a2 0)), (3, .ref o)]) hx hb dL_law_692 hl1 (by decide) rfl (fun ls2 hl2 => ?_)
  have hans := Ans_fin (u := C1) (w := fo1 0) (q_phase (by omega) hR) hbad hok
  rw [← hu2] at hans
  obtain ⟨hth, hRel, hval⟩ := hans
  refine lv_aload_n hx hb dL_law_694 rfl (lv_at hl2 5 rfl) ?_
  have hPm := subP hP4
  have hDm := subD hD4
  refine va_calli (va_runV (As := []) (rest := []) ⟨hx, hb, hml, hown, hts⟩ (k_X11_thrown l D a2 cZ2 cI2 u2 H2.size) (cwV 0 hts gL_law_X11_thrown rfl rfl rfl (by decide +kernel) ⟨Nat.le_of_ble_eq_true rfl, Nat.le_of_ble_eq_true rfl⟩) ⟨blW okN_T, va_recv hKm hPm (ci := 11) (q0 := 0) rfl rfl, preW hPm hKm hDm okN_T trivial⟩ rfl rfl hl2.1 rfl (lv_room (Nat.le_of_ble_eq_true rfl)) dL_law_695 ⟨by show 17 + k + 1 + 0 + 0 ≤ 1052; omega, by show 663 + 6 * k + 6 + 0 + 0 ≤ 8921; omega⟩) hS2 (aA_in hAm) (aA_free hAm hA hS2) (fun r3 u3 t3 H3 L3 ht3 hvm3 hw3 hB3 hz3 hk3 hS3 => ?_)
  obtain ⟨hP5, -, -⟩ := hB3
  rw [ht3] at hP5
  obtain ⟨hP6, hD6⟩ := joinW (as := adM a2) hP4 hD4 rfl rfl hk3 hP5
  obtain ⟨hu3, hr3⟩ := hw3
  subst u3
  replace hP6 : va_P D vwCl (wM a2 cZ2 cI2 u2 ++ (wP a cZ cI C1 ++ wO o cJ fo1)) H3 := hP6
  replace hD6 : va_D (lwA s) (wM a2 cZ2 cI2 u2 ++ (wP a cZ cI C1 ++ wO o cJ fo1)) := hD6
  refine lv_iload hx hb dL_law_698 (lv_at hl2 1 rfl) ?_
  refine lv_icmp_eq (tgt := 705) hx hb dL_law_700 (by decide) (fun c1 => ?_) (fun c1 => absurd (by rw [hr3, hr1]; exact hth) c1)
  have fin : W p l e room_1 s m #[Value.ref b] below meth c H3 L3 (17 + k + 1 + 0 + 0) (663 + 6 * k + 6 + 0 + 0) (lw_Z below #[Value.ref b] s) (F0 m 722 ls2 []) := by
    refine lv_goto (tgt := 885) hx hb dL_law_722 (by decide) ?_
    refine W.widen (k := 17 + (k + 1)) (n := 663 + 6 * (k + 1)) (by omega) (by omega) ?_
    exact kont C1 u2 fo1 H3 L3 ls2 (Rel_up hRel (by omega)) ⟨hP6, hD6, hS3⟩ (lv_sub (l' := [(4, .int (nI (3 * k))), (0, .ref b), (1, .ref (a 0)), (2, .ref (a2 0)), (3, .ref o)]) hl2 [2, 3, 4, 5, 6] rfl)
  refine lv_iload hx hb dL_law_705 (lv_at hl2 1 rfl) ?_
  refine lv_if_ne (tgt := 722) hx hb dL_law_707 (by decide) (fun c2 => fin) (fun c2 => ?_)
  have hx0 : fo1 0 = Int32.toInt64 r2 := by rw [hr2]; exact hval (hr1.symm.trans c2)
  refine lv_aload_n hx hb dL_law_710 rfl (lv_at hl2 6 rfl) ?_
  refine lv_iconst (v := 0) hx hb dL_law_711 (by decide) ?_
  refine va_lald (D := D) hx hb hK hP6 16 2 rfl rfl (vp_in_nI (n := 0) (by decide) (by decide)) dL_law_712 ?_
  refine lv_asl (y := fo1 0) rfl ?_
  refine lv_iload hx hb dL_law_713 (lv_at hl2 0 rfl) ?_
  refine lv_i2l (v := Int32.toInt64 r2) hx hb dL_law_715 rfl ?_
  refine W.lcmp hx hb dL_law_716 ?_
  refine lv_if_eq (tgt := 722) hx hb dL_law_717 (by decide) (fun c3 => fin) (fun c3 => absurd (lg_same hx0) c3)

set_option maxHeartbeats 4000000 in
set_option maxRecDepth 100000 in
theorem cs_cost {p : Program} {l : Launch} {e : Env} {s : State} {m : MethodId} {below : List Frame} {meth : Method} {c : Code} {D : va_G} {b L : Nat} {xs : Nat → Int32} {a a2 : Nat → Nat} {cZ cI cJ cZ2 cI2 : ClassId} {o k : Nat} {C M : St} {fo : Nat → Int64} {H : Heap} {locs : List Loc} {ls : Array Slot} (F : lwF p l s m meth c D b L xs cZ cI cJ cZ2 cI2) (hk : 3 * k + 2 < L) (hR : Rel (800 * k) C M) (hV : lwV s D a a2 cZ cI cJ cZ2 cI2 o C M fo H locs) (hl : lv_has ls 7 [(4, .int (nI (3 * k))), (0, .ref b), (1, .ref (a 0)), (2, .ref (a2 0)), (3, .ref o)]) (kont : lwN p l e s m below meth c D b a a2 cZ cI cJ cZ2 cI2 o k) : W p l e room_1 s m #[Value.ref b] below meth c H locs (17 + k) (663 + 6 * k) (lw_Z below #[Value.ref b] s) (F0 m 829 ls []) := by
  obtain ⟨⟨hx, hb, hr, hml, hown, hts0, hX, hbl, hlocks, hgv⟩, hL, hfl, hNY, hZ, hK⟩ := F
  have hts : ∀ w ∈ wsL_law, w.before #[Value.ref b] s = true := fun w h => hts0 w (wsL_law_in w h)
  have hA : ∀ q : Nat, s.heap.size ≤ q → lwA s q := fun _ h => h
  have hbA : ¬ lwA s b := Nat.not_le.mpr hbl
  obtain ⟨hP, hD, hS⟩ := hV
  have hin1 : vp_in (nI (3 * k + 1)) L := vp_in_nI (by omega) (by omega)
  have hin2 : vp_in (nI (3 * k + 2)) L := vp_in_nI (by omega) (by omega)
  have hn : 800 * k < 1000000 := by omega
  have hn2 : 800 * k + 800 < 1000000 := by omega
  have hm := Rel_M hR
  have hJ := Rel_J hR
  obtain ⟨y1, hy1⟩ : ∃ y : Int32, y = xs (nI (3 * k + 1)).toNatClampNeg := ⟨_, rfl⟩
  have hPw : va_P D vwCl (wM a2 cZ2 cI2 M ++ (wPo a cZ cI o cJ C fo ++ [])) H := cvP (apN (wM a2 cZ2 cI2 M) (wPo a cZ cI o cJ C fo)).symm hP
  have hDw : va_D (lwA s) (wM a2 cZ2 cI2 M ++ (wPo a cZ cI o cJ C fo ++ [])) := cvD (apN (wM a2 cZ2 cI2 M) (wPo a cZ cI o cJ C fo)).symm hD
  have hKc := hK.sub (tys' := tyZIJ cZ cI cJ) [0, 1, 2] rfl
  have hAc : ∀ q : Nat, q ∈ adPo a o → lwA s q := adA (subD hDw) rfl
  have hPc := subP hPw
  have hDc := subD hDw
  have hKm := hK.sub (tys' := tyZI cZ2 cI2) [3, 4] rfl
  refine lv_aload_n hx hb dL_law_829 rfl (lv_at hl 2 rfl) ?_
  refine lv_aload_n hx hb dL_law_830 rfl (lv_at hl 1 rfl) ?_
  refine lv_iload hx hb dL_law_831 (lv_at hl 0 rfl) ?_
  refine lv_iconst (v := 1) hx hb dL_law_833 (by decide) ?_
  refine lv_iadd hx hb dL_law_834 ?_
  refine lv_asi (y := nI (3 * k + 1)) (nI_add (3 * k) 1) ?_
  refine va_sld hx hb hX hbl hbA hS hin1 dL_law_835 ?_
  refine lv_asi (y := y1) hy1.symm ?_
  refine lv_aload_n hx hb dL_law_836 rfl (lv_at hl 4 rfl) ?_
  refine va_calli (vx_runSW (As := [.ref (a 0), .int y1, .ref o]) (rest := []) ⟨hx, hb, hml, hown, hts⟩ (k_L_cost l hfl D a cZ cI o cJ C fo H.size y1) (vx_cwSW 3 hts gL_law_L_cost rfl rfl rfl (by decide +kernel) ⟨Nat.le_of_ble_eq_true rfl, Nat.le_of_ble_eq_true rfl⟩) ⟨blY, preY hPc hKc hDc hNY hZ hS (aA_free hAc hA hS)⟩ rfl rfl hl.1 rfl (lv_room (Nat.le_of_ble_eq_true rfl)) dL_law_837 ⟨by show 17 + k + 1 ≤ 1052; omega, by show 663 + 6 * k + 6 ≤ 8921; omega⟩) hS (aA_in hAc) (aA_free hAc hA hS) (fun r1 u1 t1 H1 L1 ht1 hvm1 hw1 hB1 hz1 hk1 hS1 => ?_)
  obtain ⟨hr1, hbad, hok⟩ := hw1
  obtain ⟨hP1, -, -⟩ := hB1
  rw [ht1] at hP1
  obtain ⟨C1, fo1⟩ := u1
  obtain ⟨hP2, hD2⟩ := joinW (as := adPo a o) hPw hDw rfl rfl hk1 hP1
  replace hP2 : va_P D vwCl ([] ++ (wM a2 cZ2 cI2 M ++ (wP a cZ cI C1 ++ wO o cJ fo1))) H1 := cvP (apN (wM a2 cZ2 cI2 M) (wPo a cZ cI o cJ C1 fo1)) hP2
  replace hD2 : va_D (lwA s) ([] ++ (wM a2 cZ2 cI2 M ++ (wP a cZ cI C1 ++ wO o cJ fo1))) := cvD (apN (wM a2 cZ2 cI2 M) (wPo a cZ cI o cJ C1 fo1)) hD2
  clear hPw hDw hPc hDc hP hD hk1 hP1 hz1 ht1
  refine lv_istore (lv' := [(5, .int r1), (4, .int (nI (3 * k))), (0, .ref b), (1, .ref (a 0)), (2, .ref (a2 0)), (3, .ref o)]) hx hb dL_law_840 hl (by decide) rfl (fun ls1 hl1 => ?_)
  refine lv_aload_n hx hb dL_law_842 rfl (lv_at hl1 4 rfl) ?_
  refine lv_aload_n hx hb dL_law_843 rfl (lv_at hl1 2 rfl) ?_
  refine lv_iload hx hb dL_law_844 (lv_at hl1 1 rfl) ?_
  refine lv_iconst (v := 1) hx hb dL_law_846 (by decide) ?_
  refine lv_iadd hx hb dL_law_847 ?_
  refine lv_asi (y := nI (3 * k + 1)) (nI_add (3 * k) 1) ?_
  refine va_sld hx hb hX hbl hbA hS1 hin1 dL_law_848 ?_
  refine lv_asi (y := y1) hy1.symm ?_
  have hPm := subP hP2
  have hDm := subD hD2
  have hAm : ∀ q : Nat, q ∈ adM a2 → lwA s q := adA hDm rfl
  refine va_calli (va_runV (As := [.int y1]) (rest := []) ⟨hx, hb, hml, hown, hts⟩ (k_X11_cost l D a2 cZ2 cI2 M H1.size y1 (800 * k) (by omega) hm) (cwV 1 hts gL_law_X11_cost rfl rfl rfl (by decide +kernel) ⟨Nat.le_of_ble_eq_true rfl, Nat.le_of_ble_eq_true rfl⟩) ⟨blW okN_T, va_recv hKm hPm (ci := 11) (q0 := 0) rfl rfl, preW hPm hKm hDm okN_T trivial⟩ rfl rfl hl1.1 rfl (lv_room (Nat.le_of_ble_eq_true rfl)) dL_law_849 ⟨by show 17 + k + 1 + 0 ≤ 1052; omega, by show 663 + 6 * k + 6 + 0 ≤ 8921; omega⟩) hS1 (aA_in hAm) (aA_free hAm hA hS1) (fun r2 u2 t2 H2 L2 ht2 hvm2 hw2 hB2 hz2 hk2 hS2 => ?_)
  obtain ⟨hP3, -, -⟩ := hB2
  rw [ht2] at hP3
  obtain ⟨hP4, hD4⟩ := joinW (as := adM a2) hP2 hD2 rfl rfl hk2 hP3
  obtain ⟨hu2, hr2⟩ := hw2
  clear hP2 hD2 hPm hDm hP3 hk2 hz2 ht2
  refine lv_istore (lv' := [(6, .int r2), (5, .int r1), (4, .int (nI (3 * k))), (0, .ref b), (1, .ref (a 0)), (2, .ref (a2 0)), (3, .ref o)]) hx hb dL_law_852 hl1 (by decide) rfl (fun ls2 hl2 => ?_)
  have hans := Ans_fin (u := C1) (w := fo1 0) (q_cost (by omega) hR y1) hbad hok
  rw [← hu2] at hans
  obtain ⟨hth, hRel, hval⟩ := hans
  refine lv_aload_n hx hb dL_law_854 rfl (lv_at hl2 5 rfl) ?_
  have hPm := subP hP4
  have hDm := subD hD4
  refine va_calli (va_runV (As := []) (rest := []) ⟨hx, hb, hml, hown, hts⟩ (k_X11_thrown l D a2 cZ2 cI2 u2 H2.size) (cwV 0 hts gL_law_X11_thrown rfl rfl rfl (by decide +kernel) ⟨Nat.le_of_ble_eq_true rfl, Nat.le_of_ble_eq_true rfl⟩) ⟨blW okN_T, va_recv hKm hPm (ci := 11) (q0 := 0) rfl rfl, preW hPm hKm hDm okN_T trivial⟩ rfl rfl hl2.1 rfl (lv_room (Nat.le_of_ble_eq_true rfl)) dL_law_855 ⟨by show 17 + k + 1 + 0 + 0 ≤ 1052; omega, by show 663 + 6 * k + 6 + 0 + 0 ≤ 8921; omega⟩) hS2 (aA_in hAm) (aA_free hAm hA hS2) (fun r3 u3 t3 H3 L3 ht3 hvm3 hw3 hB3 hz3 hk3 hS3 => ?_)
  obtain ⟨hP5, -, -⟩ := hB3
  rw [ht3] at hP5
  obtain ⟨hP6, hD6⟩ := joinW (as := adM a2) hP4 hD4 rfl rfl hk3 hP5
  obtain ⟨hu3, hr3⟩ := hw3
  subst u3
  replace hP6 : va_P D vwCl (wM a2 cZ2 cI2 u2 ++ (wP a cZ cI C1 ++ wO o cJ fo1)) H3 := hP6
  replace hD6 : va_D (lwA s) (wM a2 cZ2 cI2 u2 ++ (wP a cZ cI C1 ++ wO o cJ fo1)) := hD6
  refine lv_iload hx hb dL_law_858 (lv_at hl2 1 rfl) ?_
  refine lv_icmp_eq (tgt := 865) hx hb dL_law_860 (by decide) (fun c1 => ?_) (fun c1 => absurd (by rw [hr3, hr1]; exact hth) c1)
  have fin : W p l e room_1 s m #[Value.ref b] below meth c H3 L3 (17 + k + 1 + 0 + 0) (663 + 6 * k + 6 + 0 + 0) (lw_Z below #[Value.ref b] s) (F0 m 882 ls2 []) := by
    refine lv_goto (tgt := 885) hx hb dL_law_882 (by decide) ?_
    refine W.widen (k := 17 + (k + 1)) (n := 663 + 6 * (k + 1)) (by omega) (by omega) ?_
    exact kont C1 u2 fo1 H3 L3 ls2 (Rel_up hRel (by omega)) ⟨hP6, hD6, hS3⟩ (lv_sub (l' := [(4, .int (nI (3 * k))), (0, .ref b), (1, .ref (a 0)), (2, .ref (a2 0)), (3, .ref o)]) hl2 [2, 3, 4, 5, 6] rfl)
  refine lv_iload hx hb dL_law_865 (lv_at hl2 1 rfl) ?_
  refine lv_if_ne (tgt := 882) hx hb dL_law_867 (by decide) (fun c2 => fin) (fun c2 => ?_)
  have hx0 : fo1 0 = Int32.toInt64 r2 := by rw [hr2]; exact hval (hr1.symm.trans c2)
  refine lv_aload_n hx hb dL_law_870 rfl (lv_at hl2 6 rfl) ?_
  refine lv_iconst (v := 0) hx hb dL_law_871 (by decide) ?_
  refine va_lald (D := D) hx hb hK hP6 16 2 rfl rfl (vp_in_nI (n := 0) (by decide) (by decide)) dL_law_872 ?_
  refine lv_asl (y := fo1 0) rfl ?_
  refine lv_iload hx hb dL_law_873 (lv_at hl2 0 rfl) ?_
  refine lv_i2l (v := Int32.toInt64 r2) hx hb dL_law_875 rfl ?_
  refine W.lcmp hx hb dL_law_876 ?_
  refine lv_if_eq (tgt := 882) hx hb dL_law_877 (by decide) (fun c3 => fin) (fun c3 => absurd (lg_same hx0) c3)

