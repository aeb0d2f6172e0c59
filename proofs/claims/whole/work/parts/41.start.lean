theorem st_ty : ∀ j, j < 37 → defaultValue (tyX11 j) = vp_V [.int 0, .int 0, .int 0, .int 0, .long 0, .int 0, .int 0, .int 0, .int 0, .int 0, .null, .int 0, .int 0, .int 0, .int 0, .int 0, .int 0, .int 0, .int 0, .int 0, .int 0, .int 0, .int 0, .int 0, .int 0, .int 0, .int 0, .int 0, .int 0, .int 0, .null, .int 0, .int 0, .int 0, .int 0, .int 0, .int 0] j := fun j hj => match j, hj with
  | 0, _ => rfl | 1, _ => rfl | 2, _ => rfl | 3, _ => rfl | 4, _ => rfl | 5, _ => rfl | 6, _ => rfl | 7, _ => rfl | 8, _ => rfl | 9, _ => rfl | 10, _ => rfl | 11, _ => rfl | 12, _ => rfl | 13, _ => rfl | 14, _ => rfl | 15, _ => rfl | 16, _ => rfl | 17, _ => rfl | 18, _ => rfl | 19, _ => rfl | 20, _ => rfl | 21, _ => rfl | 22, _ => rfl | 23, _ => rfl | 24, _ => rfl | 25, _ => rfl | 26, _ => rfl | 27, _ => rfl | 28, _ => rfl | 29, _ => rfl | 30, _ => rfl | 31, _ => rfl | 32, _ => rfl | 33, _ => rfl | 34, _ => rfl | 35, _ => rfl | 36, _ => rfl | n + 37, h => absurd h (by omega)
set_option maxHeartbeats 4000000 in
set_option maxRecDepth 100000 in
/-- YOUR PART: from the entry, for every script of at most 1536 ints, the law comes to its end with true ('hflags': the launch's flags, for a law that throws: no stack traces) -/
theorem whole_start {p : Program} {e : Env} {s : State} {m : MethodId} {below : List Frame} {meth : Method} {c : Code} (l : Launch) (hflags : l.flags = flags0) {b L : Nat} {xs : Nat → Int32} (hL : L ≤ 1536) (C0 : lw_At p s m meth c b L xs) : W p l e room_1 s m #[Value.ref b] below meth c s.heap [] 0 0 (lw_Z below #[Value.ref b] s) (entryFrame m ([Value.ref b] : List Value).toArray 7) := by
  obtain ⟨hx, hb, hr, hml, hown, hts, hX, hbl, hlocks, hgv⟩ := id C0
  have htsL : ∀ w ∈ wsL_law, w.before #[Value.ref b] s = true := fun w h => hts w (wsL_law_in w h)
  have hfl := st_fl hflags
  have hNY := st_nY hts hgv
  have hNC := st_nC hts
  have hZ := st_xZ hts hgv
  obtain ⟨D, hK⟩ := st_K hts
  have hA : ∀ q : Nat, s.heap.size ≤ q → lwA s q := fun _ h => h
  have hS : va_S (lwA s) s.heap s.heap [] := va_S.rf
  have hP : va_P D vwCl [] s.heap := fun k q h => by simp at h
  have hD : va_D (lwA s) [] := ⟨fun i j p q h => by simp at h, fun k q h => by simp at h⟩
  have hl := lv_entry ([.ref b]) (n := 7) (Nat.le_of_ble_eq_true rfl)
  rw [lg_entry_eq]
  generalize (lg_sl ([.ref b]) ++ List.replicate (7 - (lg_sl ([.ref b])).length) Slot.unset).toArray = ls at hl ⊢
  have hl : lv_has ls 7 [(0, .ref b)] := hl
  refine va_new (ci := 10) (fs := [.null, .null, .null, .null, .null, .null, .null, .null, .null, .null]) (C := RX10) (T := TX10) (N := 10) hx hb hts inX10 tyX10 tyX10_ok hown (hts (.classLink R_law 8 RX10) (by decide +kernel)) (hts (.instantiable RX10 10) (by decide +kernel)) (hts (.initialized RX10) (by decide +kernel)) hK hP hD hS hA rfl (fun j hj => match j, hj with | 0, _ => rfl | 1, _ => rfl | 2, _ => rfl | 3, _ => rfl | 4, _ => rfl | 5, _ => rfl | 6, _ => rfl | 7, _ => rfl | 8, _ => rfl | 9, _ => rfl | n + 10, h => absurd h (by omega)) (Nat.le_of_ble_eq_true rfl) (Nat.le_of_ble_eq_true rfl) dL_law_0 (fun h0 H hP hD hS => ?_)
  replace hP : va_P D vwCl [(h0, .inr (10, [.null, .null, .null, .null, .null, .null, .null, .null, .null, .null]))] H := hP
  replace hD : va_D (lwA s) [(h0, .inr (10, [.null, .null, .null, .null, .null, .null, .null, .null, .null, .null]))] := hD
  refine lv_dup hx hb dL_law_3 rfl ?_
  have hFc := va_free (wc := [(h0, .inr (10, [.null, .null, .null, .null, .null, .null, .null, .null, .null, .null]))]) hD hS hA [0] rfl
  refine va_callv (va_runI (As := []) (rest := [.ref h0]) ⟨hx, hb, hml, hown, htsL⟩ (k_X10_init l D h0 H.size) (cwI 0 htsL gL_law_X10_init rfl rfl rfl (hts (.initialized RX10) (by decide +kernel)) (hts (.methodLink R_law 45 yX10_init) (by decide +kernel)) (hts (.instanceMethod yX10_init) (by decide +kernel)) rfl (by decide +kernel) ⟨Nat.le_of_ble_eq_true rfl, Nat.le_of_ble_eq_true rfl⟩) ⟨blW okN_C, preW hP hK hD okN_C hNC⟩ rfl rfl hl.1 rfl (lv_room (Nat.le_of_ble_eq_true rfl)) dL_law_4 ⟨Nat.le_of_ble_eq_true rfl, Nat.le_of_ble_eq_true rfl⟩) hS (fun q _ h => hFc q h) hFc (fun u t H1 L1 ht hvm hw hB hz1 hk1 hS1 => ?_)
  obtain ⟨hP1, hK1, hD1⟩ := hB
  rw [ht] at hP1
  replace hK1 := va_K.moved hvm.symm hK1
  obtain ⟨a, cZ, cI⟩ := u
  replace hw : a 0 = h0 := hw
  obtain ⟨hP2, hD2⟩ := va_join (wr := []) (w1 := wP a cZ cI st0) hP hD [0] [] rfl rfl (by decide) (by decide) hk1 hFc hP1 hD1
  replace hP2 : va_P D vwCl (wP a cZ cI st0) H1 := hP2
  replace hD2 : va_D (lwA s) (wP a cZ cI st0) := hD2
  have hK2 : va_K D vwCl [(cZ, .boolean), (cI, .int)] s := hK.app hK1
  subst hw
  clear hP hD hS hFc hP1 hD1 hK1 hk1 hz1 ht hvm hK
  refine lv_astore_n (lv' := [(1, .ref (a 0)), (0, .ref b)]) hx hb dL_law_7 rfl hl (by decide) rfl (fun ls1 hl1 => ?_)
  refine va_new (ci := 11) (fs := [.int 0, .int 0, .int 0, .int 0, .long 0, .int 0, .int 0, .int 0, .int 0, .int 0, .null, .int 0, .int 0, .int 0, .int 0, .int 0, .int 0, .int 0, .int 0, .int 0, .int 0, .int 0, .int 0, .int 0, .int 0, .int 0, .int 0, .int 0, .int 0, .int 0, .null, .int 0, .int 0, .int 0, .int 0, .int 0, .int 0]) (C := RX11) (T := TX11) (N := 37) hx hb hts inX11 tyX11 tyX11_ok hown (hts (.classLink R_law 46 RX11) (by decide +kernel)) (hts (.instantiable RX11 37) (by decide +kernel)) (hts (.initialized RX11) (by decide +kernel)) hK2 hP2 hD2 hS1 hA rfl st_ty (Nat.le_of_ble_eq_true rfl) (Nat.le_of_ble_eq_true rfl) dL_law_8 (fun q1 H2 hP3 hD3 hS2 => ?_)
  refine lv_dup hx hb dL_law_11 rfl ?_
  have hPc := hP3.sub (ws' := [(q1, .inr (11, [.int 0, .int 0, .int 0, .int 0, .long 0, .int 0, .int 0, .int 0, .int 0, .int 0, .null, .int 0, .int 0, .int 0, .int 0, .int 0, .int 0, .int 0, .int 0, .int 0, .int 0, .int 0, .int 0, .int 0, .int 0, .int 0, .int 0, .int 0, .int 0, .int 0, .null, .int 0, .int 0, .int 0, .int 0, .int 0, .int 0]))]) [13] rfl
  have hDc := hD3.sub (ws' := [(q1, .inr (11, [.int 0, .int 0, .int 0, .int 0, .long 0, .int 0, .int 0, .int 0, .int 0, .int 0, .null, .int 0, .int 0, .int 0, .int 0, .int 0, .int 0, .int 0, .int 0, .int 0, .int 0, .int 0, .int 0, .int 0, .int 0, .int 0, .int 0, .int 0, .int 0, .int 0, .null, .int 0, .int 0, .int 0, .int 0, .int 0, .int 0]))]) [13] (by decide) rfl
  have hKc := hK2.sub (tys' := []) [] rfl
  have hFc := va_free (wc := [(q1, .inr (11, [.int 0, .int 0, .int 0, .int 0, .long 0, .int 0, .int 0, .int 0, .int 0, .int 0, .null, .int 0, .int 0, .int 0, .int 0, .int 0, .int 0, .int 0, .int 0, .int 0, .int 0, .int 0, .int 0, .int 0, .int 0, .int 0, .int 0, .int 0, .int 0, .int 0, .null, .int 0, .int 0, .int 0, .int 0, .int 0, .int 0]))]) hD3 hS2 hA [13] rfl
  refine va_callv (va_runI (As := []) (rest := [.ref q1]) ⟨hx, hb, hml, hown, htsL⟩ (k_X11_init l D q1 H2.size) (cwI 0 htsL gL_law_X11_init rfl rfl rfl (hts (.initialized RX11) (by decide +kernel)) (hts (.methodLink R_law 48 yX11_init) (by decide +kernel)) (hts (.instanceMethod yX11_init) (by decide +kernel)) rfl (by decide +kernel) ⟨Nat.le_of_ble_eq_true rfl, Nat.le_of_ble_eq_true rfl⟩) ⟨blW okN_T, preW hPc hKc hDc okN_T trivial⟩ rfl rfl hl1.1 rfl (lv_room (Nat.le_of_ble_eq_true rfl)) dL_law_12 ⟨Nat.le_of_ble_eq_true rfl, Nat.le_of_ble_eq_true rfl⟩) hS2 (fun q _ h => hFc q h) hFc (fun u t H3 L3 ht hvm hw hB hz1 hk1 hS3 => ?_)
  obtain ⟨hP1, hK1, hD1⟩ := hB
  rw [ht] at hP1
  replace hK1 := va_K.moved hvm.symm hK1
  obtain ⟨r1, r2, cZ2, cI2⟩ := u
  obtain ⟨hP4, hD4⟩ := va_join (wr := wP a cZ cI st0) (w1 := [(q1, .inr (11, [.int 0, .int 0, .int 4096, .int 0, .long 1, .int 0, .int 127, .int 1, .int 65535, .int 0, .ref r1, .int 0, .int 0, .int 0, .int 0, .int 0, .int 8, .int 1, .int 0, .int 0, .int 0, .int 0, .int 0, .int 0, .int 0, .int 0, .int 0, .int 0, .int 0, .int 0, .ref r2, .int 0, .int 0, .int 0, .int 0, .int 0, .int 0])), (r1, .inl (cZ2, 256, .inl (fun _ => 0))), (r2, .inl (cI2, 32, .inl (fun _ => 0)))]) hP3 hD3 [13] [0, 1, 2, 3, 4, 5, 6, 7, 8, 9, 10, 11, 12] rfl rfl (by decide) (by decide) hk1 hFc hP1 hD1
  have hK3 : va_K D vwCl [(cZ, .boolean), (cI, .int), (cZ2, .boolean), (cI2, .int)] s := hK2.app hK1
  clear hP3 hD3 hS2 hFc hP1 hD1 hK1 hk1 hz1 ht hvm hPc hDc hKc hP2 hD2 hS1 hw
  refine lv_astore_n (lv' := [(2, .ref q1), (1, .ref (a 0)), (0, .ref b)]) hx hb dL_law_15 rfl hl1 (by decide) rfl (fun ls2 hl2 => ?_)
  refine lv_iconst (v := 1) hx hb dL_law_16 (by decide) ?_
  refine va_newa (atype := .long) (ty := .long) (N' := 1) (a0 := (1, .inr (.inl (fun _ => 0)))) hx hb (hts (.arrayClass .long) (by decide +kernel)) rfl hK3 hP4 hD4 hS3 hA (fun _ => rfl) (by decide) (by decide) (by decide) (Nat.le_of_ble_eq_true rfl) (Nat.le_of_ble_eq_true rfl) dL_law_17 (fun o cJ H5 hK5 hP5 hD5 hS5 => ?_)
  refine lv_astore_n (lv' := [(3, .ref o), (2, .ref q1), (1, .ref (a 0)), (0, .ref b)]) hx hb dL_law_19 rfl hl2 (by decide) rfl (fun ls3 hl3 => ?_)
  refine lv_iconst (v := 0) hx hb dL_law_20 (by decide) ?_
  refine lv_istore (lv' := [(4, .int 0), (3, .ref o), (2, .ref q1), (1, .ref (a 0)), (0, .ref b)]) hx hb dL_law_21 hl3 (by decide) rfl (fun ls4 hl4 => ?_)
  obtain ⟨a2, ha2⟩ : ∃ a2 : Nat → Nat, a2 = (fun k => match k with | 0 => q1 | 1 => r1 | _ => r2) := ⟨_, rfl⟩
  have hPf : va_P D vwCl (wM a2 cZ2 cI2 st0 ++ (wP a cZ cI st0 ++ wO o cJ (fun _ => 0))) H5 := by rw [ha2]; exact hP5.sub [13, 14, 15, 0, 1, 2, 3, 4, 5, 6, 7, 8, 9, 10, 11, 12, 16] rfl
  have hDf : va_D (lwA s) (wM a2 cZ2 cI2 st0 ++ (wP a cZ cI st0 ++ wO o cJ (fun _ => 0))) := by rw [ha2]; exact hD5.sub [13, 14, 15, 0, 1, 2, 3, 4, 5, 6, 7, 8, 9, 10, 11, 12, 16] (by decide) rfl
  have hKf : va_K D vwCl (lwT cZ cI cJ cZ2 cI2) s := hK5.sub [0, 1, 4, 2, 3] rfl
  have hq : a2 0 = q1 := congrFun ha2 0
  refine W.widen (k := 17 + 0) (n := 663 + 6 * 0) (by decide) (by decide) ?_
  exact law_loop ⟨C0, hL, hfl, hNY, hZ, hKf⟩ (L + 1) 0 (Nat.zero_le _) (by omega) st0 st0 (fun _ => 0) H5 _ ls4 ⟨fun _ => 0, mix_st0, Inv_st0⟩ ⟨hPf, hDf, hS5⟩ (by rw [hq]; exact lv_sub (l' := [(4, .int (nI (3 * 0))), (0, .ref b), (1, .ref (a 0)), (2, .ref q1), (3, .ref o)]) hl4 [0, 4, 3, 2, 1] rfl)
