set_option maxHeartbeats 4000000 in
set_option maxRecDepth 100000 in
/-- from the law's entry, over 56 fives, to its end, in a room of 11000 cells: at least 210 of them are made -/
theorem start9 {p : Program} {e : Env} {s : State} {m : MethodId} {below : List Frame} {meth : Method} {c : Code} (l : Launch) (hflags : l.flags = flags0) {b : Nat} {xs : Nat → Int32} (h5 : ∀ k, k < 56 → xs k = 5) (C0 : lw_At p s m meth c b 56 xs) : W p l e room_9 s m #[Value.ref b] below meth c s.heap [] 0 0 (lw_Z below #[Value.ref b] s) (entryFrame m ([Value.ref b] : List Value).toArray 6) := by
  obtain ⟨hx, hb, hr, hml, hown, hts, hX, hbl, hlocks, hgv⟩ := id C0
  have htsL : ∀ w ∈ wsL_law, w.before #[Value.ref b] s = true := fun w h => hts w (wsL_law_in w h)
  have hfl := st_fl hflags
  have hNY := st_nY hts hgv
  have hNC := st_nC hts
  have hZ := st_xZ hts hgv
  obtain ⟨D, hK⟩ := st_K hts
  have hA : ∀ q : Nat, s.heap.size ≤ q → lwA s q := fun _ h => h
  have hS : va_S (lwA s) s.heap s.heap [] := va_S.rf
  have hP : va_P D vwCl [] s.heap := fun k q h => by simp at h
  have hD : va_D (lwA s) [] := ⟨fun i j p q h => by simp at h, fun k q h => by simp at h⟩
  have hl := lv_entry ([.ref b]) (n := 6) (Nat.le_of_ble_eq_true rfl)
  rw [lg_entry_eq]
  generalize (lg_sl ([.ref b]) ++ List.replicate (6 - (lg_sl ([.ref b])).length) Slot.unset).toArray = ls at hl ⊢
  have hl : lv_has ls 6 [(0, .ref b)] := hl
  refine va_new (ci := 10) (fs := [.null, .null, .null, .null, .null, .null, .null, .null, .null, .null]) (C := RX10) (T := TX10) (N := 10) hx hb hts inX10 tyX10 tyX10_ok hown (hts (.classLink RL 9 RX10) (by decide +kernel)) (hts (.instantiable RX10 10) (by decide +kernel)) (hts (.initialized RX10) (by decide +kernel)) hK hP hD hS hA rfl (fun j hj => match j, hj with | 0, _ => rfl | 1, _ => rfl | 2, _ => rfl | 3, _ => rfl | 4, _ => rfl | 5, _ => rfl | 6, _ => rfl | 7, _ => rfl | 8, _ => rfl | 9, _ => rfl | n + 10, h => absurd h (by omega)) (Nat.le_of_ble_eq_true rfl) (Nat.le_of_ble_eq_true rfl) dL_law_0 (fun h0 H hP hD hS => ?_)
  replace hP : va_P D vwCl [(h0, .inr (10, [.null, .null, .null, .null, .null, .null, .null, .null, .null, .null]))] H := hP
  replace hD : va_D (lwA s) [(h0, .inr (10, [.null, .null, .null, .null, .null, .null, .null, .null, .null, .null]))] := hD
  refine lv_dup hx hb dL_law_3 rfl ?_
  have hFc := va_free (wc := [(h0, .inr (10, [.null, .null, .null, .null, .null, .null, .null, .null, .null, .null]))]) hD hS hA [0] rfl
  refine va_callv (va_runI (As := []) (rest := [.ref h0]) ⟨hx, hb, hml, hown, htsL⟩ (k_X10_init l D h0 H.size) (cwI 0 htsL gL_law_X10_init rfl rfl rfl (hts (.initialized RX10) (by decide +kernel)) (hts (.methodLink RL 133 yX10_init) (by decide +kernel)) (hts (.instanceMethod yX10_init) (by decide +kernel)) rfl (by decide +kernel) ⟨Nat.le_of_ble_eq_true rfl, Nat.le_of_ble_eq_true rfl⟩) ⟨blW okN_C, preW hP hK hD okN_C hNC⟩ rfl rfl hl.1 rfl (lv_room (Nat.le_of_ble_eq_true rfl)) dL_law_4 ⟨Nat.le_of_ble_eq_true rfl, Nat.le_of_ble_eq_true rfl⟩) hS (fun q _ h => hFc q h) hFc (fun u t H1 L1 ht hvm hw hB hz1 hk1 hS1 => ?_)
  obtain ⟨hP1, hK1, hD1⟩ := hB
  rw [ht] at hP1
  replace hK1 := va_K.moved hvm.symm hK1
  obtain ⟨a, cZ, cI⟩ := u
  replace hw : a 0 = h0 := hw
  obtain ⟨hP2, hD2⟩ := va_join (wr := []) (w1 := wP a cZ cI st0) hP hD [0] [] rfl rfl (by decide) (by decide) hk1 hFc hP1 hD1
  replace hP2 : va_P D vwCl (wP a cZ cI st0) H1 := hP2
  replace hD2 : va_D (lwA s) (wP a cZ cI st0) := hD2
  have hK2 : va_K D vwCl [(cZ, .boolean), (cI, .int)] s := hK.app hK1
  subst hw
  clear hP hD hS hFc hP1 hD1 hK1 hk1 hz1 ht hvm hK
  refine lv_astore_n (lv' := [(1, .ref (a 0)), (0, .ref b)]) hx hb dL_law_7 rfl hl (by decide) rfl (fun ls1 hl1 => ?_)
  refine va_new (ci := 10) (fs := [.null, .null, .null, .null, .null, .null, .null, .null, .null, .null]) (C := RX10) (T := TX10) (N := 10) hx hb hts inX10 tyX10 tyX10_ok hown (hts (.classLink RL 9 RX10) (by decide +kernel)) (hts (.instantiable RX10 10) (by decide +kernel)) (hts (.initialized RX10) (by decide +kernel)) hK2 hP2 hD2 hS1 hA rfl (fun j hj => match j, hj with | 0, _ => rfl | 1, _ => rfl | 2, _ => rfl | 3, _ => rfl | 4, _ => rfl | 5, _ => rfl | 6, _ => rfl | 7, _ => rfl | 8, _ => rfl | 9, _ => rfl | n + 10, h => absurd h (by omega)) (Nat.le_of_ble_eq_true rfl) (Nat.le_of_ble_eq_true rfl) dL_law_8 (fun q1 H2 hP3 hD3 hS2 => ?_)
  refine lv_dup hx hb dL_law_11 rfl ?_
  have hPc := hP3.sub (ws' := [(q1, .inr (10, [.null, .null, .null, .null, .null, .null, .null, .null, .null, .null]))]) [13] rfl
  have hDc := hD3.sub (ws' := [(q1, .inr (10, [.null, .null, .null, .null, .null, .null, .null, .null, .null, .null]))]) [13] (by decide) rfl
  have hKc := hK2.sub (tys' := []) [] rfl
  have hFc := va_free (wc := [(q1, .inr (10, [.null, .null, .null, .null, .null, .null, .null, .null, .null, .null]))]) hD3 hS2 hA [13] rfl
  refine va_callv (va_runI (As := []) (rest := [.ref q1]) ⟨hx, hb, hml, hown, htsL⟩ (k_X10_init l D q1 H2.size) (cwI 0 htsL gL_law_X10_init rfl rfl rfl (hts (.initialized RX10) (by decide +kernel)) (hts (.methodLink RL 133 yX10_init) (by decide +kernel)) (hts (.instanceMethod yX10_init) (by decide +kernel)) rfl (by decide +kernel) ⟨Nat.le_of_ble_eq_true rfl, Nat.le_of_ble_eq_true rfl⟩) ⟨blW okN_C, preW hPc hKc hDc okN_C hNC⟩ rfl rfl hl1.1 rfl (lv_room (Nat.le_of_ble_eq_true rfl)) dL_law_12 ⟨Nat.le_of_ble_eq_true rfl, Nat.le_of_ble_eq_true rfl⟩) hS2 (fun q _ h => hFc q h) hFc (fun u t H3 L3 ht hvm hw hB hz1 hk1 hS3 => ?_)
  obtain ⟨hP1, hK1, hD1⟩ := hB
  rw [ht] at hP1
  replace hK1 := va_K.moved hvm.symm hK1
  obtain ⟨b2, cZ2, cI2⟩ := u
  replace hw : b2 0 = q1 := hw
  obtain ⟨hP4, hD4⟩ := va_join (wr := wP a cZ cI st0) (w1 := wP b2 cZ2 cI2 st0) hP3 hD3 [13] [0, 1, 2, 3, 4, 5, 6, 7, 8, 9, 10, 11, 12] rfl rfl (by decide) (by decide) hk1 hFc hP1 hD1
  have hK3 : va_K D vwCl [(cZ, .boolean), (cI, .int), (cZ2, .boolean), (cI2, .int)] s := hK2.app hK1
  subst hw
  clear hP3 hD3 hS2 hFc hP1 hD1 hK1 hk1 hz1 ht hvm hPc hDc hKc hP2 hD2 hS1
  refine lv_astore_n (lv' := [(2, .ref (b2 0)), (1, .ref (a 0)), (0, .ref b)]) hx hb dL_law_15 rfl hl1 (by decide) rfl (fun ls2 hl2 => ?_)
  refine lv_iconst (v := 0) hx hb dL_law_16 (by decide) ?_
  refine lv_istore_n (lv' := [(3, .int 0), (2, .ref (b2 0)), (1, .ref (a 0)), (0, .ref b)]) hx hb dL_law_17 rfl hl2 (by decide) rfl (fun ls3 hl3 => ?_)
  refine W.widen (k := 26 + 190 * 0) (n := 674 + 1200 * 0) (by decide) (by decide) ?_
  exact law9_loop ⟨C0, h5, hfl, hNY, hZ, hK3, hD4⟩ 56 0 rfl H3 _ ls3 hP4 hS3 hS3.1 hl3
