def v_X11_strobes_1 (S : St) (p0 : Int32) : Int32 := r_X11_levelNow S
def v_X11_strobes_2 (S : St) (p0 : Int32) : Int32 := r_X11_size S (v_X11_strobes_1 S p0)
def v_X11_strobes_3 (S : St) (p0 : Int32) : Int32 := (S.1 20) - (v_X11_strobes_2 S p0)
def s_X11_strobes_4 (S : St) (p0 : Int32) : St := s_X11_measures S (v_X11_strobes_3 S p0)
def s_X11_strobes_5 (S : St) (p0 : Int32) : St := if 16384 ≤ p0 then S else if (S.1 11) < 16384 then S else if (S.1 15) = 4 then (s_X11_strobes_4 S p0) else S
def s_X11_strobes_6 (S : St) (p0 : Int32) : St := si (s_X11_strobes_5 S p0) 21 ((s_X11_strobes_5 S p0).1 7)
def v_X11_strobes_7 (S : St) (p0 : Int32) : Int32 := r_X11_levelNow (s_X11_strobes_6 S p0)
def s_X11_strobes_8 (S : St) (p0 : Int32) : St := si (s_X11_strobes_6 S p0) 22 (v_X11_strobes_7 S p0)
def s_X11_strobes_9 (S : St) (p0 : Int32) : St := if 32768 ≤ p0 then (s_X11_strobes_5 S p0) else if ((s_X11_strobes_5 S p0).1 11) < 32768 then (s_X11_strobes_5 S p0) else (s_X11_strobes_8 S p0)
def v_X11_strobes_10 (S : St) (p0 : Int32) : Int32 := r_X11_levelNow (s_X11_strobes_9 S p0)
def v_X11_strobes_11 (S : St) (p0 : Int32) : Int32 := r_X11_size (s_X11_strobes_9 S p0) (v_X11_strobes_10 S p0)
def s_X11_strobes_12 (S : St) (p0 : Int32) : St := si (s_X11_strobes_9 S p0) 20 (v_X11_strobes_11 S p0)
def s_X11_strobes_13 (S : St) (p0 : Int32) : St := if 49152 ≤ p0 then (s_X11_strobes_9 S p0) else if ((s_X11_strobes_9 S p0).1 11) < 49152 then (s_X11_strobes_9 S p0) else (s_X11_strobes_12 S p0)
def v_X11_strobes_14 (S : St) (p0 : Int32) : Int32 := ((s_X11_strobes_13 S p0).1 11) - 65536
def s_X11_strobes_15 (S : St) (p0 : Int32) : St := si (s_X11_strobes_13 S p0) 11 (v_X11_strobes_14 S p0)
def s_X11_strobes_16 (S : St) (p0 : Int32) : St := s_X11_receives (s_X11_strobes_15 S p0)
def s_X11_strobes_17 (S : St) (p0 : Int32) : St := if ((s_X11_strobes_13 S p0).1 11) < 65536 then (s_X11_strobes_13 S p0) else (s_X11_strobes_16 S p0)
def s_X11_strobes (S : St) (p0 : Int32) : St := (s_X11_strobes_17 S p0)
def rm_X11_strobes : Room := { frames := 3, cells := 0, slots := 0, locals := 65 }
theorem st5 {S : St} {p0 : Int32} {k : Nat} (h : k = 3 ∨ k = 9 ∨ k = 24) : (s_X11_strobes_5 S p0).1 k = S.1 k := by
  rcases h with rfl | rfl | rfl <;> (unfold s_X11_strobes_5; (repeat' split) <;> rfl)
theorem st9 {S : St} {p0 : Int32} {k : Nat} (h : k = 3 ∨ k = 9 ∨ k = 24) : (s_X11_strobes_9 S p0).1 k = (s_X11_strobes_5 S p0).1 k := by
  rcases h with rfl | rfl | rfl <;> (unfold s_X11_strobes_9; (repeat' split) <;> rfl)
theorem st13 {S : St} {p0 : Int32} {k : Nat} (h : k = 3 ∨ k = 9 ∨ k = 24) : (s_X11_strobes_13 S p0).1 k = (s_X11_strobes_9 S p0).1 k := by
  rcases h with rfl | rfl | rfl <;> (unfold s_X11_strobes_13; (repeat' split) <;> rfl)
theorem okM_strobes {n : Nat} {S : St} {p0 : Int32} (h : okM n S) : okM n (s_X11_strobes_15 S p0) := by
  have q : ∀ k, (k = 3 ∨ k = 9 ∨ k = 24) → (s_X11_strobes_13 S p0).1 k = S.1 k := fun k hk => (st13 hk).trans ((st9 hk).trans (st5 hk))
  exact okM_of h (q 3 (by decide)) (q 9 (by decide)) (q 24 (by decide))
set_option maxRecDepth 100000 in
set_option maxHeartbeats 4000000 in
theorem k_X11_strobes (l : Launch) (D : va_G) (a : Nat → Nat) (cZ cI : ClassId) (S : St) (sz : Nat) (p0 : Int32) (n : Nat) (hn : n < 2000000) (hm : okM n S) : Met l yX11_strobes wsX11_strobes rm_X11_strobes (va_Pc [.ref (a 0), .int p0] (pW D (tyZI cZ cI) (wM a cZ cI S) sz nT)) (va_Qv (fun u : St => u = s_X11_strobes S p0) (fun u t => oW D (tyZI cZ cI) (wM a cZ cI u) (aA (adM a) sz) t) (aA (adM a) sz)) 0 0 (aA (adM a) sz) := by
  refine Met.ofW (cc := cX11_strobes) (maxL := 2) (ret := none) (by decide +kernel) rfl ?_
  intro p e s m args below meth c s₁ B hml hv
  obtain ⟨rfl, hsz, hP0, hK, hD9, hN⟩ := hv
  have hx := B.exec
  have hb := B.bytes
  have hr := B.returns
  have hts := atoms_spec (ws := wsX11_strobes) B.pre
  have hown : s.vm.findClass RX11 = some m.cls := findClass_of_methodNamed B.named
  have hlocks := B.notSynchronized
  subst hsz
  have hD0 := aA_self (sz := s.heap.size) (as := adM a) hD9 rfl
  generalize hAe : aA (adM a) s.heap.size = A at hD0 ⊢
  have hA : ∀ q : Nat, s.heap.size ≤ q → A q := fun q h => by rw [← hAe]; exact Or.inr h
  have hAc : ∀ q : Nat, q ∈ adM a → A q := fun q h => by rw [← hAe]; exact Or.inl h
  have hS0 : va_S A s.heap s.heap [] := va_S.rf
  have hl0 := lv_entry ([.ref (a 0), .int p0]) (n := 2) (Nat.le_of_ble_eq_true rfl)
  rw [lg_entry_eq]
  generalize (lg_sl ([.ref (a 0), .int p0]) ++ List.replicate (2 - (lg_sl ([.ref (a 0), .int p0])).length) Slot.unset).toArray = ls0 at hl0 ⊢
  have hl0 : lv_has ls0 2 [(0, .ref (a 0)), (1, .int p0)] := hl0
  generalize hQ : MQ below _ _ s _ _ _ = Q
  clear hD9 B
  refine lv_iload_n hx hb dX11_strobes_0 rfl (lv_at hl0 1 rfl) ?_
  refine lv_sipush (v := 16384) hx hb dX11_strobes_1 (by decide) ?_
  have J1_4 : ∀ (H4 : Heap) (L4 : List Loc), va_P D vwCl (wM a cZ cI (s_X11_strobes_5 S p0)) H4 → va_D A (wM a cZ cI (s_X11_strobes_5 S p0)) → va_S A s.heap H4 L4 → W p l e (headSpec wsX11_strobes rm_X11_strobes).room s m ([.ref (a 0), .int p0] : List Value).toArray below meth c H4 L4 0 0 Q (F0 m 41 ls0 []) := by
    intro H4 L4 hP4 hD4 hS4
    clear hP0 hD0 hS0
    refine lv_iload_n hx hb dX11_strobes_41 rfl (lv_at hl0 1 rfl) ?_
    refine lv_ldc (v := 32768) hx hb hown (hts (.constant RX11 133 (32768)) (List.mem_cons_of_mem _ (List.mem_append_left _ (List.mem_append_left _ (List.mem_of_getElem? (i := 3) rfl))))) dX11_strobes_42 ?_
    have J2_44 : ∀ (H8 : Heap) (L8 : List Loc), va_P D vwCl (wM a cZ cI (s_X11_strobes_9 S p0)) H8 → va_D A (wM a cZ cI (s_X11_strobes_9 S p0)) → va_S A s.heap H8 L8 → W p l e (headSpec wsX11_strobes rm_X11_strobes).room s m ([.ref (a 0), .int p0] : List Value).toArray below meth c H8 L8 0 0 Q (F0 m 72 ls0 []) := by
      intro H8 L8 hP8 hD8 hS8
      clear hP4 hD4 hS4
      refine lv_iload_n hx hb dX11_strobes_72 rfl (lv_at hl0 1 rfl) ?_
      refine lv_ldc (v := 49152) hx hb hown (hts (.constant RX11 169 (49152)) (List.mem_cons_of_mem _ (List.mem_append_left _ (List.mem_append_left _ (List.mem_of_getElem? (i := 7) rfl))))) dX11_strobes_73 ?_
      have J3_75 : ∀ (H12 : Heap) (L12 : List Loc), va_P D vwCl (wM a cZ cI (s_X11_strobes_13 S p0)) H12 → va_D A (wM a cZ cI (s_X11_strobes_13 S p0)) → va_S A s.heap H12 L12 → W p l e (headSpec wsX11_strobes rm_X11_strobes).room s m ([.ref (a 0), .int p0] : List Value).toArray below meth c H12 L12 0 0 Q (F0 m 98 ls0 []) := by
        intro H12 L12 hP12 hD12 hS12
        clear hP8 hD8 hS8
        refine lv_aload_n hx hb dX11_strobes_98 rfl (lv_at hl0 0 rfl) ?_
        refine va_get (D := D) (ci := 11) (v := .int ((s_X11_strobes_13 S p0).1 11)) (C := RX11) (T := TX11) (N := 37) hx hb hts (fun _ h => List.mem_cons_of_mem _ (List.mem_append_right _ (h))) hown hK hP12 0 rfl rfl 11 (by decide) (hts (.fieldLink RX11 58 "PhaselockModel" "phase" "I") (List.mem_cons_of_mem _ (List.mem_append_left _ (List.mem_append_left _ (List.mem_of_getElem? (i := 0) rfl))))) (fun _ h9 => h9) rfl dX11_strobes_99 ?_
        refine lv_ldc (v := 65536) hx hb hown (hts (.constant RX11 89 (65536)) (List.mem_cons_of_mem _ (List.mem_append_left _ (List.mem_append_left _ (List.mem_of_getElem? (i := 8) rfl))))) dX11_strobes_102 ?_
        have J4_104 : ∀ (H15 : Heap) (L15 : List Loc), va_P D vwCl (wM a cZ cI (s_X11_strobes_17 S p0)) H15 → va_D A (wM a cZ cI (s_X11_strobes_17 S p0)) → va_S A s.heap H15 L15 → W p l e (headSpec wsX11_strobes rm_X11_strobes).room s m ([.ref (a 0), .int p0] : List Value).toArray below meth c H15 L15 0 0 Q (F0 m 122 ls0 []) := by
          intro H15 L15 hP15 hD15 hS15
          clear hP12 hD12 hS12
          subst hQ; exact W.vret hx hb hr (fun t ht hW => ⟨⟨(s_X11_strobes_17 S p0), rfl, (show (s_X11_strobes_17 S p0) = s_X11_strobes S p0 from rfl), endW hP15 hK hD15 ht hW⟩, hS15.F ht⟩) hS15.2.2 dX11_strobes_122
        refine lv_icmp_lt (tgt := 122) hx hb dX11_strobes_104 (by decide) (fun c8_104 => ?_) (fun c8_104 => ?_)
        · exact J4_104 _ _ (va_asS (P := fun u => va_P D vwCl (wM a cZ cI u) H12) (show (s_X11_strobes_17 S p0) = (s_X11_strobes_13 S p0) from (if_pos c8_104)) hP12) (va_asS (P := fun u => va_D A (wM a cZ cI u)) (show (s_X11_strobes_17 S p0) = (s_X11_strobes_13 S p0) from (if_pos c8_104)) hD12) hS12
        · refine lv_aload_n hx hb dX11_strobes_107 rfl (lv_at hl0 0 rfl) ?_
          refine lv_dup hx hb dX11_strobes_108 rfl ?_
          refine va_get (D := D) (ci := 11) (v := .int ((s_X11_strobes_13 S p0).1 11)) (C := RX11) (T := TX11) (N := 37) hx hb hts (fun _ h => List.mem_cons_of_mem _ (List.mem_append_right _ (h))) hown hK hP12 0 rfl rfl 11 (by decide) (hts (.fieldLink RX11 58 "PhaselockModel" "phase" "I") (List.mem_cons_of_mem _ (List.mem_append_left _ (List.mem_append_left _ (List.mem_of_getElem? (i := 0) rfl))))) (fun _ h9 => h9) rfl dX11_strobes_109 ?_
          refine lv_ldc (v := 65536) hx hb hown (hts (.constant RX11 89 (65536)) (List.mem_cons_of_mem _ (List.mem_append_left _ (List.mem_append_left _ (List.mem_of_getElem? (i := 8) rfl))))) dX11_strobes_112 ?_
          refine lv_isub hx hb dX11_strobes_114 ?_
          refine lv_asi (y := (v_X11_strobes_14 S p0)) rfl ?_
          refine va_put (D := D) (ci := 11) (v := .int (v_X11_strobes_14 S p0)) (ty := .int) (C := RX11) (T := TX11) (N := 37) hx hb hts (fun _ h => List.mem_cons_of_mem _ (List.mem_append_right _ (h))) tyX11 tyX11_ok nmX11 hown hK hP12 hD12 hS12 0 rfl rfl 11 (by decide) (hts (.fieldLink RX11 58 "PhaselockModel" "phase" "I") (List.mem_cons_of_mem _ (List.mem_append_left _ (List.mem_append_left _ (List.mem_of_getElem? (i := 0) rfl))))) (fun _ h9 => h9) rfl (by decide +kernel) rfl rfl (Nat.le_of_ble_eq_true rfl) dX11_strobes_115 (fun H13 L13 hP13 hD13 hS13 => ?_)
          replace hP13 : va_P D vwCl (wM a cZ cI (s_X11_strobes_15 S p0)) H13 := cvP (wM_s11 a cZ cI (s_X11_strobes_13 S p0) (v_X11_strobes_14 S p0)) hP13
          replace hD13 : va_D A (wM a cZ cI (s_X11_strobes_15 S p0)) := cvD (wM_s11 a cZ cI (s_X11_strobes_13 S p0) (v_X11_strobes_14 S p0)) hD13
          clear hP12 hD12 hS12
          refine lv_aload_n hx hb dX11_strobes_118 rfl (lv_at hl0 0 rfl) ?_
          refine va_callv (va_runV (As := []) (rest := []) ⟨hx, hb, hml, hown, hts⟩ (k_X11_receives l D a cZ cI (s_X11_strobes_15 S p0) H13.size n hn (okM_strobes hm)) (cwV 0 hts gX11_strobes_X11_receives rfl rfl rfl (by decide +kernel) ⟨Nat.le_of_ble_eq_true rfl, Nat.le_of_ble_eq_true rfl⟩) ⟨blW okN_T, va_recv hK hP13 (ci := 11) (q0 := 0) rfl rfl, preW hP13 hK hD13 okN_T hN⟩ rfl rfl hl0.1 rfl (lv_room (Nat.le_of_ble_eq_true rfl)) dX11_strobes_119 ⟨Nat.zero_le _, Nat.zero_le _⟩) hS13 (aA_in hAc) (aA_free hAc hA hS13) (fun u14 t14 H14 L14 ht14 hvm14 hw14 hB14 _ _ hS14 => ?_)
          obtain ⟨hP14, hD14⟩ := backW hB14 ht14 (aA_free hAc hA hS13)
          clear hB14 ht14 hvm14 t14
          have hu14 : u14 = _ := hw14
          clear hw14; subst u14
          replace hP14 : va_P D vwCl (wM a cZ cI (s_X11_strobes_16 S p0)) H14 := hP14
          replace hD14 : va_D A (wM a cZ cI (s_X11_strobes_16 S p0)) := hD14
          clear hP13 hD13 hS13
          exact J4_104 _ _ (va_asS (P := fun u => va_P D vwCl (wM a cZ cI u) H14) (show (s_X11_strobes_17 S p0) = (s_X11_strobes_16 S p0) from (if_neg c8_104)) hP14) (va_asS (P := fun u => va_D A (wM a cZ cI u)) (show (s_X11_strobes_17 S p0) = (s_X11_strobes_16 S p0) from (if_neg c8_104)) hD14) hS14
      refine lv_icmp_ge (tgt := 98) hx hb dX11_strobes_75 (by decide) (fun c6_75 => ?_) (fun c6_75 => ?_)
      · exact J3_75 _ _ (va_asS (P := fun u => va_P D vwCl (wM a cZ cI u) H8) (show (s_X11_strobes_13 S p0) = (s_X11_strobes_9 S p0) from (if_pos c6_75)) hP8) (va_asS (P := fun u => va_D A (wM a cZ cI u)) (show (s_X11_strobes_13 S p0) = (s_X11_strobes_9 S p0) from (if_pos c6_75)) hD8) hS8
      · refine lv_aload_n hx hb dX11_strobes_78 rfl (lv_at hl0 0 rfl) ?_
        refine va_get (D := D) (ci := 11) (v := .int ((s_X11_strobes_9 S p0).1 11)) (C := RX11) (T := TX11) (N := 37) hx hb hts (fun _ h => List.mem_cons_of_mem _ (List.mem_append_right _ (h))) hown hK hP8 0 rfl rfl 11 (by decide) (hts (.fieldLink RX11 58 "PhaselockModel" "phase" "I") (List.mem_cons_of_mem _ (List.mem_append_left _ (List.mem_append_left _ (List.mem_of_getElem? (i := 0) rfl))))) (fun _ h9 => h9) rfl dX11_strobes_79 ?_
        refine lv_ldc (v := 49152) hx hb hown (hts (.constant RX11 169 (49152)) (List.mem_cons_of_mem _ (List.mem_append_left _ (List.mem_append_left _ (List.mem_of_getElem? (i := 7) rfl))))) dX11_strobes_82 ?_
        refine lv_icmp_lt (tgt := 98) hx hb dX11_strobes_84 (by decide) (fun c7_84 => ?_) (fun c7_84 => ?_)
        · exact J3_75 _ _ (va_asS (P := fun u => va_P D vwCl (wM a cZ cI u) H8) (show (s_X11_strobes_13 S p0) = (s_X11_strobes_9 S p0) from ((if_neg c6_75).trans (if_pos c7_84))) hP8) (va_asS (P := fun u => va_D A (wM a cZ cI u)) (show (s_X11_strobes_13 S p0) = (s_X11_strobes_9 S p0) from ((if_neg c6_75).trans (if_pos c7_84))) hD8) hS8
        · refine lv_aload_n hx hb dX11_strobes_87 rfl (lv_at hl0 0 rfl) ?_
          refine lv_aload_n hx hb dX11_strobes_88 rfl (lv_at hl0 0 rfl) ?_
          refine va_calli (va_runV (As := []) (rest := [.ref (a 0)]) ⟨hx, hb, hml, hown, hts⟩ (k_X11_levelNow l D a cZ cI (s_X11_strobes_9 S p0) H8.size) (cwV 0 hts gX11_strobes_X11_levelNow rfl rfl rfl (by decide +kernel) ⟨Nat.le_of_ble_eq_true rfl, Nat.le_of_ble_eq_true rfl⟩) ⟨blW okN_T, va_recv hK hP8 (ci := 11) (q0 := 0) rfl rfl, preW hP8 hK hD8 okN_T hN⟩ rfl rfl hl0.1 rfl (lv_room (Nat.le_of_ble_eq_true rfl)) dX11_strobes_89 ⟨Nat.zero_le _, Nat.zero_le _⟩) hS8 (aA_in hAc) (aA_free hAc hA hS8) (fun r9 u9 t9 H9 L9 ht9 hvm9 hw9 hB9 _ _ hS9 => ?_)
          obtain ⟨hP9, hD9⟩ := backW hB9 ht9 (aA_free hAc hA hS8)
          clear hB9 ht9 hvm9 t9
          obtain ⟨hu9, hr9⟩ := hw9
          subst u9; subst r9
          clear hP8 hD8 hS8
          refine lv_asi (y := (v_X11_strobes_10 S p0)) rfl ?_
          refine va_calli (va_runS (As := [.int (v_X11_strobes_10 S p0)]) (rest := [.ref (a 0)]) ⟨hx, hb, hml, hown, hts⟩ (k_X11_size l D a cZ cI (s_X11_strobes_9 S p0) H9.size (v_X11_strobes_10 S p0)) (va_cwS 1 hts gX11_strobes_X11_size rfl rfl rfl (by decide +kernel) ⟨Nat.le_of_ble_eq_true rfl, Nat.le_of_ble_eq_true rfl⟩) ⟨blW okN_T, preW hP9 hK hD9 okN_T hN⟩ rfl rfl hl0.1 rfl (lv_room (Nat.le_of_ble_eq_true rfl)) dX11_strobes_92 ⟨Nat.zero_le _, Nat.zero_le _⟩) hS9 (aA_in hAc) (aA_free hAc hA hS9) (fun r10 u10 t10 H10 L10 ht10 hvm10 hw10 hB10 _ _ hS10 => ?_)
          obtain ⟨hP10, hD10⟩ := backW hB10 ht10 (aA_free hAc hA hS9)
          clear hB10 ht10 hvm10 t10
          obtain ⟨hu10, hr10⟩ := hw10
          subst u10; subst r10
          clear hP9 hD9 hS9
          refine lv_asi (y := (v_X11_strobes_11 S p0)) rfl ?_
          refine va_put (D := D) (ci := 11) (v := .int (v_X11_strobes_11 S p0)) (ty := .int) (C := RX11) (T := TX11) (N := 37) hx hb hts (fun _ h => List.mem_cons_of_mem _ (List.mem_append_right _ (h))) tyX11 tyX11_ok nmX11 hown hK hP10 hD10 hS10 0 rfl rfl 20 (by decide) (hts (.fieldLink RX11 162 "PhaselockModel" "earlyValue" "I") (List.mem_cons_of_mem _ (List.mem_append_left _ (List.mem_append_left _ (List.mem_of_getElem? (i := 2) rfl))))) (fun _ h9 => h9) rfl (by decide +kernel) rfl rfl (Nat.le_of_ble_eq_true rfl) dX11_strobes_95 (fun H11 L11 hP11 hD11 hS11 => ?_)
          replace hP11 : va_P D vwCl (wM a cZ cI (s_X11_strobes_12 S p0)) H11 := cvP (wM_s20 a cZ cI (s_X11_strobes_9 S p0) (v_X11_strobes_11 S p0)) hP11
          replace hD11 : va_D A (wM a cZ cI (s_X11_strobes_12 S p0)) := cvD (wM_s20 a cZ cI (s_X11_strobes_9 S p0) (v_X11_strobes_11 S p0)) hD11
          clear hP10 hD10 hS10
          exact J3_75 _ _ (va_asS (P := fun u => va_P D vwCl (wM a cZ cI u) H11) (show (s_X11_strobes_13 S p0) = (s_X11_strobes_12 S p0) from ((if_neg c6_75).trans (if_neg c7_84))) hP11) (va_asS (P := fun u => va_D A (wM a cZ cI u)) (show (s_X11_strobes_13 S p0) = (s_X11_strobes_12 S p0) from ((if_neg c6_75).trans (if_neg c7_84))) hD11) hS11
    refine lv_icmp_ge (tgt := 72) hx hb dX11_strobes_44 (by decide) (fun c4_44 => ?_) (fun c4_44 => ?_)
    · exact J2_44 _ _ (va_asS (P := fun u => va_P D vwCl (wM a cZ cI u) H4) (show (s_X11_strobes_9 S p0) = (s_X11_strobes_5 S p0) from (if_pos c4_44)) hP4) (va_asS (P := fun u => va_D A (wM a cZ cI u)) (show (s_X11_strobes_9 S p0) = (s_X11_strobes_5 S p0) from (if_pos c4_44)) hD4) hS4
    · refine lv_aload_n hx hb dX11_strobes_47 rfl (lv_at hl0 0 rfl) ?_
      refine va_get (D := D) (ci := 11) (v := .int ((s_X11_strobes_5 S p0).1 11)) (C := RX11) (T := TX11) (N := 37) hx hb hts (fun _ h => List.mem_cons_of_mem _ (List.mem_append_right _ (h))) hown hK hP4 0 rfl rfl 11 (by decide) (hts (.fieldLink RX11 58 "PhaselockModel" "phase" "I") (List.mem_cons_of_mem _ (List.mem_append_left _ (List.mem_append_left _ (List.mem_of_getElem? (i := 0) rfl))))) (fun _ h9 => h9) rfl dX11_strobes_48 ?_
      refine lv_ldc (v := 32768) hx hb hown (hts (.constant RX11 133 (32768)) (List.mem_cons_of_mem _ (List.mem_append_left _ (List.mem_append_left _ (List.mem_of_getElem? (i := 3) rfl))))) dX11_strobes_51 ?_
      refine lv_icmp_lt (tgt := 72) hx hb dX11_strobes_53 (by decide) (fun c5_53 => ?_) (fun c5_53 => ?_)
      · exact J2_44 _ _ (va_asS (P := fun u => va_P D vwCl (wM a cZ cI u) H4) (show (s_X11_strobes_9 S p0) = (s_X11_strobes_5 S p0) from ((if_neg c4_44).trans (if_pos c5_53))) hP4) (va_asS (P := fun u => va_D A (wM a cZ cI u)) (show (s_X11_strobes_9 S p0) = (s_X11_strobes_5 S p0) from ((if_neg c4_44).trans (if_pos c5_53))) hD4) hS4
      · refine lv_aload_n hx hb dX11_strobes_56 rfl (lv_at hl0 0 rfl) ?_
        refine lv_aload_n hx hb dX11_strobes_57 rfl (lv_at hl0 0 rfl) ?_
        refine va_get (D := D) (ci := 11) (v := .int ((s_X11_strobes_5 S p0).1 7)) (C := RX11) (T := TX11) (N := 37) hx hb hts (fun _ h => List.mem_cons_of_mem _ (List.mem_append_right _ (h))) hown hK hP4 0 rfl rfl 7 (by decide) (hts (.fieldLink RX11 20 "PhaselockModel" "value" "I") (List.mem_cons_of_mem _ (List.mem_append_left _ (List.mem_append_left _ (List.mem_of_getElem? (i := 4) rfl))))) (fun _ h9 => h9) rfl dX11_strobes_58 ?_
        refine va_put (D := D) (ci := 11) (v := .int ((s_X11_strobes_5 S p0).1 7)) (ty := .int) (C := RX11) (T := TX11) (N := 37) hx hb hts (fun _ h => List.mem_cons_of_mem _ (List.mem_append_right _ (h))) tyX11 tyX11_ok nmX11 hown hK hP4 hD4 hS4 0 rfl rfl 21 (by decide) (hts (.fieldLink RX11 102 "PhaselockModel" "middleValue" "I") (List.mem_cons_of_mem _ (List.mem_append_left _ (List.mem_append_left _ (List.mem_of_getElem? (i := 5) rfl))))) (fun _ h9 => h9) rfl (by decide +kernel) rfl rfl (Nat.le_of_ble_eq_true rfl) dX11_strobes_61 (fun H5 L5 hP5 hD5 hS5 => ?_)
        replace hP5 : va_P D vwCl (wM a cZ cI (s_X11_strobes_6 S p0)) H5 := cvP (wM_s21 a cZ cI (s_X11_strobes_5 S p0) ((s_X11_strobes_5 S p0).1 7)) hP5
        replace hD5 : va_D A (wM a cZ cI (s_X11_strobes_6 S p0)) := cvD (wM_s21 a cZ cI (s_X11_strobes_5 S p0) ((s_X11_strobes_5 S p0).1 7)) hD5
        clear hP4 hD4 hS4
        refine lv_aload_n hx hb dX11_strobes_64 rfl (lv_at hl0 0 rfl) ?_
        refine lv_aload_n hx hb dX11_strobes_65 rfl (lv_at hl0 0 rfl) ?_
        refine va_calli (va_runV (As := []) (rest := [.ref (a 0)]) ⟨hx, hb, hml, hown, hts⟩ (k_X11_levelNow l D a cZ cI (s_X11_strobes_6 S p0) H5.size) (cwV 0 hts gX11_strobes_X11_levelNow rfl rfl rfl (by decide +kernel) ⟨Nat.le_of_ble_eq_true rfl, Nat.le_of_ble_eq_true rfl⟩) ⟨blW okN_T, va_recv hK hP5 (ci := 11) (q0 := 0) rfl rfl, preW hP5 hK hD5 okN_T hN⟩ rfl rfl hl0.1 rfl (lv_room (Nat.le_of_ble_eq_true rfl)) dX11_strobes_66 ⟨Nat.zero_le _, Nat.zero_le _⟩) hS5 (aA_in hAc) (aA_free hAc hA hS5) (fun r6 u6 t6 H6 L6 ht6 hvm6 hw6 hB6 _ _ hS6 => ?_)
        obtain ⟨hP6, hD6⟩ := backW hB6 ht6 (aA_free hAc hA hS5)
        clear hB6 ht6 hvm6 t6
        obtain ⟨hu6, hr6⟩ := hw6
        subst u6; subst r6
        clear hP5 hD5 hS5
        refine lv_asi (y := (v_X11_strobes_7 S p0)) rfl ?_
        refine va_put (D := D) (ci := 11) (v := .int (v_X11_strobes_7 S p0)) (ty := .int) (C := RX11) (T := TX11) (N := 37) hx hb hts (fun _ h => List.mem_cons_of_mem _ (List.mem_append_right _ (h))) tyX11 tyX11_ok nmX11 hown hK hP6 hD6 hS6 0 rfl rfl 22 (by decide) (hts (.fieldLink RX11 111 "PhaselockModel" "middleLevel" "I") (List.mem_cons_of_mem _ (List.mem_append_left _ (List.mem_append_left _ (List.mem_of_getElem? (i := 6) rfl))))) (fun _ h9 => h9) rfl (by decide +kernel) rfl rfl (Nat.le_of_ble_eq_true rfl) dX11_strobes_69 (fun H7 L7 hP7 hD7 hS7 => ?_)
        replace hP7 : va_P D vwCl (wM a cZ cI (s_X11_strobes_8 S p0)) H7 := cvP (wM_s22 a cZ cI (s_X11_strobes_6 S p0) (v_X11_strobes_7 S p0)) hP7
        replace hD7 : va_D A (wM a cZ cI (s_X11_strobes_8 S p0)) := cvD (wM_s22 a cZ cI (s_X11_strobes_6 S p0) (v_X11_strobes_7 S p0)) hD7
        clear hP6 hD6 hS6
        exact J2_44 _ _ (va_asS (P := fun u => va_P D vwCl (wM a cZ cI u) H7) (show (s_X11_strobes_9 S p0) = (s_X11_strobes_8 S p0) from ((if_neg c4_44).trans (if_neg c5_53))) hP7) (va_asS (P := fun u => va_D A (wM a cZ cI u)) (show (s_X11_strobes_9 S p0) = (s_X11_strobes_8 S p0) from ((if_neg c4_44).trans (if_neg c5_53))) hD7) hS7
  refine lv_icmp_ge (tgt := 41) hx hb dX11_strobes_4 (by decide) (fun c1_4 => ?_) (fun c1_4 => ?_)
  · exact J1_4 _ _ (va_asS (P := fun u => va_P D vwCl (wM a cZ cI u) s.heap) (show (s_X11_strobes_5 S p0) = S from (if_pos c1_4)) hP0) (va_asS (P := fun u => va_D A (wM a cZ cI u)) (show (s_X11_strobes_5 S p0) = S from (if_pos c1_4)) hD0) hS0
  · refine lv_aload_n hx hb dX11_strobes_7 rfl (lv_at hl0 0 rfl) ?_
    refine va_get (D := D) (ci := 11) (v := .int (S.1 11)) (C := RX11) (T := TX11) (N := 37) hx hb hts (fun _ h => List.mem_cons_of_mem _ (List.mem_append_right _ (h))) hown hK hP0 0 rfl rfl 11 (by decide) (hts (.fieldLink RX11 58 "PhaselockModel" "phase" "I") (List.mem_cons_of_mem _ (List.mem_append_left _ (List.mem_append_left _ (List.mem_of_getElem? (i := 0) rfl))))) (fun _ h9 => h9) rfl dX11_strobes_8 ?_
    refine lv_sipush (v := 16384) hx hb dX11_strobes_11 (by decide) ?_
    refine lv_icmp_lt (tgt := 41) hx hb dX11_strobes_14 (by decide) (fun c2_14 => ?_) (fun c2_14 => ?_)
    · exact J1_4 _ _ (va_asS (P := fun u => va_P D vwCl (wM a cZ cI u) s.heap) (show (s_X11_strobes_5 S p0) = S from ((if_neg c1_4).trans (if_pos c2_14))) hP0) (va_asS (P := fun u => va_D A (wM a cZ cI u)) (show (s_X11_strobes_5 S p0) = S from ((if_neg c1_4).trans (if_pos c2_14))) hD0) hS0
    · refine lv_aload_n hx hb dX11_strobes_17 rfl (lv_at hl0 0 rfl) ?_
      refine va_get (D := D) (ci := 11) (v := .int (S.1 15)) (C := RX11) (T := TX11) (N := 37) hx hb hts (fun _ h => List.mem_cons_of_mem _ (List.mem_append_right _ (h))) hown hK hP0 0 rfl rfl 15 (by decide) (hts (.fieldLink RX11 55 "PhaselockModel" "detector" "I") (List.mem_cons_of_mem _ (List.mem_append_left _ (List.mem_append_left _ (List.mem_of_getElem? (i := 1) rfl))))) (fun _ h9 => h9) rfl dX11_strobes_18 ?_
      refine lv_iconst (v := 4) hx hb dX11_strobes_21 (by decide) ?_
      refine lv_icmp_ne (tgt := 41) hx hb dX11_strobes_22 (by decide) (fun c3_22 => ?_) (fun c3_22 => ?_)
      · exact J1_4 _ _ (va_asS (P := fun u => va_P D vwCl (wM a cZ cI u) s.heap) (show (s_X11_strobes_5 S p0) = S from ((if_neg c1_4).trans ((if_neg c2_14).trans (if_neg c3_22)))) hP0) (va_asS (P := fun u => va_D A (wM a cZ cI u)) (show (s_X11_strobes_5 S p0) = S from ((if_neg c1_4).trans ((if_neg c2_14).trans (if_neg c3_22)))) hD0) hS0
      · refine lv_aload_n hx hb dX11_strobes_25 rfl (lv_at hl0 0 rfl) ?_
        refine lv_aload_n hx hb dX11_strobes_26 rfl (lv_at hl0 0 rfl) ?_
        refine va_get (D := D) (ci := 11) (v := .int (S.1 20)) (C := RX11) (T := TX11) (N := 37) hx hb hts (fun _ h => List.mem_cons_of_mem _ (List.mem_append_right _ (h))) hown hK hP0 0 rfl rfl 20 (by decide) (hts (.fieldLink RX11 162 "PhaselockModel" "earlyValue" "I") (List.mem_cons_of_mem _ (List.mem_append_left _ (List.mem_append_left _ (List.mem_of_getElem? (i := 2) rfl))))) (fun _ h9 => h9) rfl dX11_strobes_27 ?_
        refine lv_aload_n hx hb dX11_strobes_30 rfl (lv_at hl0 0 rfl) ?_
        refine va_calli (va_runV (As := []) (rest := [.int (S.1 20), .ref (a 0)]) ⟨hx, hb, hml, hown, hts⟩ (k_X11_levelNow l D a cZ cI S s.heap.size) (cwV 0 hts gX11_strobes_X11_levelNow rfl rfl rfl (by decide +kernel) ⟨Nat.le_of_ble_eq_true rfl, Nat.le_of_ble_eq_true rfl⟩) ⟨blW okN_T, va_recv hK hP0 (ci := 11) (q0 := 0) rfl rfl, preW hP0 hK hD0 okN_T hN⟩ rfl rfl hl0.1 rfl (lv_room (Nat.le_of_ble_eq_true rfl)) dX11_strobes_31 ⟨Nat.zero_le _, Nat.zero_le _⟩) hS0 (aA_in hAc) (aA_free hAc hA hS0) (fun r1 u1 t1 H1 L1 ht1 hvm1 hw1 hB1 _ _ hS1 => ?_)
        obtain ⟨hP1, hD1⟩ := backW hB1 ht1 (aA_free hAc hA hS0)
        clear hB1 ht1 hvm1 t1
        obtain ⟨hu1, hr1⟩ := hw1
        subst u1; subst r1
        clear hP0 hD0 hS0
        refine lv_asi (y := (v_X11_strobes_1 S p0)) rfl ?_
        refine va_calli (va_runS (As := [.int (v_X11_strobes_1 S p0)]) (rest := [.int (S.1 20), .ref (a 0)]) ⟨hx, hb, hml, hown, hts⟩ (k_X11_size l D a cZ cI S H1.size (v_X11_strobes_1 S p0)) (va_cwS 1 hts gX11_strobes_X11_size rfl rfl rfl (by decide +kernel) ⟨Nat.le_of_ble_eq_true rfl, Nat.le_of_ble_eq_true rfl⟩) ⟨blW okN_T, preW hP1 hK hD1 okN_T hN⟩ rfl rfl hl0.1 rfl (lv_room (Nat.le_of_ble_eq_true rfl)) dX11_strobes_34 ⟨Nat.zero_le _, Nat.zero_le _⟩) hS1 (aA_in hAc) (aA_free hAc hA hS1) (fun r2 u2 t2 H2 L2 ht2 hvm2 hw2 hB2 _ _ hS2 => ?_)
        obtain ⟨hP2, hD2⟩ := backW hB2 ht2 (aA_free hAc hA hS1)
        clear hB2 ht2 hvm2 t2
        obtain ⟨hu2, hr2⟩ := hw2
        subst u2; subst r2
        clear hP1 hD1 hS1
        refine lv_asi (y := (v_X11_strobes_2 S p0)) rfl ?_
        refine lv_isub hx hb dX11_strobes_37 ?_
        refine lv_asi (y := (v_X11_strobes_3 S p0)) rfl ?_
        refine va_callv (va_runV (As := [.int (v_X11_strobes_3 S p0)]) (rest := []) ⟨hx, hb, hml, hown, hts⟩ (k_X11_measures l D a cZ cI S H2.size (v_X11_strobes_3 S p0)) (cwV 1 hts gX11_strobes_X11_measures rfl rfl rfl (by decide +kernel) ⟨Nat.le_of_ble_eq_true rfl, Nat.le_of_ble_eq_true rfl⟩) ⟨blW okN_T, va_recv hK hP2 (ci := 11) (q0 := 0) rfl rfl, preW hP2 hK hD2 okN_T hN⟩ rfl rfl hl0.1 rfl (lv_room (Nat.le_of_ble_eq_true rfl)) dX11_strobes_38 ⟨Nat.zero_le _, Nat.zero_le _⟩) hS2 (aA_in hAc) (aA_free hAc hA hS2) (fun u3 t3 H3 L3 ht3 hvm3 hw3 hB3 _ _ hS3 => ?_)
        obtain ⟨hP3, hD3⟩ := backW hB3 ht3 (aA_free hAc hA hS2)
        clear hB3 ht3 hvm3 t3
        have hu3 : u3 = _ := hw3
        clear hw3; subst u3
        replace hP3 : va_P D vwCl (wM a cZ cI (s_X11_strobes_4 S p0)) H3 := hP3
        replace hD3 : va_D A (wM a cZ cI (s_X11_strobes_4 S p0)) := hD3
        clear hP2 hD2 hS2
        exact J1_4 _ _ (va_asS (P := fun u => va_P D vwCl (wM a cZ cI u) H3) (show (s_X11_strobes_5 S p0) = (s_X11_strobes_4 S p0) from ((if_neg c1_4).trans ((if_neg c2_14).trans (if_pos c3_22)))) hP3) (va_asS (P := fun u => va_D A (wM a cZ cI u)) (show (s_X11_strobes_5 S p0) = (s_X11_strobes_4 S p0) from ((if_neg c1_4).trans ((if_neg c2_14).trans (if_pos c3_22)))) hD3) hS3

def v_X11_transmits_1 (S : St) : Int64 := 1103515245 * (S.2.1)
def v_X11_transmits_2 (S : St) : Int64 := (v_X11_transmits_1 S) + 12345
def v_X11_transmits_3 (S : St) : Int64 := (v_X11_transmits_2 S) - (v_X11_transmits_2 S) / 2147483648 * 2147483648
def s_X11_transmits_4 (S : St) : St := sr S (v_X11_transmits_3 S)
def v_X11_transmits_5 (S : St) : Int64 := ((s_X11_transmits_4 S).2.1) / 65536
def v_X11_transmits_6 (S : St) : Int32 := 2 * ((s_X11_transmits_4 S).1 3)
def v_X11_transmits_7 (S : St) : Int32 := (v_X11_transmits_6 S) + 1
def v_X11_transmits_8 (S : St) : Int64 := Int32.toInt64 (v_X11_transmits_7 S)
def v_X11_transmits_9 (S : St) : Int64 := (v_X11_transmits_5 S) - (v_X11_transmits_5 S) / (v_X11_transmits_8 S) * (v_X11_transmits_8 S)
def v_X11_transmits_10 (S : St) : Int32 := Int64.toInt32 (v_X11_transmits_9 S)
def v_X11_transmits_11 (S : St) : Int32 := (v_X11_transmits_10 S) - ((s_X11_transmits_4 S).1 3)
def s_X11_transmits_12 (S : St) : St := if (S.1 3) = 0 then S else (s_X11_transmits_4 S)
def v_X11_transmits_13 (S : St) : Int32 := if (S.1 3) = 0 then 0 else (v_X11_transmits_11 S)
def v_X11_transmits_14 (S : St) : Int32 := ((s_X11_transmits_12 S).1 2) + (v_X11_transmits_13 S)
def v_X11_transmits_15 (S : St) : Int32 := ((s_X11_transmits_12 S).1 1) + (v_X11_transmits_14 S)
def s_X11_transmits_16 (S : St) : St := si (s_X11_transmits_12 S) 1 (v_X11_transmits_15 S)
def v_X11_transmits_17 (S : St) : Int32 := ((s_X11_transmits_16 S).1 1) - 65536
def s_X11_transmits_18 (S : St) : St := si (s_X11_transmits_16 S) 1 (v_X11_transmits_17 S)
def s_X11_transmits_19 (S : St) : St := s_X11_sends (s_X11_transmits_18 S)
def s_X11_transmits_20 (S : St) : St := if ((s_X11_transmits_16 S).1 1) < 65536 then (s_X11_transmits_16 S) else (s_X11_transmits_19 S)
def v_X11_transmits_21 (S : St) : Int32 := ((s_X11_transmits_20 S).1 9) + 1
def s_X11_transmits_22 (S : St) : St := si (s_X11_transmits_20 S) 9 (v_X11_transmits_21 S)
def v_X11_transmits_23 (S : St) : Int32 := ((s_X11_transmits_22 S).1 8) <<< (1 &&& 31)
def v_X11_transmits_24 (S : St) : Int32 := (v_X11_transmits_23 S) &&& 65535
def v_X11_transmits_25 (S : St) : Int32 := (v_X11_transmits_24 S) ||| ((s_X11_transmits_22 S).1 7)
def s_X11_transmits_26 (S : St) : St := si (s_X11_transmits_22 S) 8 (v_X11_transmits_25 S)
def v_X11_transmits_27 (S : St) : Int32 := ((s_X11_transmits_26 S).1 9) - ((s_X11_transmits_26 S).1 9) / 256 * 256
def v_X11_transmits_28 (S : St) : Int32 := ((s_X11_transmits_26 S).1 8) &&& 1
def v_X11_transmits_29 (S : St) : Int32 := ((s_X11_transmits_26 S).1 8) >>> (1 &&& 31)
def v_X11_transmits_30 (S : St) : Int32 := (v_X11_transmits_29 S) &&& 1
def v_X11_transmits_31 (S : St) : Int32 := if (v_X11_transmits_28 S) = (v_X11_transmits_30 S) then 0 else 1
def s_X11_transmits_32 (S : St) : St := sg (s_X11_transmits_26 S) ((v_X11_transmits_27 S)).toNatClampNeg (vp_nar .boolean (v_X11_transmits_31 S))
def s_X11_transmits (S : St) : St := (s_X11_transmits_32 S)
def rm_X11_transmits : Room := { frames := 1, cells := 0, slots := 0, locals := 21 }
theorem sd_k {S : St} {k : Nat} (h : k = 3 ∨ k = 9 ∨ k = 24) : (s_X11_sends S).1 k = S.1 k := by
  rcases h with rfl | rfl | rfl <;> (show (s_X11_sends_17 S).1 _ = _; unfold s_X11_sends_17; (repeat' split) <;> rfl)
theorem tr12 {S : St} {k : Nat} (h : k = 3 ∨ k = 9 ∨ k = 24) : (s_X11_transmits_12 S).1 k = S.1 k := by
  unfold s_X11_transmits_12; (repeat' split) <;> rfl
theorem tr20 {S : St} {k : Nat} (h : k = 3 ∨ k = 9 ∨ k = 24) : (s_X11_transmits_20 S).1 k = S.1 k := by
  have e : (s_X11_transmits_16 S).1 k = S.1 k := by
    show (si (s_X11_transmits_12 S) 1 (v_X11_transmits_15 S)).1 k = S.1 k
    rw [si_ne (by omega)]
    exact tr12 h
  unfold s_X11_transmits_20
  split
  · exact e
  · show (s_X11_sends (s_X11_transmits_18 S)).1 k = S.1 k
    rw [sd_k h, ← e]
    show (si (s_X11_transmits_16 S) 1 (v_X11_transmits_17 S)).1 k = (s_X11_transmits_16 S).1 k
    exact si_ne (by omega)
theorem tr_tk {S : St} : (s_X11_transmits_26 S).1 9 = S.1 9 + 1 := by
  show (s_X11_transmits_20 S).1 9 + 1 = _
  rw [tr20 (Or.inr (Or.inl rfl))]
theorem tr_in {n : Nat} {S : St} (hn : n < 1000000) (hm : okM n S) : vp_in (v_X11_transmits_27 S) 256 :=
  irem_in (n := tk S + 1) (m := 256) (by rw [tr_tk, hm.2.1.1, nI_1]) rfl (by have := hm.2.1.2; omega) (by decide) (by decide)
set_option maxRecDepth 100000 in
set_option maxHeartbeats 4000000 in
theorem k_X11_transmits (l : Launch) (D : va_G) (a : Nat → Nat) (cZ cI : ClassId) (S : St) (sz : Nat) (n : Nat) (hn : n < 1000000) (hm : okM n S) : Met l yX11_transmits wsX11_transmits rm_X11_transmits (va_Pc [.ref (a 0)] (pW D (tyZI cZ cI) (wM a cZ cI S) sz nT)) (va_Qv (fun u : St => u = s_X11_transmits S) (fun u t => oW D (tyZI cZ cI) (wM a cZ cI u) (aA (adM a) sz) t) (aA (adM a) sz)) 0 0 (aA (adM a) sz) := by
  refine Met.ofW (cc := cX11_transmits) (maxL := 2) (ret := none) (by decide +kernel) rfl ?_
  intro p e s m args below meth c s₁ B hml hv
  obtain ⟨rfl, hsz, hP0, hK, hD9, hN⟩ := hv
  have hx := B.exec
  have hb := B.bytes
  have hr := B.returns
  have hts := atoms_spec (ws := wsX11_transmits) B.pre
  have hown : s.vm.findClass RX11 = some m.cls := findClass_of_methodNamed B.named
  have hlocks := B.notSynchronized
  subst hsz
  have hD0 := aA_self (sz := s.heap.size) (as := adM a) hD9 rfl
  generalize hAe : aA (adM a) s.heap.size = A at hD0 ⊢
  have hA : ∀ q : Nat, s.heap.size ≤ q → A q := fun q h => by rw [← hAe]; exact Or.inr h
  have hAc : ∀ q : Nat, q ∈ adM a → A q := fun q h => by rw [← hAe]; exact Or.inl h
  have hS0 : va_S A s.heap s.heap [] := va_S.rf
  have hl0 := lv_entry ([.ref (a 0)]) (n := 2) (Nat.le_of_ble_eq_true rfl)
  rw [lg_entry_eq]
  generalize (lg_sl ([.ref (a 0)]) ++ List.replicate (2 - (lg_sl ([.ref (a 0)])).length) Slot.unset).toArray = ls0 at hl0 ⊢
  have hl0 : lv_has ls0 2 [(0, .ref (a 0))] := hl0
  generalize hQ : MQ below _ _ s _ _ _ = Q
  clear hD9 B
  refine lv_iconst (v := 0) hx hb dX11_transmits_0 (by decide) ?_
  refine lv_istore_n (lv' := [(1, .int 0), (0, .ref (a 0))]) hx hb dX11_transmits_1 rfl hl0 (by decide) rfl (fun ls1 hl1 => ?_)
  clear hl0
  refine lv_aload_n hx hb dX11_transmits_2 rfl (lv_at hl1 1 rfl) ?_
  refine va_get (D := D) (ci := 11) (v := .int (S.1 3)) (C := RX11) (T := TX11) (N := 37) hx hb hts (fun _ h => List.mem_cons_of_mem _ (List.mem_append_right _ (h))) hown hK hP0 0 rfl rfl 3 (by decide) (hts (.fieldLink RX11 52 "PhaselockModel" "jitter" "I") (List.mem_cons_of_mem _ (List.mem_append_left _ (List.mem_of_getElem? (i := 0) rfl)))) (fun _ h9 => h9) rfl dX11_transmits_3 ?_
  have J1_6 : ∀ (H2 : Heap) (L2 : List Loc), va_P D vwCl (wM a cZ cI (s_X11_transmits_12 S)) H2 → va_D A (wM a cZ cI (s_X11_transmits_12 S)) → va_S A s.heap H2 L2 → ∀ ls3 : Array Slot, lv_has ls3 2 [(1, .int (v_X11_transmits_13 S)), (0, .ref (a 0))] → W p l e (headSpec wsX11_transmits rm_X11_transmits).room s m ([.ref (a 0)] : List Value).toArray below meth c H2 L2 0 0 Q (F0 m 54 ls3 []) := by
    intro H2 L2 hP2 hD2 hS2 ls3 hl3
    clear hP0 hD0 hS0
    clear hl1
    refine lv_aload_n hx hb dX11_transmits_54 rfl (lv_at hl3 1 rfl) ?_
    refine lv_dup hx hb dX11_transmits_55 rfl ?_
    refine va_get (D := D) (ci := 11) (v := .int ((s_X11_transmits_12 S).1 1)) (C := RX11) (T := TX11) (N := 37) hx hb hts (fun _ h => List.mem_cons_of_mem _ (List.mem_append_right _ (h))) hown hK hP2 0 rfl rfl 1 (by decide) (hts (.fieldLink RX11 86 "PhaselockModel" "senderPhase" "I") (List.mem_cons_of_mem _ (List.mem_append_left _ (List.mem_of_getElem? (i := 6) rfl)))) (fun _ h9 => h9) rfl dX11_transmits_56 ?_
    refine lv_aload_n hx hb dX11_transmits_59 rfl (lv_at hl3 1 rfl) ?_
    refine va_get (D := D) (ci := 11) (v := .int ((s_X11_transmits_12 S).1 2)) (C := RX11) (T := TX11) (N := 37) hx hb hts (fun _ h => List.mem_cons_of_mem _ (List.mem_append_right _ (h))) hown hK hP2 0 rfl rfl 2 (by decide) (hts (.fieldLink RX11 9 "PhaselockModel" "step" "I") (List.mem_cons_of_mem _ (List.mem_append_left _ (List.mem_of_getElem? (i := 7) rfl)))) (fun _ h9 => h9) rfl dX11_transmits_60 ?_
    refine lv_iload_n hx hb dX11_transmits_63 rfl (lv_at hl3 0 rfl) ?_
    refine lv_iadd hx hb dX11_transmits_64 ?_
    refine lv_asi (y := (v_X11_transmits_14 S)) rfl ?_
    refine lv_iadd hx hb dX11_transmits_65 ?_
    refine lv_asi (y := (v_X11_transmits_15 S)) rfl ?_
    refine va_put (D := D) (ci := 11) (v := .int (v_X11_transmits_15 S)) (ty := .int) (C := RX11) (T := TX11) (N := 37) hx hb hts (fun _ h => List.mem_cons_of_mem _ (List.mem_append_right _ (h))) tyX11 tyX11_ok nmX11 hown hK hP2 hD2 hS2 0 rfl rfl 1 (by decide) (hts (.fieldLink RX11 86 "PhaselockModel" "senderPhase" "I") (List.mem_cons_of_mem _ (List.mem_append_left _ (List.mem_of_getElem? (i := 6) rfl)))) (fun _ h9 => h9) rfl (by decide +kernel) rfl rfl (Nat.le_of_ble_eq_true rfl) dX11_transmits_66 (fun H3 L3 hP3 hD3 hS3 => ?_)
    replace hP3 : va_P D vwCl (wM a cZ cI (s_X11_transmits_16 S)) H3 := cvP (wM_s1 a cZ cI (s_X11_transmits_12 S) (v_X11_transmits_15 S)) hP3
    replace hD3 : va_D A (wM a cZ cI (s_X11_transmits_16 S)) := cvD (wM_s1 a cZ cI (s_X11_transmits_12 S) (v_X11_transmits_15 S)) hD3
    clear hP2 hD2 hS2
    refine lv_aload_n hx hb dX11_transmits_69 rfl (lv_at hl3 1 rfl) ?_
    refine va_get (D := D) (ci := 11) (v := .int ((s_X11_transmits_16 S).1 1)) (C := RX11) (T := TX11) (N := 37) hx hb hts (fun _ h => List.mem_cons_of_mem _ (List.mem_append_right _ (h))) hown hK hP3 0 rfl rfl 1 (by decide) (hts (.fieldLink RX11 86 "PhaselockModel" "senderPhase" "I") (List.mem_cons_of_mem _ (List.mem_append_left _ (List.mem_of_getElem? (i := 6) rfl)))) (fun _ h9 => h9) rfl dX11_transmits_70 ?_
    refine lv_ldc (v := 65536) hx hb hown (hts (.constant RX11 89 (65536)) (List.mem_cons_of_mem _ (List.mem_append_left _ (List.mem_of_getElem? (i := 8) rfl)))) dX11_transmits_73 ?_
    have J2_75 : ∀ (H6 : Heap) (L6 : List Loc), va_P D vwCl (wM a cZ cI (s_X11_transmits_20 S)) H6 → va_D A (wM a cZ cI (s_X11_transmits_20 S)) → va_S A s.heap H6 L6 → W p l e (headSpec wsX11_transmits rm_X11_transmits).room s m ([.ref (a 0)] : List Value).toArray below meth c H6 L6 0 0 Q (F0 m 93 ls3 []) := by
      intro H6 L6 hP6 hD6 hS6
      clear hP3 hD3 hS3
      refine lv_aload_n hx hb dX11_transmits_93 rfl (lv_at hl3 1 rfl) ?_
      refine lv_dup hx hb dX11_transmits_94 rfl ?_
      refine va_get (D := D) (ci := 11) (v := .int ((s_X11_transmits_20 S).1 9)) (C := RX11) (T := TX11) (N := 37) hx hb hts (fun _ h => List.mem_cons_of_mem _ (List.mem_append_right _ (h))) hown hK hP6 0 rfl rfl 9 (by decide) (hts (.fieldLink RX11 93 "PhaselockModel" "ticks" "I") (List.mem_cons_of_mem _ (List.mem_append_left _ (List.mem_of_getElem? (i := 9) rfl)))) (fun _ h9 => h9) rfl dX11_transmits_95 ?_
      refine lv_iconst (v := 1) hx hb dX11_transmits_98 (by decide) ?_
      refine lv_iadd hx hb dX11_transmits_99 ?_
      refine lv_asi (y := (v_X11_transmits_21 S)) rfl ?_
      refine va_put (D := D) (ci := 11) (v := .int (v_X11_transmits_21 S)) (ty := .int) (C := RX11) (T := TX11) (N := 37) hx hb hts (fun _ h => List.mem_cons_of_mem _ (List.mem_append_right _ (h))) tyX11 tyX11_ok nmX11 hown hK hP6 hD6 hS6 0 rfl rfl 9 (by decide) (hts (.fieldLink RX11 93 "PhaselockModel" "ticks" "I") (List.mem_cons_of_mem _ (List.mem_append_left _ (List.mem_of_getElem? (i := 9) rfl)))) (fun _ h9 => h9) rfl (by decide +kernel) rfl rfl (Nat.le_of_ble_eq_true rfl) dX11_transmits_100 (fun H7 L7 hP7 hD7 hS7 => ?_)
      replace hP7 : va_P D vwCl (wM a cZ cI (s_X11_transmits_22 S)) H7 := cvP (wM_s9 a cZ cI (s_X11_transmits_20 S) (v_X11_transmits_21 S)) hP7
      replace hD7 : va_D A (wM a cZ cI (s_X11_transmits_22 S)) := cvD (wM_s9 a cZ cI (s_X11_transmits_20 S) (v_X11_transmits_21 S)) hD7
      clear hP6 hD6 hS6
      refine lv_aload_n hx hb dX11_transmits_103 rfl (lv_at hl3 1 rfl) ?_
      refine lv_aload_n hx hb dX11_transmits_104 rfl (lv_at hl3 1 rfl) ?_
      refine va_get (D := D) (ci := 11) (v := .int ((s_X11_transmits_22 S).1 8)) (C := RX11) (T := TX11) (N := 37) hx hb hts (fun _ h => List.mem_cons_of_mem _ (List.mem_append_right _ (h))) hown hK hP7 0 rfl rfl 8 (by decide) (hts (.fieldLink RX11 24 "PhaselockModel" "memory" "I") (List.mem_cons_of_mem _ (List.mem_append_left _ (List.mem_of_getElem? (i := 10) rfl)))) (fun _ h9 => h9) rfl dX11_transmits_105 ?_
      refine lv_iconst (v := 1) hx hb dX11_transmits_108 (by decide) ?_
      refine lv_ishl hx hb dX11_transmits_109 ?_
      refine lv_asi (y := (v_X11_transmits_23 S)) rfl ?_
      refine lv_ldc (v := 65535) hx hb hown (hts (.constant RX11 23 (65535)) (List.mem_cons_of_mem _ (List.mem_append_left _ (List.mem_of_getElem? (i := 11) rfl)))) dX11_transmits_110 ?_
      refine lv_iand hx hb dX11_transmits_112 ?_
      refine lv_asi (y := (v_X11_transmits_24 S)) rfl ?_
      refine lv_aload_n hx hb dX11_transmits_113 rfl (lv_at hl3 1 rfl) ?_
      refine va_get (D := D) (ci := 11) (v := .int ((s_X11_transmits_22 S).1 7)) (C := RX11) (T := TX11) (N := 37) hx hb hts (fun _ h => List.mem_cons_of_mem _ (List.mem_append_right _ (h))) hown hK hP7 0 rfl rfl 7 (by decide) (hts (.fieldLink RX11 20 "PhaselockModel" "value" "I") (List.mem_cons_of_mem _ (List.mem_append_left _ (List.mem_of_getElem? (i := 12) rfl)))) (fun _ h9 => h9) rfl dX11_transmits_114 ?_
      refine lv_ior hx hb dX11_transmits_117 ?_
      refine lv_asi (y := (v_X11_transmits_25 S)) rfl ?_
      refine va_put (D := D) (ci := 11) (v := .int (v_X11_transmits_25 S)) (ty := .int) (C := RX11) (T := TX11) (N := 37) hx hb hts (fun _ h => List.mem_cons_of_mem _ (List.mem_append_right _ (h))) tyX11 tyX11_ok nmX11 hown hK hP7 hD7 hS7 0 rfl rfl 8 (by decide) (hts (.fieldLink RX11 24 "PhaselockModel" "memory" "I") (List.mem_cons_of_mem _ (List.mem_append_left _ (List.mem_of_getElem? (i := 10) rfl)))) (fun _ h9 => h9) rfl (by decide +kernel) rfl rfl (Nat.le_of_ble_eq_true rfl) dX11_transmits_118 (fun H8 L8 hP8 hD8 hS8 => ?_)
      replace hP8 : va_P D vwCl (wM a cZ cI (s_X11_transmits_26 S)) H8 := cvP (wM_s8 a cZ cI (s_X11_transmits_22 S) (v_X11_transmits_25 S)) hP8
      replace hD8 : va_D A (wM a cZ cI (s_X11_transmits_26 S)) := cvD (wM_s8 a cZ cI (s_X11_transmits_22 S) (v_X11_transmits_25 S)) hD8
      clear hP7 hD7 hS7
      refine lv_aload_n hx hb dX11_transmits_121 rfl (lv_at hl3 1 rfl) ?_
      refine va_get (D := D) (ci := 11) (v := .ref (a 1)) (C := RX11) (T := TX11) (N := 37) hx hb hts (fun _ h => List.mem_cons_of_mem _ (List.mem_append_right _ (h))) hown hK hP8 0 rfl rfl 10 (by decide) (hts (.fieldLink RX11 27 "PhaselockModel" "areEdges" "[Z") (List.mem_cons_of_mem _ (List.mem_append_left _ (List.mem_of_getElem? (i := 13) rfl)))) (fun _ h9 => h9) rfl dX11_transmits_122 ?_
      refine lv_aload_n hx hb dX11_transmits_125 rfl (lv_at hl3 1 rfl) ?_
      refine va_get (D := D) (ci := 11) (v := .int ((s_X11_transmits_26 S).1 9)) (C := RX11) (T := TX11) (N := 37) hx hb hts (fun _ h => List.mem_cons_of_mem _ (List.mem_append_right _ (h))) hown hK hP8 0 rfl rfl 9 (by decide) (hts (.fieldLink RX11 93 "PhaselockModel" "ticks" "I") (List.mem_cons_of_mem _ (List.mem_append_left _ (List.mem_of_getElem? (i := 9) rfl)))) (fun _ h9 => h9) rfl dX11_transmits_126 ?_
      refine lv_sipush (v := 256) hx hb dX11_transmits_129 (by decide) ?_
      refine lv_irem hx hb dX11_transmits_132 (by decide) ?_
      refine lv_asi (y := (v_X11_transmits_27 S)) rfl ?_
      refine lv_aload_n hx hb dX11_transmits_133 rfl (lv_at hl3 1 rfl) ?_
      refine va_get (D := D) (ci := 11) (v := .int ((s_X11_transmits_26 S).1 8)) (C := RX11) (T := TX11) (N := 37) hx hb hts (fun _ h => List.mem_cons_of_mem _ (List.mem_append_right _ (h))) hown hK hP8 0 rfl rfl 8 (by decide) (hts (.fieldLink RX11 24 "PhaselockModel" "memory" "I") (List.mem_cons_of_mem _ (List.mem_append_left _ (List.mem_of_getElem? (i := 10) rfl)))) (fun _ h9 => h9) rfl dX11_transmits_134 ?_
      refine lv_iconst (v := 1) hx hb dX11_transmits_137 (by decide) ?_
      refine lv_iand hx hb dX11_transmits_138 ?_
      refine lv_asi (y := (v_X11_transmits_28 S)) rfl ?_
      refine lv_aload_n hx hb dX11_transmits_139 rfl (lv_at hl3 1 rfl) ?_
      refine va_get (D := D) (ci := 11) (v := .int ((s_X11_transmits_26 S).1 8)) (C := RX11) (T := TX11) (N := 37) hx hb hts (fun _ h => List.mem_cons_of_mem _ (List.mem_append_right _ (h))) hown hK hP8 0 rfl rfl 8 (by decide) (hts (.fieldLink RX11 24 "PhaselockModel" "memory" "I") (List.mem_cons_of_mem _ (List.mem_append_left _ (List.mem_of_getElem? (i := 10) rfl)))) (fun _ h9 => h9) rfl dX11_transmits_140 ?_
      refine lv_iconst (v := 1) hx hb dX11_transmits_143 (by decide) ?_
      refine lv_ishr hx hb dX11_transmits_144 ?_
      refine lv_asi (y := (v_X11_transmits_29 S)) rfl ?_
      refine lv_iconst (v := 1) hx hb dX11_transmits_145 (by decide) ?_
      refine lv_iand hx hb dX11_transmits_146 ?_
      refine lv_asi (y := (v_X11_transmits_30 S)) rfl ?_
      have J3_147 : W p l e (headSpec wsX11_transmits rm_X11_transmits).room s m ([.ref (a 0)] : List Value).toArray below meth c H8 L8 0 0 Q (F0 m 155 ls3 [.int (v_X11_transmits_31 S), .int (v_X11_transmits_27 S), .ref (a 1)]) := by
        refine va_zast (D := D) hx hb hK hP8 hD8 hS8 1 0 rfl rfl (tr_in hn hm) dX11_transmits_155 (fun H9 L9 hP9 hD9 hS9 => ?_)
        replace hP9 : va_P D vwCl (wM a cZ cI (s_X11_transmits_32 S)) H9 := cvP (wM_g a cZ cI (s_X11_transmits_26 S) ((v_X11_transmits_27 S)).toNatClampNeg (vp_nar .boolean (v_X11_transmits_31 S))) hP9
        replace hD9 : va_D A (wM a cZ cI (s_X11_transmits_32 S)) := cvD (wM_g a cZ cI (s_X11_transmits_26 S) ((v_X11_transmits_27 S)).toNatClampNeg (vp_nar .boolean (v_X11_transmits_31 S))) hD9
        clear hP8 hD8 hS8
        subst hQ; exact W.vret hx hb hr (fun t ht hW => ⟨⟨(s_X11_transmits_32 S), rfl, (show (s_X11_transmits_32 S) = s_X11_transmits S from rfl), endW hP9 hK hD9 ht hW⟩, hS9.F ht⟩) hS9.2.2 dX11_transmits_156
      refine lv_icmp_eq (tgt := 154) hx hb dX11_transmits_147 (by decide) (fun c3_147 => ?_) (fun c3_147 => ?_)
      · refine lv_iconst (v := 0) hx hb dX11_transmits_154 (by decide) ?_
        refine lv_asi (y := (v_X11_transmits_31 S)) (show (v_X11_transmits_31 S) = 0 from (if_pos c3_147)).symm ?_
        exact J3_147
      · refine lv_iconst (v := 1) hx hb dX11_transmits_150 (by decide) ?_
        refine lv_goto (tgt := 155) hx hb dX11_transmits_151 (by decide) ?_
        refine lv_asi (y := (v_X11_transmits_31 S)) (show (v_X11_transmits_31 S) = 1 from (if_neg c3_147)).symm ?_
        exact J3_147
    refine lv_icmp_lt (tgt := 93) hx hb dX11_transmits_75 (by decide) (fun c2_75 => ?_) (fun c2_75 => ?_)
    · exact J2_75 _ _ (va_asS (P := fun u => va_P D vwCl (wM a cZ cI u) H3) (show (s_X11_transmits_20 S) = (s_X11_transmits_16 S) from (if_pos c2_75)) hP3) (va_asS (P := fun u => va_D A (wM a cZ cI u)) (show (s_X11_transmits_20 S) = (s_X11_transmits_16 S) from (if_pos c2_75)) hD3) hS3
    · refine lv_aload_n hx hb dX11_transmits_78 rfl (lv_at hl3 1 rfl) ?_
      refine lv_dup hx hb dX11_transmits_79 rfl ?_
      refine va_get (D := D) (ci := 11) (v := .int ((s_X11_transmits_16 S).1 1)) (C := RX11) (T := TX11) (N := 37) hx hb hts (fun _ h => List.mem_cons_of_mem _ (List.mem_append_right _ (h))) hown hK hP3 0 rfl rfl 1 (by decide) (hts (.fieldLink RX11 86 "PhaselockModel" "senderPhase" "I") (List.mem_cons_of_mem _ (List.mem_append_left _ (List.mem_of_getElem? (i := 6) rfl)))) (fun _ h9 => h9) rfl dX11_transmits_80 ?_
      refine lv_ldc (v := 65536) hx hb hown (hts (.constant RX11 89 (65536)) (List.mem_cons_of_mem _ (List.mem_append_left _ (List.mem_of_getElem? (i := 8) rfl)))) dX11_transmits_83 ?_
      refine lv_isub hx hb dX11_transmits_85 ?_
      refine lv_asi (y := (v_X11_transmits_17 S)) rfl ?_
      refine va_put (D := D) (ci := 11) (v := .int (v_X11_transmits_17 S)) (ty := .int) (C := RX11) (T := TX11) (N := 37) hx hb hts (fun _ h => List.mem_cons_of_mem _ (List.mem_append_right _ (h))) tyX11 tyX11_ok nmX11 hown hK hP3 hD3 hS3 0 rfl rfl 1 (by decide) (hts (.fieldLink RX11 86 "PhaselockModel" "senderPhase" "I") (List.mem_cons_of_mem _ (List.mem_append_left _ (List.mem_of_getElem? (i := 6) rfl)))) (fun _ h9 => h9) rfl (by decide +kernel) rfl rfl (Nat.le_of_ble_eq_true rfl) dX11_transmits_86 (fun H4 L4 hP4 hD4 hS4 => ?_)
      replace hP4 : va_P D vwCl (wM a cZ cI (s_X11_transmits_18 S)) H4 := cvP (wM_s1 a cZ cI (s_X11_transmits_16 S) (v_X11_transmits_17 S)) hP4
      replace hD4 : va_D A (wM a cZ cI (s_X11_transmits_18 S)) := cvD (wM_s1 a cZ cI (s_X11_transmits_16 S) (v_X11_transmits_17 S)) hD4
      clear hP3 hD3 hS3
      refine lv_aload_n hx hb dX11_transmits_89 rfl (lv_at hl3 1 rfl) ?_
      refine va_callv (va_runV (As := []) (rest := []) ⟨hx, hb, hml, hown, hts⟩ (k_X11_sends l D a cZ cI (s_X11_transmits_18 S) H4.size) (cwV 0 hts gX11_transmits_X11_sends rfl rfl rfl (by decide +kernel) ⟨Nat.le_of_ble_eq_true rfl, Nat.le_of_ble_eq_true rfl⟩) ⟨blW okN_T, va_recv hK hP4 (ci := 11) (q0 := 0) rfl rfl, preW hP4 hK hD4 okN_T hN⟩ rfl rfl hl3.1 rfl (lv_room (Nat.le_of_ble_eq_true rfl)) dX11_transmits_90 ⟨Nat.zero_le _, Nat.zero_le _⟩) hS4 (aA_in hAc) (aA_free hAc hA hS4) (fun u5 t5 H5 L5 ht5 hvm5 hw5 hB5 _ _ hS5 => ?_)
      obtain ⟨hP5, hD5⟩ := backW hB5 ht5 (aA_free hAc hA hS4)
      clear hB5 ht5 hvm5 t5
      have hu5 : u5 = _ := hw5
      clear hw5; subst u5
      replace hP5 : va_P D vwCl (wM a cZ cI (s_X11_transmits_19 S)) H5 := hP5
      replace hD5 : va_D A (wM a cZ cI (s_X11_transmits_19 S)) := hD5
      clear hP4 hD4 hS4
      exact J2_75 _ _ (va_asS (P := fun u => va_P D vwCl (wM a cZ cI u) H5) (show (s_X11_transmits_20 S) = (s_X11_transmits_19 S) from (if_neg c2_75)) hP5) (va_asS (P := fun u => va_D A (wM a cZ cI u)) (show (s_X11_transmits_20 S) = (s_X11_transmits_19 S) from (if_neg c2_75)) hD5) hS5
  refine lv_if_eq (tgt := 54) hx hb dX11_transmits_6 (by decide) (fun c1_6 => ?_) (fun c1_6 => ?_)
  · exact J1_6 _ _ (va_asS (P := fun u => va_P D vwCl (wM a cZ cI u) s.heap) (show (s_X11_transmits_12 S) = S from (if_pos c1_6)) hP0) (va_asS (P := fun u => va_D A (wM a cZ cI u)) (show (s_X11_transmits_12 S) = S from (if_pos c1_6)) hD0) hS0 _ (by rw [show (v_X11_transmits_13 S) = 0 from (if_pos c1_6)]; exact lv_sub (l' := [(1, .int 0), (0, .ref (a 0))]) hl1 [0, 1] rfl)
  · refine lv_aload_n hx hb dX11_transmits_9 rfl (lv_at hl1 1 rfl) ?_
    refine lv_ldc2 (v := 1103515245) hx hb hown (hts (.constantLong RX11 78 (1103515245)) (List.mem_cons_of_mem _ (List.mem_append_left _ (List.mem_of_getElem? (i := 1) rfl)))) dX11_transmits_10 ?_
    refine lv_aload_n hx hb dX11_transmits_13 rfl (lv_at hl1 1 rfl) ?_
    refine va_get (D := D) (ci := 11) (v := .long (S.2.1)) (C := RX11) (T := TX11) (N := 37) hx hb hts (fun _ h => List.mem_cons_of_mem _ (List.mem_append_right _ (h))) hown hK hP0 0 rfl rfl 4 (by decide) (hts (.fieldLink RX11 13 "PhaselockModel" "random" "J") (List.mem_cons_of_mem _ (List.mem_append_left _ (List.mem_of_getElem? (i := 2) rfl)))) (fun _ h9 => h9) rfl dX11_transmits_14 ?_
    refine lv_lmul hx hb dX11_transmits_17 ?_
    refine lv_asl (y := (v_X11_transmits_1 S)) rfl ?_
    refine lv_ldc2 (v := 12345) hx hb hown (hts (.constantLong RX11 80 (12345)) (List.mem_cons_of_mem _ (List.mem_append_left _ (List.mem_of_getElem? (i := 3) rfl)))) dX11_transmits_18 ?_
    refine lv_ladd hx hb dX11_transmits_21 ?_
    refine lv_asl (y := (v_X11_transmits_2 S)) rfl ?_
    refine lv_ldc2 (v := 2147483648) hx hb hown (hts (.constantLong RX11 82 (2147483648)) (List.mem_cons_of_mem _ (List.mem_append_left _ (List.mem_of_getElem? (i := 4) rfl)))) dX11_transmits_22 ?_
    refine lv_lrem hx hb dX11_transmits_25 (by decide) ?_
    refine lv_asl (y := (v_X11_transmits_3 S)) rfl ?_
    refine va_put (D := D) (ci := 11) (v := .long (v_X11_transmits_3 S)) (ty := .long) (C := RX11) (T := TX11) (N := 37) hx hb hts (fun _ h => List.mem_cons_of_mem _ (List.mem_append_right _ (h))) tyX11 tyX11_ok nmX11 hown hK hP0 hD0 hS0 0 rfl rfl 4 (by decide) (hts (.fieldLink RX11 13 "PhaselockModel" "random" "J") (List.mem_cons_of_mem _ (List.mem_append_left _ (List.mem_of_getElem? (i := 2) rfl)))) (fun _ h9 => h9) rfl (by decide +kernel) rfl rfl (Nat.le_of_ble_eq_true rfl) dX11_transmits_26 (fun H1 L1 hP1 hD1 hS1 => ?_)
    replace hP1 : va_P D vwCl (wM a cZ cI (s_X11_transmits_4 S)) H1 := cvP (wM_sR a cZ cI S (v_X11_transmits_3 S)) hP1
    replace hD1 : va_D A (wM a cZ cI (s_X11_transmits_4 S)) := cvD (wM_sR a cZ cI S (v_X11_transmits_3 S)) hD1
    clear hP0 hD0 hS0
    refine lv_aload_n hx hb dX11_transmits_29 rfl (lv_at hl1 1 rfl) ?_
    refine va_get (D := D) (ci := 11) (v := .long ((s_X11_transmits_4 S).2.1)) (C := RX11) (T := TX11) (N := 37) hx hb hts (fun _ h => List.mem_cons_of_mem _ (List.mem_append_right _ (h))) hown hK hP1 0 rfl rfl 4 (by decide) (hts (.fieldLink RX11 13 "PhaselockModel" "random" "J") (List.mem_cons_of_mem _ (List.mem_append_left _ (List.mem_of_getElem? (i := 2) rfl)))) (fun _ h9 => h9) rfl dX11_transmits_30 ?_
    refine lv_ldc2 (v := 65536) hx hb hown (hts (.constantLong RX11 84 (65536)) (List.mem_cons_of_mem _ (List.mem_append_left _ (List.mem_of_getElem? (i := 5) rfl)))) dX11_transmits_33 ?_
    refine lv_ldiv hx hb dX11_transmits_36 (by decide) ?_
    refine lv_asl (y := (v_X11_transmits_5 S)) rfl ?_
    refine lv_iconst (v := 2) hx hb dX11_transmits_37 (by decide) ?_
    refine lv_aload_n hx hb dX11_transmits_38 rfl (lv_at hl1 1 rfl) ?_
    refine va_get (D := D) (ci := 11) (v := .int ((s_X11_transmits_4 S).1 3)) (C := RX11) (T := TX11) (N := 37) hx hb hts (fun _ h => List.mem_cons_of_mem _ (List.mem_append_right _ (h))) hown hK hP1 0 rfl rfl 3 (by decide) (hts (.fieldLink RX11 52 "PhaselockModel" "jitter" "I") (List.mem_cons_of_mem _ (List.mem_append_left _ (List.mem_of_getElem? (i := 0) rfl)))) (fun _ h9 => h9) rfl dX11_transmits_39 ?_
    refine lv_imul hx hb dX11_transmits_42 ?_
    refine lv_asi (y := (v_X11_transmits_6 S)) rfl ?_
    refine lv_iconst (v := 1) hx hb dX11_transmits_43 (by decide) ?_
    refine lv_iadd hx hb dX11_transmits_44 ?_
    refine lv_asi (y := (v_X11_transmits_7 S)) rfl ?_
    refine lv_i2l (v := (v_X11_transmits_8 S)) hx hb dX11_transmits_45 rfl ?_
    refine lv_lrem hx hb dX11_transmits_46 (jit_ne64 hm.1) ?_
    refine lv_asl (y := (v_X11_transmits_9 S)) rfl ?_
    refine lv_l2i (v := (v_X11_transmits_10 S)) hx hb dX11_transmits_47 rfl ?_
    refine lv_aload_n hx hb dX11_transmits_48 rfl (lv_at hl1 1 rfl) ?_
    refine va_get (D := D) (ci := 11) (v := .int ((s_X11_transmits_4 S).1 3)) (C := RX11) (T := TX11) (N := 37) hx hb hts (fun _ h => List.mem_cons_of_mem _ (List.mem_append_right _ (h))) hown hK hP1 0 rfl rfl 3 (by decide) (hts (.fieldLink RX11 52 "PhaselockModel" "jitter" "I") (List.mem_cons_of_mem _ (List.mem_append_left _ (List.mem_of_getElem? (i := 0) rfl)))) (fun _ h9 => h9) rfl dX11_transmits_49 ?_
    refine lv_isub hx hb dX11_transmits_52 ?_
    refine lv_asi (y := (v_X11_transmits_11 S)) rfl ?_
    refine lv_istore_n (lv' := [(1, .int (v_X11_transmits_11 S)), (0, .ref (a 0))]) hx hb dX11_transmits_53 rfl hl1 (by decide) rfl (fun ls2 hl2 => ?_)
    clear hl1
    exact J1_6 _ _ (va_asS (P := fun u => va_P D vwCl (wM a cZ cI u) H1) (show (s_X11_transmits_12 S) = (s_X11_transmits_4 S) from (if_neg c1_6)) hP1) (va_asS (P := fun u => va_D A (wM a cZ cI u)) (show (s_X11_transmits_12 S) = (s_X11_transmits_4 S) from (if_neg c1_6)) hD1) hS1 _ (by rw [show (v_X11_transmits_13 S) = (v_X11_transmits_11 S) from (if_neg c1_6)]; exact lv_sub (l' := [(1, .int (v_X11_transmits_11 S)), (0, .ref (a 0))]) hl2 [0, 1] rfl)

def s_X11_passes_1 (S : St) : St := s_X11_transmits S
def v_X11_passes_2 (S : St) : Int32 := ((s_X11_passes_1 S).1 9) - ((s_X11_passes_1 S).1 9) / 256 * 256
def v_X11_passes_3 (S : St) : Int32 := (s_X11_passes_1 S).2.2.1 ((v_X11_passes_2 S)).toNatClampNeg
def v_X11_passes_4 (S : St) : Int32 := 32768 - ((s_X11_passes_1 S).1 11)
def v_X11_passes_5 (S : St) : Int32 := (v_X11_passes_4 S) / 256
def s_X11_passes_6 (S : St) : St := si (s_X11_passes_1 S) 18 (v_X11_passes_5 S)
def s_X11_passes_7 (S : St) : St := if (v_X11_passes_3 S) = 0 then (s_X11_passes_1 S) else (s_X11_passes_6 S)
def v_X11_passes_8 (S : St) : Int32 := ((s_X11_passes_7 S).1 8) &&& 1
def v_X11_passes_9 (S : St) : Int32 := ((s_X11_passes_7 S).1 8) >>> (8 &&& 31)
def v_X11_passes_10 (S : St) : Int32 := (v_X11_passes_9 S) &&& 1
def v_X11_passes_11 (S : St) : Int32 := r_X11_in (s_X11_passes_7 S) ((s_X11_passes_7 S).1 11) 16384 49151
def v_X11_passes_12 (S : St) : Int32 := if (v_X11_passes_11 S) = 0 then (-1) else 1
def v_X11_passes_13 (S : St) : Int32 := ((s_X11_passes_7 S).1 19) + (v_X11_passes_12 S)
def s_X11_passes_14 (S : St) : St := si (s_X11_passes_7 S) 19 (v_X11_passes_13 S)
def s_X11_passes_15 (S : St) : St := if (v_X11_passes_8 S) = (v_X11_passes_10 S) then (s_X11_passes_7 S) else (s_X11_passes_14 S)
def v_X11_passes_16 (S : St) : Int32 := 4096 + ((s_X11_passes_15 S).1 12)
def v_X11_passes_17 (S : St) : Int32 := ((s_X11_passes_15 S).1 11) + (v_X11_passes_16 S)
def s_X11_passes_18 (S : St) : St := si (s_X11_passes_15 S) 11 (v_X11_passes_17 S)
def s_X11_passes_19 (S : St) : St := s_X11_strobes (s_X11_passes_18 S) ((s_X11_passes_15 S).1 11)
def s_X11_passes (S : St) : St := (s_X11_passes_19 S)
def rm_X11_passes : Room := { frames := 4, cells := 0, slots := 0, locals := 86 }
theorem ps_tk {S : St} : (s_X11_passes_1 S).1 9 = S.1 9 + 1 := tr_tk
theorem ps_in {n : Nat} {S : St} (hn : n < 1000000) (hm : okM n S) : vp_in (v_X11_passes_2 S) 256 :=
  irem_in (n := tk S + 1) (m := 256) (by rw [ps_tk, hm.2.1.1, nI_1]) rfl (by have := hm.2.1.2; omega) (by decide) (by decide)
theorem ps7 {S : St} {k : Nat} (h : k = 3 ∨ k = 9 ∨ k = 24) : (s_X11_passes_7 S).1 k = (s_X11_passes_1 S).1 k := by
  unfold s_X11_passes_7
  split
  · rfl
  · show (si (s_X11_passes_1 S) 18 (v_X11_passes_5 S)).1 k = _
    exact si_ne (by omega)
theorem ps15 {S : St} {k : Nat} (h : k = 3 ∨ k = 9 ∨ k = 24) : (s_X11_passes_15 S).1 k = (s_X11_passes_7 S).1 k := by
  unfold s_X11_passes_15
  split
  · rfl
  · show (si (s_X11_passes_7 S) 19 (v_X11_passes_13 S)).1 k = _
    exact si_ne (by omega)
theorem ps1 {S : St} {k : Nat} (h : k = 3 ∨ k = 24) : (s_X11_passes_1 S).1 k = S.1 k := by
  have e : (s_X11_passes_1 S).1 = (s_X11_transmits_26 S).1 := rfl
  have e1 : (s_X11_transmits_26 S).1 k = (s_X11_transmits_22 S).1 k := si_ne (by omega)
  have e2 : (s_X11_transmits_22 S).1 k = (s_X11_transmits_20 S).1 k := si_ne (by omega)
  rw [e, e1, e2]
  exact tr20 (by omega)
theorem okM_passes {n : Nat} {S : St} (hn : n < 1000000) (h : okM n S) : okM (n + 1) (s_X11_passes_18 S) := by
  have q : ∀ k, (k = 3 ∨ k = 9 ∨ k = 24) → (s_X11_passes_18 S).1 k = (s_X11_passes_1 S).1 k := fun k hk => by
    have e : (s_X11_passes_18 S).1 k = (s_X11_passes_15 S).1 k := si_ne (by omega)
    rw [e, ps15 hk, ps7 hk]
  exact okM_tk (by omega) h ((q 3 (by decide)).trans (ps1 (by decide))) ((q 9 (by decide)).trans ps_tk) ((q 24 (by decide)).trans (ps1 (by decide)))
set_option maxRecDepth 100000 in
set_option maxHeartbeats 4000000 in
theorem k_X11_passes (l : Launch) (D : va_G) (a : Nat → Nat) (cZ cI : ClassId) (S : St) (sz : Nat) (n : Nat) (hn : n < 1000000) (hm : okM n S) : Met l yX11_passes wsX11_passes rm_X11_passes (va_Pc [.ref (a 0)] (pW D (tyZI cZ cI) (wM a cZ cI S) sz nT)) (va_Qv (fun u : St => u = s_X11_passes S) (fun u t => oW D (tyZI cZ cI) (wM a cZ cI u) (aA (adM a) sz) t) (aA (adM a) sz)) 0 0 (aA (adM a) sz) := by
  refine Met.ofW (cc := cX11_passes) (maxL := 2) (ret := none) (by decide +kernel) rfl ?_
  intro p e s m args below meth c s₁ B hml hv
  obtain ⟨rfl, hsz, hP0, hK, hD9, hN⟩ := hv
  have hx := B.exec
  have hb := B.bytes
  have hr := B.returns
  have hts := atoms_spec (ws := wsX11_passes) B.pre
  have hown : s.vm.findClass RX11 = some m.cls := findClass_of_methodNamed B.named
  have hlocks := B.notSynchronized
  subst hsz
  have hD0 := aA_self (sz := s.heap.size) (as := adM a) hD9 rfl
  generalize hAe : aA (adM a) s.heap.size = A at hD0 ⊢
  have hA : ∀ q : Nat, s.heap.size ≤ q → A q := fun q h => by rw [← hAe]; exact Or.inr h
  have hAc : ∀ q : Nat, q ∈ adM a → A q := fun q h => by rw [← hAe]; exact Or.inl h
  have hS0 : va_S A s.heap s.heap [] := va_S.rf
  have hl0 := lv_entry ([.ref (a 0)]) (n := 2) (Nat.le_of_ble_eq_true rfl)
  rw [lg_entry_eq]
  generalize (lg_sl ([.ref (a 0)]) ++ List.replicate (2 - (lg_sl ([.ref (a 0)])).length) Slot.unset).toArray = ls0 at hl0 ⊢
  have hl0 : lv_has ls0 2 [(0, .ref (a 0))] := hl0
  generalize hQ : MQ below _ _ s _ _ _ = Q
  clear hD9 B
  refine lv_aload_n hx hb dX11_passes_0 rfl (lv_at hl0 0 rfl) ?_
  refine va_callv (va_runV (As := []) (rest := []) ⟨hx, hb, hml, hown, hts⟩ (k_X11_transmits l D a cZ cI S s.heap.size n hn hm) (cwV 0 hts gX11_passes_X11_transmits rfl rfl rfl (by decide +kernel) ⟨Nat.le_of_ble_eq_true rfl, Nat.le_of_ble_eq_true rfl⟩) ⟨blW okN_T, va_recv hK hP0 (ci := 11) (q0 := 0) rfl rfl, preW hP0 hK hD0 okN_T hN⟩ rfl rfl hl0.1 rfl (lv_room (Nat.le_of_ble_eq_true rfl)) dX11_passes_1 ⟨Nat.zero_le _, Nat.zero_le _⟩) hS0 (aA_in hAc) (aA_free hAc hA hS0) (fun u1 t1 H1 L1 ht1 hvm1 hw1 hB1 _ _ hS1 => ?_)
  obtain ⟨hP1, hD1⟩ := backW hB1 ht1 (aA_free hAc hA hS0)
  clear hB1 ht1 hvm1 t1
  have hu1 : u1 = _ := hw1
  clear hw1; subst u1
  replace hP1 : va_P D vwCl (wM a cZ cI (s_X11_passes_1 S)) H1 := hP1
  replace hD1 : va_D A (wM a cZ cI (s_X11_passes_1 S)) := hD1
  clear hP0 hD0 hS0
  refine lv_aload_n hx hb dX11_passes_4 rfl (lv_at hl0 0 rfl) ?_
  refine va_get (D := D) (ci := 11) (v := .ref (a 1)) (C := RX11) (T := TX11) (N := 37) hx hb hts (fun _ h => List.mem_cons_of_mem _ (List.mem_append_right _ (h))) hown hK hP1 0 rfl rfl 10 (by decide) (hts (.fieldLink RX11 27 "PhaselockModel" "areEdges" "[Z") (List.mem_cons_of_mem _ (List.mem_append_left _ (List.mem_append_left _ (List.mem_of_getElem? (i := 0) rfl))))) (fun _ h9 => h9) rfl dX11_passes_5 ?_
  refine lv_aload_n hx hb dX11_passes_8 rfl (lv_at hl0 0 rfl) ?_
  refine va_get (D := D) (ci := 11) (v := .int ((s_X11_passes_1 S).1 9)) (C := RX11) (T := TX11) (N := 37) hx hb hts (fun _ h => List.mem_cons_of_mem _ (List.mem_append_right _ (h))) hown hK hP1 0 rfl rfl 9 (by decide) (hts (.fieldLink RX11 93 "PhaselockModel" "ticks" "I") (List.mem_cons_of_mem _ (List.mem_append_left _ (List.mem_append_left _ (List.mem_of_getElem? (i := 1) rfl))))) (fun _ h9 => h9) rfl dX11_passes_9 ?_
  refine lv_sipush (v := 256) hx hb dX11_passes_12 (by decide) ?_
  refine lv_irem hx hb dX11_passes_15 (by decide) ?_
  refine lv_asi (y := (v_X11_passes_2 S)) rfl ?_
  refine va_zald (D := D) hx hb hK hP1 1 0 rfl rfl (ps_in hn hm) dX11_passes_16 ?_
  refine lv_asi (y := (v_X11_passes_3 S)) rfl ?_
  have J1_17 : ∀ (H3 : Heap) (L3 : List Loc), va_P D vwCl (wM a cZ cI (s_X11_passes_7 S)) H3 → va_D A (wM a cZ cI (s_X11_passes_7 S)) → va_S A s.heap H3 L3 → W p l e (headSpec wsX11_passes rm_X11_passes).room s m ([.ref (a 0)] : List Value).toArray below meth c H3 L3 0 0 Q (F0 m 35 ls0 []) := by
    intro H3 L3 hP3 hD3 hS3
    clear hP1 hD1 hS1
    refine lv_aload_n hx hb dX11_passes_35 rfl (lv_at hl0 0 rfl) ?_
    refine va_get (D := D) (ci := 11) (v := .int ((s_X11_passes_7 S).1 8)) (C := RX11) (T := TX11) (N := 37) hx hb hts (fun _ h => List.mem_cons_of_mem _ (List.mem_append_right _ (h))) hown hK hP3 0 rfl rfl 8 (by decide) (hts (.fieldLink RX11 24 "PhaselockModel" "memory" "I") (List.mem_cons_of_mem _ (List.mem_append_left _ (List.mem_append_left _ (List.mem_of_getElem? (i := 5) rfl))))) (fun _ h9 => h9) rfl dX11_passes_36 ?_
    refine lv_iconst (v := 1) hx hb dX11_passes_39 (by decide) ?_
    refine lv_iand hx hb dX11_passes_40 ?_
    refine lv_asi (y := (v_X11_passes_8 S)) rfl ?_
    refine lv_aload_n hx hb dX11_passes_41 rfl (lv_at hl0 0 rfl) ?_
    refine va_get (D := D) (ci := 11) (v := .int ((s_X11_passes_7 S).1 8)) (C := RX11) (T := TX11) (N := 37) hx hb hts (fun _ h => List.mem_cons_of_mem _ (List.mem_append_right _ (h))) hown hK hP3 0 rfl rfl 8 (by decide) (hts (.fieldLink RX11 24 "PhaselockModel" "memory" "I") (List.mem_cons_of_mem _ (List.mem_append_left _ (List.mem_append_left _ (List.mem_of_getElem? (i := 5) rfl))))) (fun _ h9 => h9) rfl dX11_passes_42 ?_
    refine lv_bipush (v := 8) hx hb dX11_passes_45 (by decide) ?_
    refine lv_ishr hx hb dX11_passes_47 ?_
    refine lv_asi (y := (v_X11_passes_9 S)) rfl ?_
    refine lv_iconst (v := 1) hx hb dX11_passes_48 (by decide) ?_
    refine lv_iand hx hb dX11_passes_49 ?_
    refine lv_asi (y := (v_X11_passes_10 S)) rfl ?_
    have J3_50 : ∀ (H6 : Heap) (L6 : List Loc), va_P D vwCl (wM a cZ cI (s_X11_passes_15 S)) H6 → va_D A (wM a cZ cI (s_X11_passes_15 S)) → va_S A s.heap H6 L6 → W p l e (headSpec wsX11_passes rm_X11_passes).room s m ([.ref (a 0)] : List Value).toArray below meth c H6 L6 0 0 Q (F0 m 82 ls0 []) := by
      intro H6 L6 hP6 hD6 hS6
      clear hP3 hD3 hS3
      refine lv_aload_n hx hb dX11_passes_82 rfl (lv_at hl0 0 rfl) ?_
      refine va_get (D := D) (ci := 11) (v := .int ((s_X11_passes_15 S).1 11)) (C := RX11) (T := TX11) (N := 37) hx hb hts (fun _ h => List.mem_cons_of_mem _ (List.mem_append_right _ (h))) hown hK hP6 0 rfl rfl 11 (by decide) (hts (.fieldLink RX11 58 "PhaselockModel" "phase" "I") (List.mem_cons_of_mem _ (List.mem_append_left _ (List.mem_append_left _ (List.mem_of_getElem? (i := 3) rfl))))) (fun _ h9 => h9) rfl dX11_passes_83 ?_
      refine lv_istore_n (lv' := [(1, .int ((s_X11_passes_15 S).1 11)), (0, .ref (a 0))]) hx hb dX11_passes_86 rfl hl0 (by decide) rfl (fun ls1 hl1 => ?_)
      clear hl0
      refine lv_aload_n hx hb dX11_passes_87 rfl (lv_at hl1 1 rfl) ?_
      refine lv_dup hx hb dX11_passes_88 rfl ?_
      refine va_get (D := D) (ci := 11) (v := .int ((s_X11_passes_15 S).1 11)) (C := RX11) (T := TX11) (N := 37) hx hb hts (fun _ h => List.mem_cons_of_mem _ (List.mem_append_right _ (h))) hown hK hP6 0 rfl rfl 11 (by decide) (hts (.fieldLink RX11 58 "PhaselockModel" "phase" "I") (List.mem_cons_of_mem _ (List.mem_append_left _ (List.mem_append_left _ (List.mem_of_getElem? (i := 3) rfl))))) (fun _ h9 => h9) rfl dX11_passes_89 ?_
      refine lv_sipush (v := 4096) hx hb dX11_passes_92 (by decide) ?_
      refine lv_aload_n hx hb dX11_passes_95 rfl (lv_at hl1 1 rfl) ?_
      refine va_get (D := D) (ci := 11) (v := .int ((s_X11_passes_15 S).1 12)) (C := RX11) (T := TX11) (N := 37) hx hb hts (fun _ h => List.mem_cons_of_mem _ (List.mem_append_right _ (h))) hown hK hP6 0 rfl rfl 12 (by decide) (hts (.fieldLink RX11 64 "PhaselockModel" "control" "I") (List.mem_cons_of_mem _ (List.mem_append_left _ (List.mem_append_left _ (List.mem_of_getElem? (i := 8) rfl))))) (fun _ h9 => h9) rfl dX11_passes_96 ?_
      refine lv_iadd hx hb dX11_passes_99 ?_
      refine lv_asi (y := (v_X11_passes_16 S)) rfl ?_
      refine lv_iadd hx hb dX11_passes_100 ?_
      refine lv_asi (y := (v_X11_passes_17 S)) rfl ?_
      refine va_put (D := D) (ci := 11) (v := .int (v_X11_passes_17 S)) (ty := .int) (C := RX11) (T := TX11) (N := 37) hx hb hts (fun _ h => List.mem_cons_of_mem _ (List.mem_append_right _ (h))) tyX11 tyX11_ok nmX11 hown hK hP6 hD6 hS6 0 rfl rfl 11 (by decide) (hts (.fieldLink RX11 58 "PhaselockModel" "phase" "I") (List.mem_cons_of_mem _ (List.mem_append_left _ (List.mem_append_left _ (List.mem_of_getElem? (i := 3) rfl))))) (fun _ h9 => h9) rfl (by decide +kernel) rfl rfl (Nat.le_of_ble_eq_true rfl) dX11_passes_101 (fun H7 L7 hP7 hD7 hS7 => ?_)
      replace hP7 : va_P D vwCl (wM a cZ cI (s_X11_passes_18 S)) H7 := cvP (wM_s11 a cZ cI (s_X11_passes_15 S) (v_X11_passes_17 S)) hP7
      replace hD7 : va_D A (wM a cZ cI (s_X11_passes_18 S)) := cvD (wM_s11 a cZ cI (s_X11_passes_15 S) (v_X11_passes_17 S)) hD7
      clear hP6 hD6 hS6
      refine lv_aload_n hx hb dX11_passes_104 rfl (lv_at hl1 1 rfl) ?_
      refine lv_iload_n hx hb dX11_passes_105 rfl (lv_at hl1 0 rfl) ?_
      refine va_callv (va_runV (As := [.int ((s_X11_passes_15 S).1 11)]) (rest := []) ⟨hx, hb, hml, hown, hts⟩ (k_X11_strobes l D a cZ cI (s_X11_passes_18 S) H7.size ((s_X11_passes_15 S).1 11) (n + 1) (by omega) (okM_passes hn hm)) (cwV 1 hts gX11_passes_X11_strobes rfl rfl rfl (by decide +kernel) ⟨Nat.le_of_ble_eq_true rfl, Nat.le_of_ble_eq_true rfl⟩) ⟨blW okN_T, va_recv hK hP7 (ci := 11) (q0 := 0) rfl rfl, preW hP7 hK hD7 okN_T hN⟩ rfl rfl hl1.1 rfl (lv_room (Nat.le_of_ble_eq_true rfl)) dX11_passes_106 ⟨Nat.zero_le _, Nat.zero_le _⟩) hS7 (aA_in hAc) (aA_free hAc hA hS7) (fun u8 t8 H8 L8 ht8 hvm8 hw8 hB8 _ _ hS8 => ?_)
      obtain ⟨hP8, hD8⟩ := backW hB8 ht8 (aA_free hAc hA hS7)
      clear hB8 ht8 hvm8 t8
      have hu8 : u8 = _ := hw8
      clear hw8; subst u8
      replace hP8 : va_P D vwCl (wM a cZ cI (s_X11_passes_19 S)) H8 := hP8
      replace hD8 : va_D A (wM a cZ cI (s_X11_passes_19 S)) := hD8
      clear hP7 hD7 hS7
      subst hQ; exact W.vret hx hb hr (fun t ht hW => ⟨⟨(s_X11_passes_19 S), rfl, (show (s_X11_passes_19 S) = s_X11_passes S from rfl), endW hP8 hK hD8 ht hW⟩, hS8.F ht⟩) hS8.2.2 dX11_passes_109
    refine lv_icmp_eq (tgt := 82) hx hb dX11_passes_50 (by decide) (fun c2_50 => ?_) (fun c2_50 => ?_)
    · exact J3_50 _ _ (va_asS (P := fun u => va_P D vwCl (wM a cZ cI u) H3) (show (s_X11_passes_15 S) = (s_X11_passes_7 S) from (if_pos c2_50)) hP3) (va_asS (P := fun u => va_D A (wM a cZ cI u)) (show (s_X11_passes_15 S) = (s_X11_passes_7 S) from (if_pos c2_50)) hD3) hS3
    · refine lv_aload_n hx hb dX11_passes_53 rfl (lv_at hl0 0 rfl) ?_
      refine lv_dup hx hb dX11_passes_54 rfl ?_
      refine va_get (D := D) (ci := 11) (v := .int ((s_X11_passes_7 S).1 19)) (C := RX11) (T := TX11) (N := 37) hx hb hts (fun _ h => List.mem_cons_of_mem _ (List.mem_append_right _ (h))) hown hK hP3 0 rfl rfl 19 (by decide) (hts (.fieldLink RX11 108 "PhaselockModel" "product" "I") (List.mem_cons_of_mem _ (List.mem_append_left _ (List.mem_append_left _ (List.mem_of_getElem? (i := 6) rfl))))) (fun _ h9 => h9) rfl dX11_passes_55 ?_
      refine lv_aload_n hx hb dX11_passes_58 rfl (lv_at hl0 0 rfl) ?_
      refine va_get (D := D) (ci := 11) (v := .int ((s_X11_passes_7 S).1 11)) (C := RX11) (T := TX11) (N := 37) hx hb hts (fun _ h => List.mem_cons_of_mem _ (List.mem_append_right _ (h))) hown hK hP3 0 rfl rfl 11 (by decide) (hts (.fieldLink RX11 58 "PhaselockModel" "phase" "I") (List.mem_cons_of_mem _ (List.mem_append_left _ (List.mem_append_left _ (List.mem_of_getElem? (i := 3) rfl))))) (fun _ h9 => h9) rfl dX11_passes_59 ?_
      refine lv_sipush (v := 16384) hx hb dX11_passes_62 (by decide) ?_
      refine lv_ldc (v := 49151) hx hb hown (hts (.constant RX11 176 (49151)) (List.mem_cons_of_mem _ (List.mem_append_left _ (List.mem_append_left _ (List.mem_of_getElem? (i := 7) rfl))))) dX11_passes_65 ?_
      refine va_calli (va_runS (As := [.int ((s_X11_passes_7 S).1 11), .int 16384, .int 49151]) (rest := [.int ((s_X11_passes_7 S).1 19), .ref (a 0)]) ⟨hx, hb, hml, hown, hts⟩ (k_X11_in l D a cZ cI (s_X11_passes_7 S) H3.size ((s_X11_passes_7 S).1 11) 16384 49151) (va_cwS 3 hts gX11_passes_X11_in rfl rfl rfl (by decide +kernel) ⟨Nat.le_of_ble_eq_true rfl, Nat.le_of_ble_eq_true rfl⟩) ⟨blW okN_T, preW hP3 hK hD3 okN_T hN⟩ rfl rfl hl0.1 rfl (lv_room (Nat.le_of_ble_eq_true rfl)) dX11_passes_67 ⟨Nat.zero_le _, Nat.zero_le _⟩) hS3 (aA_in hAc) (aA_free hAc hA hS3) (fun r4 u4 t4 H4 L4 ht4 hvm4 hw4 hB4 _ _ hS4 => ?_)
      obtain ⟨hP4, hD4⟩ := backW hB4 ht4 (aA_free hAc hA hS3)
      clear hB4 ht4 hvm4 t4
      obtain ⟨hu4, hr4⟩ := hw4
      subst u4; subst r4
      clear hP3 hD3 hS3
      refine lv_asi (y := (v_X11_passes_11 S)) rfl ?_
      have J2_70 : W p l e (headSpec wsX11_passes rm_X11_passes).room s m ([.ref (a 0)] : List Value).toArray below meth c H4 L4 0 0 Q (F0 m 78 ls0 [.int (v_X11_passes_12 S), .int ((s_X11_passes_7 S).1 19), .ref (a 0)]) := by
        refine lv_iadd hx hb dX11_passes_78 ?_
        refine lv_asi (y := (v_X11_passes_13 S)) rfl ?_
        refine va_put (D := D) (ci := 11) (v := .int (v_X11_passes_13 S)) (ty := .int) (C := RX11) (T := TX11) (N := 37) hx hb hts (fun _ h => List.mem_cons_of_mem _ (List.mem_append_right _ (h))) tyX11 tyX11_ok nmX11 hown hK hP4 hD4 hS4 0 rfl rfl 19 (by decide) (hts (.fieldLink RX11 108 "PhaselockModel" "product" "I") (List.mem_cons_of_mem _ (List.mem_append_left _ (List.mem_append_left _ (List.mem_of_getElem? (i := 6) rfl))))) (fun _ h9 => h9) rfl (by decide +kernel) rfl rfl (Nat.le_of_ble_eq_true rfl) dX11_passes_79 (fun H5 L5 hP5 hD5 hS5 => ?_)
        replace hP5 : va_P D vwCl (wM a cZ cI (s_X11_passes_14 S)) H5 := cvP (wM_s19 a cZ cI (s_X11_passes_7 S) (v_X11_passes_13 S)) hP5
        replace hD5 : va_D A (wM a cZ cI (s_X11_passes_14 S)) := cvD (wM_s19 a cZ cI (s_X11_passes_7 S) (v_X11_passes_13 S)) hD5
        clear hP4 hD4 hS4
        exact J3_50 _ _ (va_asS (P := fun u => va_P D vwCl (wM a cZ cI u) H5) (show (s_X11_passes_15 S) = (s_X11_passes_14 S) from (if_neg c2_50)) hP5) (va_asS (P := fun u => va_D A (wM a cZ cI u)) (show (s_X11_passes_15 S) = (s_X11_passes_14 S) from (if_neg c2_50)) hD5) hS5
      refine lv_if_eq (tgt := 77) hx hb dX11_passes_70 (by decide) (fun c3_70 => ?_) (fun c3_70 => ?_)
      · refine lv_iconst (v := (-1)) hx hb dX11_passes_77 (by decide) ?_
        refine lv_asi (y := (v_X11_passes_12 S)) (show (v_X11_passes_12 S) = (-1) from (if_pos c3_70)).symm ?_
        exact J2_70
      · refine lv_iconst (v := 1) hx hb dX11_passes_73 (by decide) ?_
        refine lv_goto (tgt := 78) hx hb dX11_passes_74 (by decide) ?_
        refine lv_asi (y := (v_X11_passes_12 S)) (show (v_X11_passes_12 S) = 1 from (if_neg c3_70)).symm ?_
        exact J2_70
  refine lv_if_eq (tgt := 35) hx hb dX11_passes_17 (by decide) (fun c1_17 => ?_) (fun c1_17 => ?_)
  · exact J1_17 _ _ (va_asS (P := fun u => va_P D vwCl (wM a cZ cI u) H1) (show (s_X11_passes_7 S) = (s_X11_passes_1 S) from (if_pos c1_17)) hP1) (va_asS (P := fun u => va_D A (wM a cZ cI u)) (show (s_X11_passes_7 S) = (s_X11_passes_1 S) from (if_pos c1_17)) hD1) hS1
  · refine lv_aload_n hx hb dX11_passes_20 rfl (lv_at hl0 0 rfl) ?_
    refine lv_ldc (v := 32768) hx hb hown (hts (.constant RX11 133 (32768)) (List.mem_cons_of_mem _ (List.mem_append_left _ (List.mem_append_left _ (List.mem_of_getElem? (i := 2) rfl))))) dX11_passes_21 ?_
    refine lv_aload_n hx hb dX11_passes_23 rfl (lv_at hl0 0 rfl) ?_
    refine va_get (D := D) (ci := 11) (v := .int ((s_X11_passes_1 S).1 11)) (C := RX11) (T := TX11) (N := 37) hx hb hts (fun _ h => List.mem_cons_of_mem _ (List.mem_append_right _ (h))) hown hK hP1 0 rfl rfl 11 (by decide) (hts (.fieldLink RX11 58 "PhaselockModel" "phase" "I") (List.mem_cons_of_mem _ (List.mem_append_left _ (List.mem_append_left _ (List.mem_of_getElem? (i := 3) rfl))))) (fun _ h9 => h9) rfl dX11_passes_24 ?_
    refine lv_isub hx hb dX11_passes_27 ?_
    refine lv_asi (y := (v_X11_passes_4 S)) rfl ?_
    refine lv_sipush (v := 256) hx hb dX11_passes_28 (by decide) ?_
    refine lv_idiv hx hb dX11_passes_31 (by decide) ?_
    refine lv_asi (y := (v_X11_passes_5 S)) rfl ?_
    refine va_put (D := D) (ci := 11) (v := .int (v_X11_passes_5 S)) (ty := .int) (C := RX11) (T := TX11) (N := 37) hx hb hts (fun _ h => List.mem_cons_of_mem _ (List.mem_append_right _ (h))) tyX11 tyX11_ok nmX11 hown hK hP1 hD1 hS1 0 rfl rfl 18 (by decide) (hts (.fieldLink RX11 105 "PhaselockModel" "edgeError" "I") (List.mem_cons_of_mem _ (List.mem_append_left _ (List.mem_append_left _ (List.mem_of_getElem? (i := 4) rfl))))) (fun _ h9 => h9) rfl (by decide +kernel) rfl rfl (Nat.le_of_ble_eq_true rfl) dX11_passes_32 (fun H2 L2 hP2 hD2 hS2 => ?_)
    replace hP2 : va_P D vwCl (wM a cZ cI (s_X11_passes_6 S)) H2 := cvP (wM_s18 a cZ cI (s_X11_passes_1 S) (v_X11_passes_5 S)) hP2
    replace hD2 : va_D A (wM a cZ cI (s_X11_passes_6 S)) := cvD (wM_s18 a cZ cI (s_X11_passes_1 S) (v_X11_passes_5 S)) hD2
    clear hP1 hD1 hS1
    exact J1_17 _ _ (va_asS (P := fun u => va_P D vwCl (wM a cZ cI u) H2) (show (s_X11_passes_7 S) = (s_X11_passes_6 S) from (if_neg c1_17)) hP2) (va_asS (P := fun u => va_D A (wM a cZ cI u)) (show (s_X11_passes_7 S) = (s_X11_passes_6 S) from (if_neg c1_17)) hD2) hS2
