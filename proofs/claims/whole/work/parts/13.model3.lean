def v_X11_aligns_1 (S : St) : Int32 := (S.1 25) &&& 63
def v_X11_aligns_2 (S : St) : Int32 := if (S.1 24) < 6 then 0 else if (v_X11_aligns_1 S) = 52 then 1 else 0
def v_X11_aligns_3 (S : St) : Int32 := (S.1 32) + 1
def s_X11_aligns_4 (S : St) : St := si S 32 (v_X11_aligns_3 S)
def v_X11_aligns_5 (S : St) : Int32 := ((s_X11_aligns_4 S).1 32) - ((s_X11_aligns_4 S).1 32) / 24 * 24
def v_X11_aligns_6 (S : St) : Int32 := if (v_X11_aligns_2 S) = 0 then 0 else 1
def v_X11_aligns_7 (S : St) : Int32 := ((s_X11_aligns_4 S).1 35) + (v_X11_aligns_6 S)
def s_X11_aligns_8 (S : St) : St := si (s_X11_aligns_4 S) 35 (v_X11_aligns_7 S)
def v_X11_aligns_9 (S : St) : Int32 := ((s_X11_aligns_8 S).1 34) + 1
def v_X11_aligns_10 (S : St) : Int32 := if (v_X11_aligns_2 S) = 0 then (v_X11_aligns_9 S) else 0
def s_X11_aligns_11 (S : St) : St := si (s_X11_aligns_8 S) 34 (v_X11_aligns_10 S)
def v_X11_aligns_12 (S : St) : Int32 := if ((s_X11_aligns_11 S).1 34) = 3 then 1 else 0
def v_X11_aligns_13 (S : St) : Int32 := ((s_X11_aligns_11 S).1 36) + (v_X11_aligns_12 S)
def s_X11_aligns_14 (S : St) : St := si (s_X11_aligns_11 S) 36 (v_X11_aligns_13 S)
def v_X11_aligns_15 (S : St) : Int32 := if ((s_X11_aligns_14 S).1 34) = 3 then 0 else 2
def s_X11_aligns_16 (S : St) : St := si (s_X11_aligns_14 S) 31 (v_X11_aligns_15 S)
def v_X11_aligns_17 (S : St) : Int32 := ((s_X11_aligns_4 S).1 33) + 1
def s_X11_aligns_18 (S : St) : St := si (s_X11_aligns_4 S) 33 (v_X11_aligns_17 S)
def s_X11_aligns_19 (S : St) : St := si (s_X11_aligns_18 S) 34 0
def v_X11_aligns_20 (S : St) : Int32 := if (v_X11_aligns_2 S) = 0 then 0 else if ((s_X11_aligns_19 S).1 33) = 2 then 2 else 1
def s_X11_aligns_21 (S : St) : St := si (s_X11_aligns_19 S) 31 (v_X11_aligns_20 S)
def v_X11_aligns_22 (S : St) : Int32 := if (v_X11_aligns_2 S) = 0 then 0 else 1
def s_X11_aligns_23 (S : St) : St := si (s_X11_aligns_4 S) 31 (v_X11_aligns_22 S)
def s_X11_aligns_24 (S : St) : St := si (s_X11_aligns_23 S) 33 0
def s_X11_aligns_25 (S : St) : St := si (s_X11_aligns_24 S) 32 0
def s_X11_aligns_26 (S : St) : St := if ((s_X11_aligns_4 S).1 31) = 0 then (s_X11_aligns_25 S) else if (v_X11_aligns_5 S) = 0 then if ((s_X11_aligns_4 S).1 31) = 1 then (s_X11_aligns_21 S) else (s_X11_aligns_16 S) else (s_X11_aligns_4 S)
def s_X11_aligns (S : St) : St := (s_X11_aligns_26 S)
def rm_X11_aligns : Room := { frames := 0, cells := 0, slots := 0, locals := 0 }
set_option maxRecDepth 100000 in
set_option maxHeartbeats 4000000 in
theorem k_X11_aligns (l : Launch) (D : va_G) (a : Nat → Nat) (cZ cI : ClassId) (S : St) (sz : Nat) : Met l yX11_aligns wsX11_aligns rm_X11_aligns (va_Pc [.ref (a 0)] (pW D (tyZI cZ cI) (wM a cZ cI S) sz nT)) (va_Qv (fun u : St => u = s_X11_aligns S) (fun u t => oW D (tyZI cZ cI) (wM a cZ cI u) (aA (adM a) sz) t) (aA (adM a) sz)) 0 0 (aA (adM a) sz) := by
  refine Met.ofW (cc := cX11_aligns) (maxL := 2) (ret := none) (by decide +kernel) rfl ?_
  intro p e s m args below meth c s₁ B hml hv
  obtain ⟨rfl, hsz, hP0, hK, hD9, hN⟩ := hv
  have hx := B.exec
  have hb := B.bytes
  have hr := B.returns
  have hts := atoms_spec (ws := wsX11_aligns) B.pre
  have hown : s.vm.findClass RX11 = some m.cls := findClass_of_methodNamed B.named
  have hlocks := B.notSynchronized
  subst hsz
  have hD0 := aA_self (sz := s.heap.size) (as := adM a) hD9 rfl
  generalize hAe : aA (adM a) s.heap.size = A at hD0 ⊢
  have hA : ∀ q : Nat, s.heap.size ≤ q → A q := fun q h => by rw [← hAe]; exact Or.inr h
  have hAc : ∀ q : Nat, q ∈ adM a → A q := fun q h => by rw [← hAe]; exact Or.inl h
  have hS0 : va_S A s.heap s.heap [] := va_S.rf
  have hl0 := lv_entry ([.ref (a 0)]) (n := 2) (Nat.le_of_ble_eq_true rfl)
  rw [lg_entry_eq]
  generalize (lg_sl ([.ref (a 0)]) ++ List.replicate (2 - (lg_sl ([.ref (a 0)])).length) Slot.unset).toArray = ls0 at hl0 ⊢
  have hl0 : lv_has ls0 2 [(0, .ref (a 0))] := hl0
  generalize hQ : MQ below _ _ s _ _ _ = Q
  clear hD9 B
  refine lv_aload_n hx hb dX11_aligns_0 rfl (lv_at hl0 0 rfl) ?_
  refine va_get (D := D) (ci := 11) (v := .int (S.1 24)) (C := RX11) (T := TX11) (N := 37) hx hb hts (fun _ h => List.mem_cons_of_mem _ (List.mem_append_right _ (h))) hown hK hP0 0 rfl rfl 24 (by decide) (hts (.fieldLink RX11 99 "PhaselockModel" "received" "I") (List.mem_cons_of_mem _ (List.mem_append_left _ (List.mem_of_getElem? (i := 0) rfl)))) (fun _ h9 => h9) rfl dX11_aligns_1 ?_
  refine lv_bipush (v := 6) hx hb dX11_aligns_4 (by decide) ?_
  have J1_6 : W p l e (headSpec wsX11_aligns rm_X11_aligns).room s m ([.ref (a 0)] : List Value).toArray below meth c s.heap [] 0 0 Q (F0 m 26 ls0 [.int (v_X11_aligns_2 S)]) := by
    refine lv_istore_n (lv' := [(1, .int (v_X11_aligns_2 S)), (0, .ref (a 0))]) hx hb dX11_aligns_26 rfl hl0 (by decide) rfl (fun ls1 hl1 => ?_)
    clear hl0
    refine lv_aload_n hx hb dX11_aligns_27 rfl (lv_at hl1 1 rfl) ?_
    refine lv_dup hx hb dX11_aligns_28 rfl ?_
    refine va_get (D := D) (ci := 11) (v := .int (S.1 32)) (C := RX11) (T := TX11) (N := 37) hx hb hts (fun _ h => List.mem_cons_of_mem _ (List.mem_append_right _ (h))) hown hK hP0 0 rfl rfl 32 (by decide) (hts (.fieldLink RX11 144 "PhaselockModel" "sinceHunt" "I") (List.mem_cons_of_mem _ (List.mem_append_left _ (List.mem_of_getElem? (i := 2) rfl)))) (fun _ h9 => h9) rfl dX11_aligns_29 ?_
    refine lv_iconst (v := 1) hx hb dX11_aligns_32 (by decide) ?_
    refine lv_iadd hx hb dX11_aligns_33 ?_
    refine lv_asi (y := (v_X11_aligns_3 S)) rfl ?_
    refine va_put (D := D) (ci := 11) (v := .int (v_X11_aligns_3 S)) (ty := .int) (C := RX11) (T := TX11) (N := 37) hx hb hts (fun _ h => List.mem_cons_of_mem _ (List.mem_append_right _ (h))) tyX11 tyX11_ok nmX11 hown hK hP0 hD0 hS0 0 rfl rfl 32 (by decide) (hts (.fieldLink RX11 144 "PhaselockModel" "sinceHunt" "I") (List.mem_cons_of_mem _ (List.mem_append_left _ (List.mem_of_getElem? (i := 2) rfl)))) (fun _ h9 => h9) rfl (by decide +kernel) rfl rfl (Nat.le_of_ble_eq_true rfl) dX11_aligns_34 (fun H1 L1 hP1 hD1 hS1 => ?_)
    replace hP1 : va_P D vwCl (wM a cZ cI (s_X11_aligns_4 S)) H1 := cvP (wM_s32 a cZ cI S (v_X11_aligns_3 S)) hP1
    replace hD1 : va_D A (wM a cZ cI (s_X11_aligns_4 S)) := cvD (wM_s32 a cZ cI S (v_X11_aligns_3 S)) hD1
    clear hP0 hD0 hS0
    refine lv_aload_n hx hb dX11_aligns_37 rfl (lv_at hl1 1 rfl) ?_
    refine va_get (D := D) (ci := 11) (v := .int ((s_X11_aligns_4 S).1 31)) (C := RX11) (T := TX11) (N := 37) hx hb hts (fun _ h => List.mem_cons_of_mem _ (List.mem_append_right _ (h))) hown hK hP1 0 rfl rfl 31 (by decide) (hts (.fieldLink RX11 147 "PhaselockModel" "alignment" "I") (List.mem_cons_of_mem _ (List.mem_append_left _ (List.mem_of_getElem? (i := 3) rfl)))) (fun _ h9 => h9) rfl dX11_aligns_38 ?_
    have J8_41 : ∀ (H6 : Heap) (L6 : List Loc), va_P D vwCl (wM a cZ cI (s_X11_aligns_26 S)) H6 → va_D A (wM a cZ cI (s_X11_aligns_26 S)) → va_S A s.heap H6 L6 → W p l e (headSpec wsX11_aligns rm_X11_aligns).room s m ([.ref (a 0)] : List Value).toArray below meth c H6 L6 0 0 Q (F0 m 206 ls1 []) := by
      intro H6 L6 hP6 hD6 hS6
      clear hP1 hD1 hS1
      subst hQ; exact W.vret hx hb hr (fun t ht hW => ⟨⟨(s_X11_aligns_26 S), rfl, (show (s_X11_aligns_26 S) = s_X11_aligns S from rfl), endW hP6 hK hD6 ht hW⟩, hS6.F ht⟩) hS6.2.2 dX11_aligns_206
    refine lv_if_ne (tgt := 70) hx hb dX11_aligns_41 (by decide) (fun c3_41 => ?_) (fun c3_41 => ?_)
    · refine lv_aload_n hx hb dX11_aligns_70 rfl (lv_at hl1 1 rfl) ?_
      refine va_get (D := D) (ci := 11) (v := .int ((s_X11_aligns_4 S).1 32)) (C := RX11) (T := TX11) (N := 37) hx hb hts (fun _ h => List.mem_cons_of_mem _ (List.mem_append_right _ (h))) hown hK hP1 0 rfl rfl 32 (by decide) (hts (.fieldLink RX11 144 "PhaselockModel" "sinceHunt" "I") (List.mem_cons_of_mem _ (List.mem_append_left _ (List.mem_of_getElem? (i := 2) rfl)))) (fun _ h9 => h9) rfl dX11_aligns_71 ?_
      refine lv_bipush (v := 24) hx hb dX11_aligns_74 (by decide) ?_
      refine lv_irem hx hb dX11_aligns_76 (by decide) ?_
      refine lv_asi (y := (v_X11_aligns_5 S)) rfl ?_
      refine lv_if_ne (tgt := 206) hx hb dX11_aligns_77 (by decide) (fun c4_77 => ?_) (fun c4_77 => ?_)
      · exact J8_41 _ _ (va_asS (P := fun u => va_P D vwCl (wM a cZ cI u) H1) (show (s_X11_aligns_26 S) = (s_X11_aligns_4 S) from ((if_neg c3_41).trans (if_neg c4_77))) hP1) (va_asS (P := fun u => va_D A (wM a cZ cI u)) (show (s_X11_aligns_26 S) = (s_X11_aligns_4 S) from ((if_neg c3_41).trans (if_neg c4_77))) hD1) hS1
      · refine lv_aload_n hx hb dX11_aligns_80 rfl (lv_at hl1 1 rfl) ?_
        refine va_get (D := D) (ci := 11) (v := .int ((s_X11_aligns_4 S).1 31)) (C := RX11) (T := TX11) (N := 37) hx hb hts (fun _ h => List.mem_cons_of_mem _ (List.mem_append_right _ (h))) hown hK hP1 0 rfl rfl 31 (by decide) (hts (.fieldLink RX11 147 "PhaselockModel" "alignment" "I") (List.mem_cons_of_mem _ (List.mem_append_left _ (List.mem_of_getElem? (i := 3) rfl)))) (fun _ h9 => h9) rfl dX11_aligns_81 ?_
        refine lv_iconst (v := 1) hx hb dX11_aligns_84 (by decide) ?_
        refine lv_icmp_ne (tgt := 131) hx hb dX11_aligns_85 (by decide) (fun c5_85 => ?_) (fun c5_85 => ?_)
        · refine lv_aload_n hx hb dX11_aligns_131 rfl (lv_at hl1 1 rfl) ?_
          refine lv_dup hx hb dX11_aligns_132 rfl ?_
          refine va_get (D := D) (ci := 11) (v := .int ((s_X11_aligns_4 S).1 35)) (C := RX11) (T := TX11) (N := 37) hx hb hts (fun _ h => List.mem_cons_of_mem _ (List.mem_append_right _ (h))) hown hK hP1 0 rfl rfl 35 (by decide) (hts (.fieldLink RX11 156 "PhaselockModel" "frames" "I") (List.mem_cons_of_mem _ (List.mem_append_left _ (List.mem_of_getElem? (i := 6) rfl)))) (fun _ h9 => h9) rfl dX11_aligns_133 ?_
          refine lv_iload_n hx hb dX11_aligns_136 rfl (lv_at hl1 0 rfl) ?_
          have J2_137 : W p l e (headSpec wsX11_aligns rm_X11_aligns).room s m ([.ref (a 0)] : List Value).toArray below meth c H1 L1 0 0 Q (F0 m 145 ls1 [.int (v_X11_aligns_6 S), .int ((s_X11_aligns_4 S).1 35), .ref (a 0)]) := by
            refine lv_iadd hx hb dX11_aligns_145 ?_
            refine lv_asi (y := (v_X11_aligns_7 S)) rfl ?_
            refine va_put (D := D) (ci := 11) (v := .int (v_X11_aligns_7 S)) (ty := .int) (C := RX11) (T := TX11) (N := 37) hx hb hts (fun _ h => List.mem_cons_of_mem _ (List.mem_append_right _ (h))) tyX11 tyX11_ok nmX11 hown hK hP1 hD1 hS1 0 rfl rfl 35 (by decide) (hts (.fieldLink RX11 156 "PhaselockModel" "frames" "I") (List.mem_cons_of_mem _ (List.mem_append_left _ (List.mem_of_getElem? (i := 6) rfl)))) (fun _ h9 => h9) rfl (by decide +kernel) rfl rfl (Nat.le_of_ble_eq_true rfl) dX11_aligns_146 (fun H2 L2 hP2 hD2 hS2 => ?_)
            replace hP2 : va_P D vwCl (wM a cZ cI (s_X11_aligns_8 S)) H2 := cvP (wM_s35 a cZ cI (s_X11_aligns_4 S) (v_X11_aligns_7 S)) hP2
            replace hD2 : va_D A (wM a cZ cI (s_X11_aligns_8 S)) := cvD (wM_s35 a cZ cI (s_X11_aligns_4 S) (v_X11_aligns_7 S)) hD2
            clear hP1 hD1 hS1
            refine lv_aload_n hx hb dX11_aligns_149 rfl (lv_at hl1 1 rfl) ?_
            refine lv_iload_n hx hb dX11_aligns_150 rfl (lv_at hl1 0 rfl) ?_
            have J3_151 : W p l e (headSpec wsX11_aligns rm_X11_aligns).room s m ([.ref (a 0)] : List Value).toArray below meth c H2 L2 0 0 Q (F0 m 164 ls1 [.int (v_X11_aligns_10 S), .ref (a 0)]) := by
              refine va_put (D := D) (ci := 11) (v := .int (v_X11_aligns_10 S)) (ty := .int) (C := RX11) (T := TX11) (N := 37) hx hb hts (fun _ h => List.mem_cons_of_mem _ (List.mem_append_right _ (h))) tyX11 tyX11_ok nmX11 hown hK hP2 hD2 hS2 0 rfl rfl 34 (by decide) (hts (.fieldLink RX11 153 "PhaselockModel" "misses" "I") (List.mem_cons_of_mem _ (List.mem_append_left _ (List.mem_of_getElem? (i := 5) rfl)))) (fun _ h9 => h9) rfl (by decide +kernel) rfl rfl (Nat.le_of_ble_eq_true rfl) dX11_aligns_164 (fun H3 L3 hP3 hD3 hS3 => ?_)
              replace hP3 : va_P D vwCl (wM a cZ cI (s_X11_aligns_11 S)) H3 := cvP (wM_s34 a cZ cI (s_X11_aligns_8 S) (v_X11_aligns_10 S)) hP3
              replace hD3 : va_D A (wM a cZ cI (s_X11_aligns_11 S)) := cvD (wM_s34 a cZ cI (s_X11_aligns_8 S) (v_X11_aligns_10 S)) hD3
              clear hP2 hD2 hS2
              refine lv_aload_n hx hb dX11_aligns_167 rfl (lv_at hl1 1 rfl) ?_
              refine lv_dup hx hb dX11_aligns_168 rfl ?_
              refine va_get (D := D) (ci := 11) (v := .int ((s_X11_aligns_11 S).1 36)) (C := RX11) (T := TX11) (N := 37) hx hb hts (fun _ h => List.mem_cons_of_mem _ (List.mem_append_right _ (h))) hown hK hP3 0 rfl rfl 36 (by decide) (hts (.fieldLink RX11 159 "PhaselockModel" "losses" "I") (List.mem_cons_of_mem _ (List.mem_append_left _ (List.mem_of_getElem? (i := 7) rfl)))) (fun _ h9 => h9) rfl dX11_aligns_169 ?_
              refine lv_aload_n hx hb dX11_aligns_172 rfl (lv_at hl1 1 rfl) ?_
              refine va_get (D := D) (ci := 11) (v := .int ((s_X11_aligns_11 S).1 34)) (C := RX11) (T := TX11) (N := 37) hx hb hts (fun _ h => List.mem_cons_of_mem _ (List.mem_append_right _ (h))) hown hK hP3 0 rfl rfl 34 (by decide) (hts (.fieldLink RX11 153 "PhaselockModel" "misses" "I") (List.mem_cons_of_mem _ (List.mem_append_left _ (List.mem_of_getElem? (i := 5) rfl)))) (fun _ h9 => h9) rfl dX11_aligns_173 ?_
              refine lv_iconst (v := 3) hx hb dX11_aligns_176 (by decide) ?_
              have J4_177 : W p l e (headSpec wsX11_aligns rm_X11_aligns).room s m ([.ref (a 0)] : List Value).toArray below meth c H3 L3 0 0 Q (F0 m 185 ls1 [.int (v_X11_aligns_12 S), .int ((s_X11_aligns_11 S).1 36), .ref (a 0)]) := by
                refine lv_iadd hx hb dX11_aligns_185 ?_
                refine lv_asi (y := (v_X11_aligns_13 S)) rfl ?_
                refine va_put (D := D) (ci := 11) (v := .int (v_X11_aligns_13 S)) (ty := .int) (C := RX11) (T := TX11) (N := 37) hx hb hts (fun _ h => List.mem_cons_of_mem _ (List.mem_append_right _ (h))) tyX11 tyX11_ok nmX11 hown hK hP3 hD3 hS3 0 rfl rfl 36 (by decide) (hts (.fieldLink RX11 159 "PhaselockModel" "losses" "I") (List.mem_cons_of_mem _ (List.mem_append_left _ (List.mem_of_getElem? (i := 7) rfl)))) (fun _ h9 => h9) rfl (by decide +kernel) rfl rfl (Nat.le_of_ble_eq_true rfl) dX11_aligns_186 (fun H4 L4 hP4 hD4 hS4 => ?_)
                replace hP4 : va_P D vwCl (wM a cZ cI (s_X11_aligns_14 S)) H4 := cvP (wM_s36 a cZ cI (s_X11_aligns_11 S) (v_X11_aligns_13 S)) hP4
                replace hD4 : va_D A (wM a cZ cI (s_X11_aligns_14 S)) := cvD (wM_s36 a cZ cI (s_X11_aligns_11 S) (v_X11_aligns_13 S)) hD4
                clear hP3 hD3 hS3
                refine lv_aload_n hx hb dX11_aligns_189 rfl (lv_at hl1 1 rfl) ?_
                refine lv_aload_n hx hb dX11_aligns_190 rfl (lv_at hl1 1 rfl) ?_
                refine va_get (D := D) (ci := 11) (v := .int ((s_X11_aligns_14 S).1 34)) (C := RX11) (T := TX11) (N := 37) hx hb hts (fun _ h => List.mem_cons_of_mem _ (List.mem_append_right _ (h))) hown hK hP4 0 rfl rfl 34 (by decide) (hts (.fieldLink RX11 153 "PhaselockModel" "misses" "I") (List.mem_cons_of_mem _ (List.mem_append_left _ (List.mem_of_getElem? (i := 5) rfl)))) (fun _ h9 => h9) rfl dX11_aligns_191 ?_
                refine lv_iconst (v := 3) hx hb dX11_aligns_194 (by decide) ?_
                have J5_195 : W p l e (headSpec wsX11_aligns rm_X11_aligns).room s m ([.ref (a 0)] : List Value).toArray below meth c H4 L4 0 0 Q (F0 m 203 ls1 [.int (v_X11_aligns_15 S), .ref (a 0)]) := by
                  refine va_put (D := D) (ci := 11) (v := .int (v_X11_aligns_15 S)) (ty := .int) (C := RX11) (T := TX11) (N := 37) hx hb hts (fun _ h => List.mem_cons_of_mem _ (List.mem_append_right _ (h))) tyX11 tyX11_ok nmX11 hown hK hP4 hD4 hS4 0 rfl rfl 31 (by decide) (hts (.fieldLink RX11 147 "PhaselockModel" "alignment" "I") (List.mem_cons_of_mem _ (List.mem_append_left _ (List.mem_of_getElem? (i := 3) rfl)))) (fun _ h9 => h9) rfl (by decide +kernel) rfl rfl (Nat.le_of_ble_eq_true rfl) dX11_aligns_203 (fun H5 L5 hP5 hD5 hS5 => ?_)
                  replace hP5 : va_P D vwCl (wM a cZ cI (s_X11_aligns_16 S)) H5 := cvP (wM_s31 a cZ cI (s_X11_aligns_14 S) (v_X11_aligns_15 S)) hP5
                  replace hD5 : va_D A (wM a cZ cI (s_X11_aligns_16 S)) := cvD (wM_s31 a cZ cI (s_X11_aligns_14 S) (v_X11_aligns_15 S)) hD5
                  clear hP4 hD4 hS4
                  exact J8_41 _ _ (va_asS (P := fun u => va_P D vwCl (wM a cZ cI u) H5) (show (s_X11_aligns_26 S) = (s_X11_aligns_16 S) from ((if_neg c3_41).trans ((if_pos c4_77).trans (if_neg c5_85)))) hP5) (va_asS (P := fun u => va_D A (wM a cZ cI u)) (show (s_X11_aligns_26 S) = (s_X11_aligns_16 S) from ((if_neg c3_41).trans ((if_pos c4_77).trans (if_neg c5_85)))) hD5) hS5
                refine lv_icmp_ne (tgt := 202) hx hb dX11_aligns_195 (by decide) (fun c9_195 => ?_) (fun c9_195 => ?_)
                · refine lv_iconst (v := 2) hx hb dX11_aligns_202 (by decide) ?_
                  refine lv_asi (y := (v_X11_aligns_15 S)) (show (v_X11_aligns_15 S) = 2 from (if_neg c9_195)).symm ?_
                  exact J5_195
                · refine lv_iconst (v := 0) hx hb dX11_aligns_198 (by decide) ?_
                  refine lv_goto (tgt := 203) hx hb dX11_aligns_199 (by decide) ?_
                  refine lv_asi (y := (v_X11_aligns_15 S)) (show (v_X11_aligns_15 S) = 0 from (if_pos c9_195)).symm ?_
                  exact J5_195
              refine lv_icmp_ne (tgt := 184) hx hb dX11_aligns_177 (by decide) (fun c8_177 => ?_) (fun c8_177 => ?_)
              · refine lv_iconst (v := 0) hx hb dX11_aligns_184 (by decide) ?_
                refine lv_asi (y := (v_X11_aligns_12 S)) (show (v_X11_aligns_12 S) = 0 from (if_neg c8_177)).symm ?_
                exact J4_177
              · refine lv_iconst (v := 1) hx hb dX11_aligns_180 (by decide) ?_
                refine lv_goto (tgt := 185) hx hb dX11_aligns_181 (by decide) ?_
                refine lv_asi (y := (v_X11_aligns_12 S)) (show (v_X11_aligns_12 S) = 1 from (if_pos c8_177)).symm ?_
                exact J4_177
            refine lv_if_eq (tgt := 158) hx hb dX11_aligns_151 (by decide) (fun c7_151 => ?_) (fun c7_151 => ?_)
            · refine lv_aload_n hx hb dX11_aligns_158 rfl (lv_at hl1 1 rfl) ?_
              refine va_get (D := D) (ci := 11) (v := .int ((s_X11_aligns_8 S).1 34)) (C := RX11) (T := TX11) (N := 37) hx hb hts (fun _ h => List.mem_cons_of_mem _ (List.mem_append_right _ (h))) hown hK hP2 0 rfl rfl 34 (by decide) (hts (.fieldLink RX11 153 "PhaselockModel" "misses" "I") (List.mem_cons_of_mem _ (List.mem_append_left _ (List.mem_of_getElem? (i := 5) rfl)))) (fun _ h9 => h9) rfl dX11_aligns_159 ?_
              refine lv_iconst (v := 1) hx hb dX11_aligns_162 (by decide) ?_
              refine lv_iadd hx hb dX11_aligns_163 ?_
              refine lv_asi (y := (v_X11_aligns_9 S)) rfl ?_
              refine lv_asi (y := (v_X11_aligns_10 S)) (show (v_X11_aligns_10 S) = (v_X11_aligns_9 S) from (if_pos c7_151)).symm ?_
              exact J3_151
            · refine lv_iconst (v := 0) hx hb dX11_aligns_154 (by decide) ?_
              refine lv_goto (tgt := 164) hx hb dX11_aligns_155 (by decide) ?_
              refine lv_asi (y := (v_X11_aligns_10 S)) (show (v_X11_aligns_10 S) = 0 from (if_neg c7_151)).symm ?_
              exact J3_151
          refine lv_if_eq (tgt := 144) hx hb dX11_aligns_137 (by decide) (fun c6_137 => ?_) (fun c6_137 => ?_)
          · refine lv_iconst (v := 0) hx hb dX11_aligns_144 (by decide) ?_
            refine lv_asi (y := (v_X11_aligns_6 S)) (show (v_X11_aligns_6 S) = 0 from (if_pos c6_137)).symm ?_
            exact J2_137
          · refine lv_iconst (v := 1) hx hb dX11_aligns_140 (by decide) ?_
            refine lv_goto (tgt := 145) hx hb dX11_aligns_141 (by decide) ?_
            refine lv_asi (y := (v_X11_aligns_6 S)) (show (v_X11_aligns_6 S) = 1 from (if_neg c6_137)).symm ?_
            exact J2_137
        · refine lv_aload_n hx hb dX11_aligns_88 rfl (lv_at hl1 1 rfl) ?_
          refine lv_dup hx hb dX11_aligns_89 rfl ?_
          refine va_get (D := D) (ci := 11) (v := .int ((s_X11_aligns_4 S).1 33)) (C := RX11) (T := TX11) (N := 37) hx hb hts (fun _ h => List.mem_cons_of_mem _ (List.mem_append_right _ (h))) hown hK hP1 0 rfl rfl 33 (by decide) (hts (.fieldLink RX11 150 "PhaselockModel" "matches" "I") (List.mem_cons_of_mem _ (List.mem_append_left _ (List.mem_of_getElem? (i := 4) rfl)))) (fun _ h9 => h9) rfl dX11_aligns_90 ?_
          refine lv_iconst (v := 1) hx hb dX11_aligns_93 (by decide) ?_
          refine lv_iadd hx hb dX11_aligns_94 ?_
          refine lv_asi (y := (v_X11_aligns_17 S)) rfl ?_
          refine va_put (D := D) (ci := 11) (v := .int (v_X11_aligns_17 S)) (ty := .int) (C := RX11) (T := TX11) (N := 37) hx hb hts (fun _ h => List.mem_cons_of_mem _ (List.mem_append_right _ (h))) tyX11 tyX11_ok nmX11 hown hK hP1 hD1 hS1 0 rfl rfl 33 (by decide) (hts (.fieldLink RX11 150 "PhaselockModel" "matches" "I") (List.mem_cons_of_mem _ (List.mem_append_left _ (List.mem_of_getElem? (i := 4) rfl)))) (fun _ h9 => h9) rfl (by decide +kernel) rfl rfl (Nat.le_of_ble_eq_true rfl) dX11_aligns_95 (fun H2 L2 hP2 hD2 hS2 => ?_)
          replace hP2 : va_P D vwCl (wM a cZ cI (s_X11_aligns_18 S)) H2 := cvP (wM_s33 a cZ cI (s_X11_aligns_4 S) (v_X11_aligns_17 S)) hP2
          replace hD2 : va_D A (wM a cZ cI (s_X11_aligns_18 S)) := cvD (wM_s33 a cZ cI (s_X11_aligns_4 S) (v_X11_aligns_17 S)) hD2
          clear hP1 hD1 hS1
          refine lv_aload_n hx hb dX11_aligns_98 rfl (lv_at hl1 1 rfl) ?_
          refine lv_iconst (v := 0) hx hb dX11_aligns_99 (by decide) ?_
          refine va_put (D := D) (ci := 11) (v := .int 0) (ty := .int) (C := RX11) (T := TX11) (N := 37) hx hb hts (fun _ h => List.mem_cons_of_mem _ (List.mem_append_right _ (h))) tyX11 tyX11_ok nmX11 hown hK hP2 hD2 hS2 0 rfl rfl 34 (by decide) (hts (.fieldLink RX11 153 "PhaselockModel" "misses" "I") (List.mem_cons_of_mem _ (List.mem_append_left _ (List.mem_of_getElem? (i := 5) rfl)))) (fun _ h9 => h9) rfl (by decide +kernel) rfl rfl (Nat.le_of_ble_eq_true rfl) dX11_aligns_100 (fun H3 L3 hP3 hD3 hS3 => ?_)
          replace hP3 : va_P D vwCl (wM a cZ cI (s_X11_aligns_19 S)) H3 := cvP (wM_s34 a cZ cI (s_X11_aligns_18 S) 0) hP3
          replace hD3 : va_D A (wM a cZ cI (s_X11_aligns_19 S)) := cvD (wM_s34 a cZ cI (s_X11_aligns_18 S) 0) hD3
          clear hP2 hD2 hS2
          refine lv_aload_n hx hb dX11_aligns_103 rfl (lv_at hl1 1 rfl) ?_
          refine lv_iload_n hx hb dX11_aligns_104 rfl (lv_at hl1 0 rfl) ?_
          have J6_105 : W p l e (headSpec wsX11_aligns rm_X11_aligns).room s m ([.ref (a 0)] : List Value).toArray below meth c H3 L3 0 0 Q (F0 m 125 ls1 [.int (v_X11_aligns_20 S), .ref (a 0)]) := by
            refine va_put (D := D) (ci := 11) (v := .int (v_X11_aligns_20 S)) (ty := .int) (C := RX11) (T := TX11) (N := 37) hx hb hts (fun _ h => List.mem_cons_of_mem _ (List.mem_append_right _ (h))) tyX11 tyX11_ok nmX11 hown hK hP3 hD3 hS3 0 rfl rfl 31 (by decide) (hts (.fieldLink RX11 147 "PhaselockModel" "alignment" "I") (List.mem_cons_of_mem _ (List.mem_append_left _ (List.mem_of_getElem? (i := 3) rfl)))) (fun _ h9 => h9) rfl (by decide +kernel) rfl rfl (Nat.le_of_ble_eq_true rfl) dX11_aligns_125 (fun H4 L4 hP4 hD4 hS4 => ?_)
            replace hP4 : va_P D vwCl (wM a cZ cI (s_X11_aligns_21 S)) H4 := cvP (wM_s31 a cZ cI (s_X11_aligns_19 S) (v_X11_aligns_20 S)) hP4
            replace hD4 : va_D A (wM a cZ cI (s_X11_aligns_21 S)) := cvD (wM_s31 a cZ cI (s_X11_aligns_19 S) (v_X11_aligns_20 S)) hD4
            clear hP3 hD3 hS3
            refine lv_goto (tgt := 206) hx hb dX11_aligns_128 (by decide) ?_
            exact J8_41 _ _ (va_asS (P := fun u => va_P D vwCl (wM a cZ cI u) H4) (show (s_X11_aligns_26 S) = (s_X11_aligns_21 S) from ((if_neg c3_41).trans ((if_pos c4_77).trans (if_pos c5_85)))) hP4) (va_asS (P := fun u => va_D A (wM a cZ cI u)) (show (s_X11_aligns_26 S) = (s_X11_aligns_21 S) from ((if_neg c3_41).trans ((if_pos c4_77).trans (if_pos c5_85)))) hD4) hS4
          refine lv_if_ne (tgt := 112) hx hb dX11_aligns_105 (by decide) (fun c10_105 => ?_) (fun c10_105 => ?_)
          · refine lv_aload_n hx hb dX11_aligns_112 rfl (lv_at hl1 1 rfl) ?_
            refine va_get (D := D) (ci := 11) (v := .int ((s_X11_aligns_19 S).1 33)) (C := RX11) (T := TX11) (N := 37) hx hb hts (fun _ h => List.mem_cons_of_mem _ (List.mem_append_right _ (h))) hown hK hP3 0 rfl rfl 33 (by decide) (hts (.fieldLink RX11 150 "PhaselockModel" "matches" "I") (List.mem_cons_of_mem _ (List.mem_append_left _ (List.mem_of_getElem? (i := 4) rfl)))) (fun _ h9 => h9) rfl dX11_aligns_113 ?_
            refine lv_iconst (v := 2) hx hb dX11_aligns_116 (by decide) ?_
            refine lv_icmp_ne (tgt := 124) hx hb dX11_aligns_117 (by decide) (fun c11_117 => ?_) (fun c11_117 => ?_)
            · refine lv_iconst (v := 1) hx hb dX11_aligns_124 (by decide) ?_
              refine lv_asi (y := (v_X11_aligns_20 S)) (show (v_X11_aligns_20 S) = 1 from ((if_neg c10_105).trans (if_neg c11_117))).symm ?_
              exact J6_105
            · refine lv_iconst (v := 2) hx hb dX11_aligns_120 (by decide) ?_
              refine lv_goto (tgt := 125) hx hb dX11_aligns_121 (by decide) ?_
              refine lv_asi (y := (v_X11_aligns_20 S)) (show (v_X11_aligns_20 S) = 2 from ((if_neg c10_105).trans (if_pos c11_117))).symm ?_
              exact J6_105
          · refine lv_iconst (v := 0) hx hb dX11_aligns_108 (by decide) ?_
            refine lv_goto (tgt := 125) hx hb dX11_aligns_109 (by decide) ?_
            refine lv_asi (y := (v_X11_aligns_20 S)) (show (v_X11_aligns_20 S) = 0 from (if_pos c10_105)).symm ?_
            exact J6_105
    · refine lv_aload_n hx hb dX11_aligns_44 rfl (lv_at hl1 1 rfl) ?_
      refine lv_iload_n hx hb dX11_aligns_45 rfl (lv_at hl1 0 rfl) ?_
      have J7_46 : W p l e (headSpec wsX11_aligns rm_X11_aligns).room s m ([.ref (a 0)] : List Value).toArray below meth c H1 L1 0 0 Q (F0 m 54 ls1 [.int (v_X11_aligns_22 S), .ref (a 0)]) := by
        refine va_put (D := D) (ci := 11) (v := .int (v_X11_aligns_22 S)) (ty := .int) (C := RX11) (T := TX11) (N := 37) hx hb hts (fun _ h => List.mem_cons_of_mem _ (List.mem_append_right _ (h))) tyX11 tyX11_ok nmX11 hown hK hP1 hD1 hS1 0 rfl rfl 31 (by decide) (hts (.fieldLink RX11 147 "PhaselockModel" "alignment" "I") (List.mem_cons_of_mem _ (List.mem_append_left _ (List.mem_of_getElem? (i := 3) rfl)))) (fun _ h9 => h9) rfl (by decide +kernel) rfl rfl (Nat.le_of_ble_eq_true rfl) dX11_aligns_54 (fun H2 L2 hP2 hD2 hS2 => ?_)
        replace hP2 : va_P D vwCl (wM a cZ cI (s_X11_aligns_23 S)) H2 := cvP (wM_s31 a cZ cI (s_X11_aligns_4 S) (v_X11_aligns_22 S)) hP2
        replace hD2 : va_D A (wM a cZ cI (s_X11_aligns_23 S)) := cvD (wM_s31 a cZ cI (s_X11_aligns_4 S) (v_X11_aligns_22 S)) hD2
        clear hP1 hD1 hS1
        refine lv_aload_n hx hb dX11_aligns_57 rfl (lv_at hl1 1 rfl) ?_
        refine lv_iconst (v := 0) hx hb dX11_aligns_58 (by decide) ?_
        refine va_put (D := D) (ci := 11) (v := .int 0) (ty := .int) (C := RX11) (T := TX11) (N := 37) hx hb hts (fun _ h => List.mem_cons_of_mem _ (List.mem_append_right _ (h))) tyX11 tyX11_ok nmX11 hown hK hP2 hD2 hS2 0 rfl rfl 33 (by decide) (hts (.fieldLink RX11 150 "PhaselockModel" "matches" "I") (List.mem_cons_of_mem _ (List.mem_append_left _ (List.mem_of_getElem? (i := 4) rfl)))) (fun _ h9 => h9) rfl (by decide +kernel) rfl rfl (Nat.le_of_ble_eq_true rfl) dX11_aligns_59 (fun H3 L3 hP3 hD3 hS3 => ?_)
        replace hP3 : va_P D vwCl (wM a cZ cI (s_X11_aligns_24 S)) H3 := cvP (wM_s33 a cZ cI (s_X11_aligns_23 S) 0) hP3
        replace hD3 : va_D A (wM a cZ cI (s_X11_aligns_24 S)) := cvD (wM_s33 a cZ cI (s_X11_aligns_23 S) 0) hD3
        clear hP2 hD2 hS2
        refine lv_aload_n hx hb dX11_aligns_62 rfl (lv_at hl1 1 rfl) ?_
        refine lv_iconst (v := 0) hx hb dX11_aligns_63 (by decide) ?_
        refine va_put (D := D) (ci := 11) (v := .int 0) (ty := .int) (C := RX11) (T := TX11) (N := 37) hx hb hts (fun _ h => List.mem_cons_of_mem _ (List.mem_append_right _ (h))) tyX11 tyX11_ok nmX11 hown hK hP3 hD3 hS3 0 rfl rfl 32 (by decide) (hts (.fieldLink RX11 144 "PhaselockModel" "sinceHunt" "I") (List.mem_cons_of_mem _ (List.mem_append_left _ (List.mem_of_getElem? (i := 2) rfl)))) (fun _ h9 => h9) rfl (by decide +kernel) rfl rfl (Nat.le_of_ble_eq_true rfl) dX11_aligns_64 (fun H4 L4 hP4 hD4 hS4 => ?_)
        replace hP4 : va_P D vwCl (wM a cZ cI (s_X11_aligns_25 S)) H4 := cvP (wM_s32 a cZ cI (s_X11_aligns_24 S) 0) hP4
        replace hD4 : va_D A (wM a cZ cI (s_X11_aligns_25 S)) := cvD (wM_s32 a cZ cI (s_X11_aligns_24 S) 0) hD4
        clear hP3 hD3 hS3
        refine lv_goto (tgt := 206) hx hb dX11_aligns_67 (by decide) ?_
        exact J8_41 _ _ (va_asS (P := fun u => va_P D vwCl (wM a cZ cI u) H4) (show (s_X11_aligns_26 S) = (s_X11_aligns_25 S) from (if_pos c3_41)) hP4) (va_asS (P := fun u => va_D A (wM a cZ cI u)) (show (s_X11_aligns_26 S) = (s_X11_aligns_25 S) from (if_pos c3_41)) hD4) hS4
      refine lv_if_eq (tgt := 53) hx hb dX11_aligns_46 (by decide) (fun c12_46 => ?_) (fun c12_46 => ?_)
      · refine lv_iconst (v := 0) hx hb dX11_aligns_53 (by decide) ?_
        refine lv_asi (y := (v_X11_aligns_22 S)) (show (v_X11_aligns_22 S) = 0 from (if_pos c12_46)).symm ?_
        exact J7_46
      · refine lv_iconst (v := 1) hx hb dX11_aligns_49 (by decide) ?_
        refine lv_goto (tgt := 54) hx hb dX11_aligns_50 (by decide) ?_
        refine lv_asi (y := (v_X11_aligns_22 S)) (show (v_X11_aligns_22 S) = 1 from (if_neg c12_46)).symm ?_
        exact J7_46
  refine lv_icmp_lt (tgt := 25) hx hb dX11_aligns_6 (by decide) (fun c1_6 => ?_) (fun c1_6 => ?_)
  · refine lv_iconst (v := 0) hx hb dX11_aligns_25 (by decide) ?_
    refine lv_asi (y := (v_X11_aligns_2 S)) (show (v_X11_aligns_2 S) = 0 from (if_pos c1_6)).symm ?_
    exact J1_6
  · refine lv_aload_n hx hb dX11_aligns_9 rfl (lv_at hl0 0 rfl) ?_
    refine va_get (D := D) (ci := 11) (v := .int (S.1 25)) (C := RX11) (T := TX11) (N := 37) hx hb hts (fun _ h => List.mem_cons_of_mem _ (List.mem_append_right _ (h))) hown hK hP0 0 rfl rfl 25 (by decide) (hts (.fieldLink RX11 96 "PhaselockModel" "bits" "I") (List.mem_cons_of_mem _ (List.mem_append_left _ (List.mem_of_getElem? (i := 1) rfl)))) (fun _ h9 => h9) rfl dX11_aligns_10 ?_
    refine lv_bipush (v := 63) hx hb dX11_aligns_13 (by decide) ?_
    refine lv_iand hx hb dX11_aligns_15 ?_
    refine lv_asi (y := (v_X11_aligns_1 S)) rfl ?_
    refine lv_bipush (v := 52) hx hb dX11_aligns_16 (by decide) ?_
    refine lv_icmp_ne (tgt := 25) hx hb dX11_aligns_18 (by decide) (fun c2_18 => ?_) (fun c2_18 => ?_)
    · refine lv_iconst (v := 0) hx hb dX11_aligns_25 (by decide) ?_
      refine lv_asi (y := (v_X11_aligns_2 S)) (show (v_X11_aligns_2 S) = 0 from ((if_neg c1_6).trans (if_neg c2_18))).symm ?_
      exact J1_6
    · refine lv_iconst (v := 1) hx hb dX11_aligns_21 (by decide) ?_
      refine lv_goto (tgt := 26) hx hb dX11_aligns_22 (by decide) ?_
      refine lv_asi (y := (v_X11_aligns_2 S)) (show (v_X11_aligns_2 S) = 1 from ((if_neg c1_6).trans (if_pos c2_18))).symm ?_
      exact J1_6

def v_X11_receives_1 (S : St) : Int32 := (S.1 5) - (S.1 26)
def v_X11_receives_2 (S : St) : Int32 := if (S.1 24) ≤ 0 then 0 else if (v_X11_receives_1 S) = 1 then 0 else 1
def v_X11_receives_3 (S : St) : Int32 := if (v_X11_receives_2 S) = 0 then 0 else if (v_X11_receives_1 S) = 0 then 1 else 0
def v_X11_receives_4 (S : St) : Int32 := (S.1 27) + (v_X11_receives_3 S)
def s_X11_receives_5 (S : St) : St := si S 27 (v_X11_receives_4 S)
def v_X11_receives_6 (S : St) : Int32 := (v_X11_receives_1 S) - 1
def v_X11_receives_7 (S : St) : Int32 := if (v_X11_receives_2 S) = 0 then 0 else if (v_X11_receives_1 S) ≤ 1 then 0 else (v_X11_receives_6 S)
def v_X11_receives_8 (S : St) : Int32 := ((s_X11_receives_5 S).1 28) + (v_X11_receives_7 S)
def s_X11_receives_9 (S : St) : St := si (s_X11_receives_5 S) 28 (v_X11_receives_8 S)
def v_X11_receives_10 (S : St) : Int32 := ((s_X11_receives_9 S).1 29) <<< (1 &&& 31)
def v_X11_receives_11 (S : St) : Int32 := if (v_X11_receives_2 S) = 0 then 0 else 1
def v_X11_receives_12 (S : St) : Int32 := (v_X11_receives_10 S) ||| (v_X11_receives_11 S)
def s_X11_receives_13 (S : St) : St := si (s_X11_receives_9 S) 29 (v_X11_receives_12 S)
def v_X11_receives_14 (S : St) : Int32 := ((s_X11_receives_13 S).1 24) - ((s_X11_receives_13 S).1 24) / 32 * 32
def v_X11_receives_15 (S : St) : Int32 := ((s_X11_receives_13 S).1 1) - 32768
def s_X11_receives_16 (S : St) : St := sf (s_X11_receives_13 S) ((v_X11_receives_14 S)).toNatClampNeg (v_X11_receives_15 S)
def s_X11_receives_17 (S : St) : St := si (s_X11_receives_16 S) 26 ((s_X11_receives_16 S).1 5)
def v_X11_receives_18 (S : St) : Int32 := ((s_X11_receives_17 S).1 25) <<< (1 &&& 31)
def v_X11_receives_19 (S : St) : Int32 := (v_X11_receives_18 S) ||| ((s_X11_receives_17 S).1 7)
def s_X11_receives_20 (S : St) : St := si (s_X11_receives_17 S) 25 (v_X11_receives_19 S)
def v_X11_receives_21 (S : St) : Int32 := ((s_X11_receives_20 S).1 24) + 1
def s_X11_receives_22 (S : St) : St := si (s_X11_receives_20 S) 24 (v_X11_receives_21 S)
def v_X11_receives_23 (S : St) : Int32 := r_X11_measured (s_X11_receives_22 S)
def s_X11_receives_24 (S : St) : St := s_X11_measures (s_X11_receives_22 S) (v_X11_receives_23 S)
def s_X11_receives_25 (S : St) : St := if 4 ≤ ((s_X11_receives_22 S).1 15) then (s_X11_receives_22 S) else (s_X11_receives_24 S)
def s_X11_receives_26 (S : St) : St := si (s_X11_receives_25 S) 18 0
def s_X11_receives_27 (S : St) : St := si (s_X11_receives_26 S) 19 0
def v_X11_receives_28 (S : St) : Int32 := r_X11_levelNow (s_X11_receives_27 S)
def s_X11_receives_29 (S : St) : St := si (s_X11_receives_27 S) 23 (v_X11_receives_28 S)
def s_X11_receives_30 (S : St) : St := s_X11_aligns (s_X11_receives_29 S)
def s_X11_receives (S : St) : St := (s_X11_receives_30 S)
def rm_X11_receives : Room := { frames := 2, cells := 0, slots := 0, locals := 43 }
set_option maxRecDepth 100000 in
set_option maxHeartbeats 4000000 in
theorem k_X11_receives (l : Launch) (D : va_G) (a : Nat → Nat) (cZ cI : ClassId) (S : St) (sz : Nat) (n : Nat) (hn : n < 2000000) (hm : okM n S) : Met l yX11_receives wsX11_receives rm_X11_receives (va_Pc [.ref (a 0)] (pW D (tyZI cZ cI) (wM a cZ cI S) sz nT)) (va_Qv (fun u : St => u = s_X11_receives S) (fun u t => oW D (tyZI cZ cI) (wM a cZ cI u) (aA (adM a) sz) t) (aA (adM a) sz)) 0 0 (aA (adM a) sz) := by
  refine Met.ofW (cc := cX11_receives) (maxL := 3) (ret := none) (by decide +kernel) rfl ?_
  intro p e s m args below meth c s₁ B hml hv
  obtain ⟨rfl, hsz, hP0, hK, hD9, hN⟩ := hv
  have hx := B.exec
  have hb := B.bytes
  have hr := B.returns
  have hts := atoms_spec (ws := wsX11_receives) B.pre
  have hown : s.vm.findClass RX11 = some m.cls := findClass_of_methodNamed B.named
  have hlocks := B.notSynchronized
  subst hsz
  have hD0 := aA_self (sz := s.heap.size) (as := adM a) hD9 rfl
  generalize hAe : aA (adM a) s.heap.size = A at hD0 ⊢
  have hA : ∀ q : Nat, s.heap.size ≤ q → A q := fun q h => by rw [← hAe]; exact Or.inr h
  have hAc : ∀ q : Nat, q ∈ adM a → A q := fun q h => by rw [← hAe]; exact Or.inl h
  have hS0 : va_S A s.heap s.heap [] := va_S.rf
  have hl0 := lv_entry ([.ref (a 0)]) (n := 3) (Nat.le_of_ble_eq_true rfl)
  rw [lg_entry_eq]
  generalize (lg_sl ([.ref (a 0)]) ++ List.replicate (3 - (lg_sl ([.ref (a 0)])).length) Slot.unset).toArray = ls0 at hl0 ⊢
  have hl0 : lv_has ls0 3 [(0, .ref (a 0))] := hl0
  generalize hQ : MQ below _ _ s _ _ _ = Q
  clear hD9 B
  refine lv_aload_n hx hb dX11_receives_0 rfl (lv_at hl0 0 rfl) ?_
  refine va_get (D := D) (ci := 11) (v := .int (S.1 5)) (C := RX11) (T := TX11) (N := 37) hx hb hts (fun _ h => List.mem_cons_of_mem _ (List.mem_append_right _ (h))) hown hK hP0 0 rfl rfl 5 (by decide) (hts (.fieldLink RX11 75 "PhaselockModel" "sent" "I") (List.mem_cons_of_mem _ (List.mem_append_left _ (List.mem_append_left _ (List.mem_of_getElem? (i := 0) rfl))))) (fun _ h9 => h9) rfl dX11_receives_1 ?_
  refine lv_aload_n hx hb dX11_receives_4 rfl (lv_at hl0 0 rfl) ?_
  refine va_get (D := D) (ci := 11) (v := .int (S.1 26)) (C := RX11) (T := TX11) (N := 37) hx hb hts (fun _ h => List.mem_cons_of_mem _ (List.mem_append_right _ (h))) hown hK hP0 0 rfl rfl 26 (by decide) (hts (.fieldLink RX11 121 "PhaselockModel" "sentBefore" "I") (List.mem_cons_of_mem _ (List.mem_append_left _ (List.mem_append_left _ (List.mem_of_getElem? (i := 1) rfl))))) (fun _ h9 => h9) rfl dX11_receives_5 ?_
  refine lv_isub hx hb dX11_receives_8 ?_
  refine lv_asi (y := (v_X11_receives_1 S)) rfl ?_
  refine lv_istore_n (lv' := [(1, .int (v_X11_receives_1 S)), (0, .ref (a 0))]) hx hb dX11_receives_9 rfl hl0 (by decide) rfl (fun ls1 hl1 => ?_)
  clear hl0
  refine lv_aload_n hx hb dX11_receives_10 rfl (lv_at hl1 1 rfl) ?_
  refine va_get (D := D) (ci := 11) (v := .int (S.1 24)) (C := RX11) (T := TX11) (N := 37) hx hb hts (fun _ h => List.mem_cons_of_mem _ (List.mem_append_right _ (h))) hown hK hP0 0 rfl rfl 24 (by decide) (hts (.fieldLink RX11 99 "PhaselockModel" "received" "I") (List.mem_cons_of_mem _ (List.mem_append_left _ (List.mem_append_left _ (List.mem_of_getElem? (i := 2) rfl))))) (fun _ h9 => h9) rfl dX11_receives_11 ?_
  have J1_14 : W p l e (headSpec wsX11_receives rm_X11_receives).room s m ([.ref (a 0)] : List Value).toArray below meth c s.heap [] 0 0 Q (F0 m 27 ls1 [.int (v_X11_receives_2 S)]) := by
    refine lv_istore_n (lv' := [(2, .int (v_X11_receives_2 S)), (1, .int (v_X11_receives_1 S)), (0, .ref (a 0))]) hx hb dX11_receives_27 rfl hl1 (by decide) rfl (fun ls2 hl2 => ?_)
    clear hl1
    refine lv_aload_n hx hb dX11_receives_28 rfl (lv_at hl2 2 rfl) ?_
    refine lv_dup hx hb dX11_receives_29 rfl ?_
    refine va_get (D := D) (ci := 11) (v := .int (S.1 27)) (C := RX11) (T := TX11) (N := 37) hx hb hts (fun _ h => List.mem_cons_of_mem _ (List.mem_append_right _ (h))) hown hK hP0 0 rfl rfl 27 (by decide) (hts (.fieldLink RX11 124 "PhaselockModel" "repeated" "I") (List.mem_cons_of_mem _ (List.mem_append_left _ (List.mem_append_left _ (List.mem_of_getElem? (i := 3) rfl))))) (fun _ h9 => h9) rfl dX11_receives_30 ?_
    refine lv_iload_n hx hb dX11_receives_33 rfl (lv_at hl2 0 rfl) ?_
    have J2_34 : W p l e (headSpec wsX11_receives rm_X11_receives).room s m ([.ref (a 0)] : List Value).toArray below meth c s.heap [] 0 0 Q (F0 m 46 ls2 [.int (v_X11_receives_3 S), .int (S.1 27), .ref (a 0)]) := by
      refine lv_iadd hx hb dX11_receives_46 ?_
      refine lv_asi (y := (v_X11_receives_4 S)) rfl ?_
      refine va_put (D := D) (ci := 11) (v := .int (v_X11_receives_4 S)) (ty := .int) (C := RX11) (T := TX11) (N := 37) hx hb hts (fun _ h => List.mem_cons_of_mem _ (List.mem_append_right _ (h))) tyX11 tyX11_ok nmX11 hown hK hP0 hD0 hS0 0 rfl rfl 27 (by decide) (hts (.fieldLink RX11 124 "PhaselockModel" "repeated" "I") (List.mem_cons_of_mem _ (List.mem_append_left _ (List.mem_append_left _ (List.mem_of_getElem? (i := 3) rfl))))) (fun _ h9 => h9) rfl (by decide +kernel) rfl rfl (Nat.le_of_ble_eq_true rfl) dX11_receives_47 (fun H1 L1 hP1 hD1 hS1 => ?_)
      replace hP1 : va_P D vwCl (wM a cZ cI (s_X11_receives_5 S)) H1 := cvP (wM_s27 a cZ cI S (v_X11_receives_4 S)) hP1
      replace hD1 : va_D A (wM a cZ cI (s_X11_receives_5 S)) := cvD (wM_s27 a cZ cI S (v_X11_receives_4 S)) hD1
      clear hP0 hD0 hS0
      refine lv_aload_n hx hb dX11_receives_50 rfl (lv_at hl2 2 rfl) ?_
      refine lv_dup hx hb dX11_receives_51 rfl ?_
      refine va_get (D := D) (ci := 11) (v := .int ((s_X11_receives_5 S).1 28)) (C := RX11) (T := TX11) (N := 37) hx hb hts (fun _ h => List.mem_cons_of_mem _ (List.mem_append_right _ (h))) hown hK hP1 0 rfl rfl 28 (by decide) (hts (.fieldLink RX11 127 "PhaselockModel" "skipped" "I") (List.mem_cons_of_mem _ (List.mem_append_left _ (List.mem_append_left _ (List.mem_of_getElem? (i := 4) rfl))))) (fun _ h9 => h9) rfl dX11_receives_52 ?_
      refine lv_iload_n hx hb dX11_receives_55 rfl (lv_at hl2 0 rfl) ?_
      have J3_56 : W p l e (headSpec wsX11_receives rm_X11_receives).room s m ([.ref (a 0)] : List Value).toArray below meth c H1 L1 0 0 Q (F0 m 71 ls2 [.int (v_X11_receives_7 S), .int ((s_X11_receives_5 S).1 28), .ref (a 0)]) := by
        refine lv_iadd hx hb dX11_receives_71 ?_
        refine lv_asi (y := (v_X11_receives_8 S)) rfl ?_
        refine va_put (D := D) (ci := 11) (v := .int (v_X11_receives_8 S)) (ty := .int) (C := RX11) (T := TX11) (N := 37) hx hb hts (fun _ h => List.mem_cons_of_mem _ (List.mem_append_right _ (h))) tyX11 tyX11_ok nmX11 hown hK hP1 hD1 hS1 0 rfl rfl 28 (by decide) (hts (.fieldLink RX11 127 "PhaselockModel" "skipped" "I") (List.mem_cons_of_mem _ (List.mem_append_left _ (List.mem_append_left _ (List.mem_of_getElem? (i := 4) rfl))))) (fun _ h9 => h9) rfl (by decide +kernel) rfl rfl (Nat.le_of_ble_eq_true rfl) dX11_receives_72 (fun H2 L2 hP2 hD2 hS2 => ?_)
        replace hP2 : va_P D vwCl (wM a cZ cI (s_X11_receives_9 S)) H2 := cvP (wM_s28 a cZ cI (s_X11_receives_5 S) (v_X11_receives_8 S)) hP2
        replace hD2 : va_D A (wM a cZ cI (s_X11_receives_9 S)) := cvD (wM_s28 a cZ cI (s_X11_receives_5 S) (v_X11_receives_8 S)) hD2
        clear hP1 hD1 hS1
        refine lv_aload_n hx hb dX11_receives_75 rfl (lv_at hl2 2 rfl) ?_
        refine lv_aload_n hx hb dX11_receives_76 rfl (lv_at hl2 2 rfl) ?_
        refine va_get (D := D) (ci := 11) (v := .int ((s_X11_receives_9 S).1 29)) (C := RX11) (T := TX11) (N := 37) hx hb hts (fun _ h => List.mem_cons_of_mem _ (List.mem_append_right _ (h))) hown hK hP2 0 rfl rfl 29 (by decide) (hts (.fieldLink RX11 130 "PhaselockModel" "slips" "I") (List.mem_cons_of_mem _ (List.mem_append_left _ (List.mem_append_left _ (List.mem_of_getElem? (i := 5) rfl))))) (fun _ h9 => h9) rfl dX11_receives_77 ?_
        refine lv_iconst (v := 1) hx hb dX11_receives_80 (by decide) ?_
        refine lv_ishl hx hb dX11_receives_81 ?_
        refine lv_asi (y := (v_X11_receives_10 S)) rfl ?_
        refine lv_iload_n hx hb dX11_receives_82 rfl (lv_at hl2 0 rfl) ?_
        have J4_83 : W p l e (headSpec wsX11_receives rm_X11_receives).room s m ([.ref (a 0)] : List Value).toArray below meth c H2 L2 0 0 Q (F0 m 91 ls2 [.int (v_X11_receives_11 S), .int (v_X11_receives_10 S), .ref (a 0)]) := by
          refine lv_ior hx hb dX11_receives_91 ?_
          refine lv_asi (y := (v_X11_receives_12 S)) rfl ?_
          refine va_put (D := D) (ci := 11) (v := .int (v_X11_receives_12 S)) (ty := .int) (C := RX11) (T := TX11) (N := 37) hx hb hts (fun _ h => List.mem_cons_of_mem _ (List.mem_append_right _ (h))) tyX11 tyX11_ok nmX11 hown hK hP2 hD2 hS2 0 rfl rfl 29 (by decide) (hts (.fieldLink RX11 130 "PhaselockModel" "slips" "I") (List.mem_cons_of_mem _ (List.mem_append_left _ (List.mem_append_left _ (List.mem_of_getElem? (i := 5) rfl))))) (fun _ h9 => h9) rfl (by decide +kernel) rfl rfl (Nat.le_of_ble_eq_true rfl) dX11_receives_92 (fun H3 L3 hP3 hD3 hS3 => ?_)
          replace hP3 : va_P D vwCl (wM a cZ cI (s_X11_receives_13 S)) H3 := cvP (wM_s29 a cZ cI (s_X11_receives_9 S) (v_X11_receives_12 S)) hP3
          replace hD3 : va_D A (wM a cZ cI (s_X11_receives_13 S)) := cvD (wM_s29 a cZ cI (s_X11_receives_9 S) (v_X11_receives_12 S)) hD3
          clear hP2 hD2 hS2
          refine lv_aload_n hx hb dX11_receives_95 rfl (lv_at hl2 2 rfl) ?_
          refine va_get (D := D) (ci := 11) (v := .ref (a 2)) (C := RX11) (T := TX11) (N := 37) hx hb hts (fun _ h => List.mem_cons_of_mem _ (List.mem_append_right _ (h))) hown hK hP3 0 rfl rfl 30 (by decide) (hts (.fieldLink RX11 37 "PhaselockModel" "phases" "[I") (List.mem_cons_of_mem _ (List.mem_append_left _ (List.mem_append_left _ (List.mem_of_getElem? (i := 6) rfl))))) (fun _ h9 => h9) rfl dX11_receives_96 ?_
          refine lv_aload_n hx hb dX11_receives_99 rfl (lv_at hl2 2 rfl) ?_
          refine va_get (D := D) (ci := 11) (v := .int ((s_X11_receives_13 S).1 24)) (C := RX11) (T := TX11) (N := 37) hx hb hts (fun _ h => List.mem_cons_of_mem _ (List.mem_append_right _ (h))) hown hK hP3 0 rfl rfl 24 (by decide) (hts (.fieldLink RX11 99 "PhaselockModel" "received" "I") (List.mem_cons_of_mem _ (List.mem_append_left _ (List.mem_append_left _ (List.mem_of_getElem? (i := 2) rfl))))) (fun _ h9 => h9) rfl dX11_receives_100 ?_
          refine lv_bipush (v := 32) hx hb dX11_receives_103 (by decide) ?_
          refine lv_irem hx hb dX11_receives_105 (by decide) ?_
          refine lv_asi (y := (v_X11_receives_14 S)) rfl ?_
          refine lv_aload_n hx hb dX11_receives_106 rfl (lv_at hl2 2 rfl) ?_
          refine va_get (D := D) (ci := 11) (v := .int ((s_X11_receives_13 S).1 1)) (C := RX11) (T := TX11) (N := 37) hx hb hts (fun _ h => List.mem_cons_of_mem _ (List.mem_append_right _ (h))) hown hK hP3 0 rfl rfl 1 (by decide) (hts (.fieldLink RX11 86 "PhaselockModel" "senderPhase" "I") (List.mem_cons_of_mem _ (List.mem_append_left _ (List.mem_append_left _ (List.mem_of_getElem? (i := 7) rfl))))) (fun _ h9 => h9) rfl dX11_receives_107 ?_
          refine lv_ldc (v := 32768) hx hb hown (hts (.constant RX11 133 (32768)) (List.mem_cons_of_mem _ (List.mem_append_left _ (List.mem_append_left _ (List.mem_of_getElem? (i := 8) rfl))))) dX11_receives_110 ?_
          refine lv_isub hx hb dX11_receives_112 ?_
          refine lv_asi (y := (v_X11_receives_15 S)) rfl ?_
          refine va_iast (D := D) hx hb hK hP3 hD3 hS3 2 1 rfl rfl (irem_in (n := rc S) (m := 32) hm.2.2.1 rfl (by have := hm.2.2.2; omega) (by decide) (by decide)) dX11_receives_113 (fun H4 L4 hP4 hD4 hS4 => ?_)
          replace hP4 : va_P D vwCl (wM a cZ cI (s_X11_receives_16 S)) H4 := cvP (wM_f a cZ cI (s_X11_receives_13 S) ((v_X11_receives_14 S)).toNatClampNeg (v_X11_receives_15 S)) hP4
          replace hD4 : va_D A (wM a cZ cI (s_X11_receives_16 S)) := cvD (wM_f a cZ cI (s_X11_receives_13 S) ((v_X11_receives_14 S)).toNatClampNeg (v_X11_receives_15 S)) hD4
          clear hP3 hD3 hS3
          refine lv_aload_n hx hb dX11_receives_114 rfl (lv_at hl2 2 rfl) ?_
          refine lv_aload_n hx hb dX11_receives_115 rfl (lv_at hl2 2 rfl) ?_
          refine va_get (D := D) (ci := 11) (v := .int ((s_X11_receives_16 S).1 5)) (C := RX11) (T := TX11) (N := 37) hx hb hts (fun _ h => List.mem_cons_of_mem _ (List.mem_append_right _ (h))) hown hK hP4 0 rfl rfl 5 (by decide) (hts (.fieldLink RX11 75 "PhaselockModel" "sent" "I") (List.mem_cons_of_mem _ (List.mem_append_left _ (List.mem_append_left _ (List.mem_of_getElem? (i := 0) rfl))))) (fun _ h9 => h9) rfl dX11_receives_116 ?_
          refine va_put (D := D) (ci := 11) (v := .int ((s_X11_receives_16 S).1 5)) (ty := .int) (C := RX11) (T := TX11) (N := 37) hx hb hts (fun _ h => List.mem_cons_of_mem _ (List.mem_append_right _ (h))) tyX11 tyX11_ok nmX11 hown hK hP4 hD4 hS4 0 rfl rfl 26 (by decide) (hts (.fieldLink RX11 121 "PhaselockModel" "sentBefore" "I") (List.mem_cons_of_mem _ (List.mem_append_left _ (List.mem_append_left _ (List.mem_of_getElem? (i := 1) rfl))))) (fun _ h9 => h9) rfl (by decide +kernel) rfl rfl (Nat.le_of_ble_eq_true rfl) dX11_receives_119 (fun H5 L5 hP5 hD5 hS5 => ?_)
          replace hP5 : va_P D vwCl (wM a cZ cI (s_X11_receives_17 S)) H5 := cvP (wM_s26 a cZ cI (s_X11_receives_16 S) ((s_X11_receives_16 S).1 5)) hP5
          replace hD5 : va_D A (wM a cZ cI (s_X11_receives_17 S)) := cvD (wM_s26 a cZ cI (s_X11_receives_16 S) ((s_X11_receives_16 S).1 5)) hD5
          clear hP4 hD4 hS4
          refine lv_aload_n hx hb dX11_receives_122 rfl (lv_at hl2 2 rfl) ?_
          refine lv_aload_n hx hb dX11_receives_123 rfl (lv_at hl2 2 rfl) ?_
          refine va_get (D := D) (ci := 11) (v := .int ((s_X11_receives_17 S).1 25)) (C := RX11) (T := TX11) (N := 37) hx hb hts (fun _ h => List.mem_cons_of_mem _ (List.mem_append_right _ (h))) hown hK hP5 0 rfl rfl 25 (by decide) (hts (.fieldLink RX11 96 "PhaselockModel" "bits" "I") (List.mem_cons_of_mem _ (List.mem_append_left _ (List.mem_append_left _ (List.mem_of_getElem? (i := 9) rfl))))) (fun _ h9 => h9) rfl dX11_receives_124 ?_
          refine lv_iconst (v := 1) hx hb dX11_receives_127 (by decide) ?_
          refine lv_ishl hx hb dX11_receives_128 ?_
          refine lv_asi (y := (v_X11_receives_18 S)) rfl ?_
          refine lv_aload_n hx hb dX11_receives_129 rfl (lv_at hl2 2 rfl) ?_
          refine va_get (D := D) (ci := 11) (v := .int ((s_X11_receives_17 S).1 7)) (C := RX11) (T := TX11) (N := 37) hx hb hts (fun _ h => List.mem_cons_of_mem _ (List.mem_append_right _ (h))) hown hK hP5 0 rfl rfl 7 (by decide) (hts (.fieldLink RX11 20 "PhaselockModel" "value" "I") (List.mem_cons_of_mem _ (List.mem_append_left _ (List.mem_append_left _ (List.mem_of_getElem? (i := 10) rfl))))) (fun _ h9 => h9) rfl dX11_receives_130 ?_
          refine lv_ior hx hb dX11_receives_133 ?_
          refine lv_asi (y := (v_X11_receives_19 S)) rfl ?_
          refine va_put (D := D) (ci := 11) (v := .int (v_X11_receives_19 S)) (ty := .int) (C := RX11) (T := TX11) (N := 37) hx hb hts (fun _ h => List.mem_cons_of_mem _ (List.mem_append_right _ (h))) tyX11 tyX11_ok nmX11 hown hK hP5 hD5 hS5 0 rfl rfl 25 (by decide) (hts (.fieldLink RX11 96 "PhaselockModel" "bits" "I") (List.mem_cons_of_mem _ (List.mem_append_left _ (List.mem_append_left _ (List.mem_of_getElem? (i := 9) rfl))))) (fun _ h9 => h9) rfl (by decide +kernel) rfl rfl (Nat.le_of_ble_eq_true rfl) dX11_receives_134 (fun H6 L6 hP6 hD6 hS6 => ?_)
          replace hP6 : va_P D vwCl (wM a cZ cI (s_X11_receives_20 S)) H6 := cvP (wM_s25 a cZ cI (s_X11_receives_17 S) (v_X11_receives_19 S)) hP6
          replace hD6 : va_D A (wM a cZ cI (s_X11_receives_20 S)) := cvD (wM_s25 a cZ cI (s_X11_receives_17 S) (v_X11_receives_19 S)) hD6
          clear hP5 hD5 hS5
          refine lv_aload_n hx hb dX11_receives_137 rfl (lv_at hl2 2 rfl) ?_
          refine lv_dup hx hb dX11_receives_138 rfl ?_
          refine va_get (D := D) (ci := 11) (v := .int ((s_X11_receives_20 S).1 24)) (C := RX11) (T := TX11) (N := 37) hx hb hts (fun _ h => List.mem_cons_of_mem _ (List.mem_append_right _ (h))) hown hK hP6 0 rfl rfl 24 (by decide) (hts (.fieldLink RX11 99 "PhaselockModel" "received" "I") (List.mem_cons_of_mem _ (List.mem_append_left _ (List.mem_append_left _ (List.mem_of_getElem? (i := 2) rfl))))) (fun _ h9 => h9) rfl dX11_receives_139 ?_
          refine lv_iconst (v := 1) hx hb dX11_receives_142 (by decide) ?_
          refine lv_iadd hx hb dX11_receives_143 ?_
          refine lv_asi (y := (v_X11_receives_21 S)) rfl ?_
          refine va_put (D := D) (ci := 11) (v := .int (v_X11_receives_21 S)) (ty := .int) (C := RX11) (T := TX11) (N := 37) hx hb hts (fun _ h => List.mem_cons_of_mem _ (List.mem_append_right _ (h))) tyX11 tyX11_ok nmX11 hown hK hP6 hD6 hS6 0 rfl rfl 24 (by decide) (hts (.fieldLink RX11 99 "PhaselockModel" "received" "I") (List.mem_cons_of_mem _ (List.mem_append_left _ (List.mem_append_left _ (List.mem_of_getElem? (i := 2) rfl))))) (fun _ h9 => h9) rfl (by decide +kernel) rfl rfl (Nat.le_of_ble_eq_true rfl) dX11_receives_144 (fun H7 L7 hP7 hD7 hS7 => ?_)
          replace hP7 : va_P D vwCl (wM a cZ cI (s_X11_receives_22 S)) H7 := cvP (wM_s24 a cZ cI (s_X11_receives_20 S) (v_X11_receives_21 S)) hP7
          replace hD7 : va_D A (wM a cZ cI (s_X11_receives_22 S)) := cvD (wM_s24 a cZ cI (s_X11_receives_20 S) (v_X11_receives_21 S)) hD7
          clear hP6 hD6 hS6
          refine lv_aload_n hx hb dX11_receives_147 rfl (lv_at hl2 2 rfl) ?_
          refine va_get (D := D) (ci := 11) (v := .int ((s_X11_receives_22 S).1 15)) (C := RX11) (T := TX11) (N := 37) hx hb hts (fun _ h => List.mem_cons_of_mem _ (List.mem_append_right _ (h))) hown hK hP7 0 rfl rfl 15 (by decide) (hts (.fieldLink RX11 55 "PhaselockModel" "detector" "I") (List.mem_cons_of_mem _ (List.mem_append_left _ (List.mem_append_left _ (List.mem_of_getElem? (i := 11) rfl))))) (fun _ h9 => h9) rfl dX11_receives_148 ?_
          refine lv_iconst (v := 4) hx hb dX11_receives_151 (by decide) ?_
          have J5_152 : ∀ (H10 : Heap) (L10 : List Loc), va_P D vwCl (wM a cZ cI (s_X11_receives_25 S)) H10 → va_D A (wM a cZ cI (s_X11_receives_25 S)) → va_S A s.heap H10 L10 → W p l e (headSpec wsX11_receives rm_X11_receives).room s m ([.ref (a 0)] : List Value).toArray below meth c H10 L10 0 0 Q (F0 m 163 ls2 []) := by
            intro H10 L10 hP10 hD10 hS10
            clear hP7 hD7 hS7
            refine lv_aload_n hx hb dX11_receives_163 rfl (lv_at hl2 2 rfl) ?_
            refine lv_iconst (v := 0) hx hb dX11_receives_164 (by decide) ?_
            refine va_put (D := D) (ci := 11) (v := .int 0) (ty := .int) (C := RX11) (T := TX11) (N := 37) hx hb hts (fun _ h => List.mem_cons_of_mem _ (List.mem_append_right _ (h))) tyX11 tyX11_ok nmX11 hown hK hP10 hD10 hS10 0 rfl rfl 18 (by decide) (hts (.fieldLink RX11 105 "PhaselockModel" "edgeError" "I") (List.mem_cons_of_mem _ (List.mem_append_left _ (List.mem_append_left _ (List.mem_of_getElem? (i := 12) rfl))))) (fun _ h9 => h9) rfl (by decide +kernel) rfl rfl (Nat.le_of_ble_eq_true rfl) dX11_receives_165 (fun H11 L11 hP11 hD11 hS11 => ?_)
            replace hP11 : va_P D vwCl (wM a cZ cI (s_X11_receives_26 S)) H11 := cvP (wM_s18 a cZ cI (s_X11_receives_25 S) 0) hP11
            replace hD11 : va_D A (wM a cZ cI (s_X11_receives_26 S)) := cvD (wM_s18 a cZ cI (s_X11_receives_25 S) 0) hD11
            clear hP10 hD10 hS10
            refine lv_aload_n hx hb dX11_receives_168 rfl (lv_at hl2 2 rfl) ?_
            refine lv_iconst (v := 0) hx hb dX11_receives_169 (by decide) ?_
            refine va_put (D := D) (ci := 11) (v := .int 0) (ty := .int) (C := RX11) (T := TX11) (N := 37) hx hb hts (fun _ h => List.mem_cons_of_mem _ (List.mem_append_right _ (h))) tyX11 tyX11_ok nmX11 hown hK hP11 hD11 hS11 0 rfl rfl 19 (by decide) (hts (.fieldLink RX11 108 "PhaselockModel" "product" "I") (List.mem_cons_of_mem _ (List.mem_append_left _ (List.mem_append_left _ (List.mem_of_getElem? (i := 13) rfl))))) (fun _ h9 => h9) rfl (by decide +kernel) rfl rfl (Nat.le_of_ble_eq_true rfl) dX11_receives_170 (fun H12 L12 hP12 hD12 hS12 => ?_)
            replace hP12 : va_P D vwCl (wM a cZ cI (s_X11_receives_27 S)) H12 := cvP (wM_s19 a cZ cI (s_X11_receives_26 S) 0) hP12
            replace hD12 : va_D A (wM a cZ cI (s_X11_receives_27 S)) := cvD (wM_s19 a cZ cI (s_X11_receives_26 S) 0) hD12
            clear hP11 hD11 hS11
            refine lv_aload_n hx hb dX11_receives_173 rfl (lv_at hl2 2 rfl) ?_
            refine lv_aload_n hx hb dX11_receives_174 rfl (lv_at hl2 2 rfl) ?_
            refine va_calli (va_runV (As := []) (rest := [.ref (a 0)]) ⟨hx, hb, hml, hown, hts⟩ (k_X11_levelNow l D a cZ cI (s_X11_receives_27 S) H12.size) (cwV 0 hts gX11_receives_X11_levelNow rfl rfl rfl (by decide +kernel) ⟨Nat.le_of_ble_eq_true rfl, Nat.le_of_ble_eq_true rfl⟩) ⟨blW okN_T, va_recv hK hP12 (ci := 11) (q0 := 0) rfl rfl, preW hP12 hK hD12 okN_T hN⟩ rfl rfl hl2.1 rfl (lv_room (Nat.le_of_ble_eq_true rfl)) dX11_receives_175 ⟨Nat.zero_le _, Nat.zero_le _⟩) hS12 (aA_in hAc) (aA_free hAc hA hS12) (fun r13 u13 t13 H13 L13 ht13 hvm13 hw13 hB13 _ _ hS13 => ?_)
            obtain ⟨hP13, hD13⟩ := backW hB13 ht13 (aA_free hAc hA hS12)
            clear hB13 ht13 hvm13 t13
            obtain ⟨hu13, hr13⟩ := hw13
            subst u13; subst r13
            clear hP12 hD12 hS12
            refine lv_asi (y := (v_X11_receives_28 S)) rfl ?_
            refine va_put (D := D) (ci := 11) (v := .int (v_X11_receives_28 S)) (ty := .int) (C := RX11) (T := TX11) (N := 37) hx hb hts (fun _ h => List.mem_cons_of_mem _ (List.mem_append_right _ (h))) tyX11 tyX11_ok nmX11 hown hK hP13 hD13 hS13 0 rfl rfl 23 (by decide) (hts (.fieldLink RX11 118 "PhaselockModel" "keptLevel" "I") (List.mem_cons_of_mem _ (List.mem_append_left _ (List.mem_append_left _ (List.mem_of_getElem? (i := 14) rfl))))) (fun _ h9 => h9) rfl (by decide +kernel) rfl rfl (Nat.le_of_ble_eq_true rfl) dX11_receives_178 (fun H14 L14 hP14 hD14 hS14 => ?_)
            replace hP14 : va_P D vwCl (wM a cZ cI (s_X11_receives_29 S)) H14 := cvP (wM_s23 a cZ cI (s_X11_receives_27 S) (v_X11_receives_28 S)) hP14
            replace hD14 : va_D A (wM a cZ cI (s_X11_receives_29 S)) := cvD (wM_s23 a cZ cI (s_X11_receives_27 S) (v_X11_receives_28 S)) hD14
            clear hP13 hD13 hS13
            refine lv_aload_n hx hb dX11_receives_181 rfl (lv_at hl2 2 rfl) ?_
            refine va_callv (va_runV (As := []) (rest := []) ⟨hx, hb, hml, hown, hts⟩ (k_X11_aligns l D a cZ cI (s_X11_receives_29 S) H14.size) (cwV 0 hts gX11_receives_X11_aligns rfl rfl rfl (by decide +kernel) ⟨Nat.le_of_ble_eq_true rfl, Nat.le_of_ble_eq_true rfl⟩) ⟨blW okN_T, va_recv hK hP14 (ci := 11) (q0 := 0) rfl rfl, preW hP14 hK hD14 okN_T hN⟩ rfl rfl hl2.1 rfl (lv_room (Nat.le_of_ble_eq_true rfl)) dX11_receives_182 ⟨Nat.zero_le _, Nat.zero_le _⟩) hS14 (aA_in hAc) (aA_free hAc hA hS14) (fun u15 t15 H15 L15 ht15 hvm15 hw15 hB15 _ _ hS15 => ?_)
            obtain ⟨hP15, hD15⟩ := backW hB15 ht15 (aA_free hAc hA hS14)
            clear hB15 ht15 hvm15 t15
            have hu15 : u15 = _ := hw15
            clear hw15; subst u15
            replace hP15 : va_P D vwCl (wM a cZ cI (s_X11_receives_30 S)) H15 := hP15
            replace hD15 : va_D A (wM a cZ cI (s_X11_receives_30 S)) := hD15
            clear hP14 hD14 hS14
            subst hQ; exact W.vret hx hb hr (fun t ht hW => ⟨⟨(s_X11_receives_30 S), rfl, (show (s_X11_receives_30 S) = s_X11_receives S from rfl), endW hP15 hK hD15 ht hW⟩, hS15.F ht⟩) hS15.2.2 dX11_receives_185
          refine lv_icmp_ge (tgt := 163) hx hb dX11_receives_152 (by decide) (fun c8_152 => ?_) (fun c8_152 => ?_)
          · exact J5_152 _ _ (va_asS (P := fun u => va_P D vwCl (wM a cZ cI u) H7) (show (s_X11_receives_25 S) = (s_X11_receives_22 S) from (if_pos c8_152)) hP7) (va_asS (P := fun u => va_D A (wM a cZ cI u)) (show (s_X11_receives_25 S) = (s_X11_receives_22 S) from (if_pos c8_152)) hD7) hS7
          · refine lv_aload_n hx hb dX11_receives_155 rfl (lv_at hl2 2 rfl) ?_
            refine lv_aload_n hx hb dX11_receives_156 rfl (lv_at hl2 2 rfl) ?_
            refine va_calli (va_runV (As := []) (rest := [.ref (a 0)]) ⟨hx, hb, hml, hown, hts⟩ (k_X11_measured l D a cZ cI (s_X11_receives_22 S) H7.size) (cwV 0 hts gX11_receives_X11_measured rfl rfl rfl (by decide +kernel) ⟨Nat.le_of_ble_eq_true rfl, Nat.le_of_ble_eq_true rfl⟩) ⟨blW okN_T, va_recv hK hP7 (ci := 11) (q0 := 0) rfl rfl, preW hP7 hK hD7 okN_T hN⟩ rfl rfl hl2.1 rfl (lv_room (Nat.le_of_ble_eq_true rfl)) dX11_receives_157 ⟨Nat.zero_le _, Nat.zero_le _⟩) hS7 (aA_in hAc) (aA_free hAc hA hS7) (fun r8 u8 t8 H8 L8 ht8 hvm8 hw8 hB8 _ _ hS8 => ?_)
            obtain ⟨hP8, hD8⟩ := backW hB8 ht8 (aA_free hAc hA hS7)
            clear hB8 ht8 hvm8 t8
            obtain ⟨hu8, hr8⟩ := hw8
            subst u8; subst r8
            clear hP7 hD7 hS7
            refine lv_asi (y := (v_X11_receives_23 S)) rfl ?_
            refine va_callv (va_runV (As := [.int (v_X11_receives_23 S)]) (rest := []) ⟨hx, hb, hml, hown, hts⟩ (k_X11_measures l D a cZ cI (s_X11_receives_22 S) H8.size (v_X11_receives_23 S)) (cwV 1 hts gX11_receives_X11_measures rfl rfl rfl (by decide +kernel) ⟨Nat.le_of_ble_eq_true rfl, Nat.le_of_ble_eq_true rfl⟩) ⟨blW okN_T, va_recv hK hP8 (ci := 11) (q0 := 0) rfl rfl, preW hP8 hK hD8 okN_T hN⟩ rfl rfl hl2.1 rfl (lv_room (Nat.le_of_ble_eq_true rfl)) dX11_receives_160 ⟨Nat.zero_le _, Nat.zero_le _⟩) hS8 (aA_in hAc) (aA_free hAc hA hS8) (fun u9 t9 H9 L9 ht9 hvm9 hw9 hB9 _ _ hS9 => ?_)
            obtain ⟨hP9, hD9⟩ := backW hB9 ht9 (aA_free hAc hA hS8)
            clear hB9 ht9 hvm9 t9
            have hu9 : u9 = _ := hw9
            clear hw9; subst u9
            replace hP9 : va_P D vwCl (wM a cZ cI (s_X11_receives_24 S)) H9 := hP9
            replace hD9 : va_D A (wM a cZ cI (s_X11_receives_24 S)) := hD9
            clear hP8 hD8 hS8
            exact J5_152 _ _ (va_asS (P := fun u => va_P D vwCl (wM a cZ cI u) H9) (show (s_X11_receives_25 S) = (s_X11_receives_24 S) from (if_neg c8_152)) hP9) (va_asS (P := fun u => va_D A (wM a cZ cI u)) (show (s_X11_receives_25 S) = (s_X11_receives_24 S) from (if_neg c8_152)) hD9) hS9
        refine lv_if_eq (tgt := 90) hx hb dX11_receives_83 (by decide) (fun c7_83 => ?_) (fun c7_83 => ?_)
        · refine lv_iconst (v := 0) hx hb dX11_receives_90 (by decide) ?_
          refine lv_asi (y := (v_X11_receives_11 S)) (show (v_X11_receives_11 S) = 0 from (if_pos c7_83)).symm ?_
          exact J4_83
        · refine lv_iconst (v := 1) hx hb dX11_receives_86 (by decide) ?_
          refine lv_goto (tgt := 91) hx hb dX11_receives_87 (by decide) ?_
          refine lv_asi (y := (v_X11_receives_11 S)) (show (v_X11_receives_11 S) = 1 from (if_neg c7_83)).symm ?_
          exact J4_83
      refine lv_if_eq (tgt := 70) hx hb dX11_receives_56 (by decide) (fun c5_56 => ?_) (fun c5_56 => ?_)
      · refine lv_iconst (v := 0) hx hb dX11_receives_70 (by decide) ?_
        refine lv_asi (y := (v_X11_receives_7 S)) (show (v_X11_receives_7 S) = 0 from (if_pos c5_56)).symm ?_
        exact J3_56
      · refine lv_iload_n hx hb dX11_receives_59 rfl (lv_at hl2 1 rfl) ?_
        refine lv_iconst (v := 1) hx hb dX11_receives_60 (by decide) ?_
        refine lv_icmp_le (tgt := 70) hx hb dX11_receives_61 (by decide) (fun c6_61 => ?_) (fun c6_61 => ?_)
        · refine lv_iconst (v := 0) hx hb dX11_receives_70 (by decide) ?_
          refine lv_asi (y := (v_X11_receives_7 S)) (show (v_X11_receives_7 S) = 0 from ((if_neg c5_56).trans (if_pos c6_61))).symm ?_
          exact J3_56
        · refine lv_iload_n hx hb dX11_receives_64 rfl (lv_at hl2 1 rfl) ?_
          refine lv_iconst (v := 1) hx hb dX11_receives_65 (by decide) ?_
          refine lv_isub hx hb dX11_receives_66 ?_
          refine lv_asi (y := (v_X11_receives_6 S)) rfl ?_
          refine lv_goto (tgt := 71) hx hb dX11_receives_67 (by decide) ?_
          refine lv_asi (y := (v_X11_receives_7 S)) (show (v_X11_receives_7 S) = (v_X11_receives_6 S) from ((if_neg c5_56).trans (if_neg c6_61))).symm ?_
          exact J3_56
    refine lv_if_eq (tgt := 45) hx hb dX11_receives_34 (by decide) (fun c3_34 => ?_) (fun c3_34 => ?_)
    · refine lv_iconst (v := 0) hx hb dX11_receives_45 (by decide) ?_
      refine lv_asi (y := (v_X11_receives_3 S)) (show (v_X11_receives_3 S) = 0 from (if_pos c3_34)).symm ?_
      exact J2_34
    · refine lv_iload_n hx hb dX11_receives_37 rfl (lv_at hl2 1 rfl) ?_
      refine lv_if_ne (tgt := 45) hx hb dX11_receives_38 (by decide) (fun c4_38 => ?_) (fun c4_38 => ?_)
      · refine lv_iconst (v := 0) hx hb dX11_receives_45 (by decide) ?_
        refine lv_asi (y := (v_X11_receives_3 S)) (show (v_X11_receives_3 S) = 0 from ((if_neg c3_34).trans (if_neg c4_38))).symm ?_
        exact J2_34
      · refine lv_iconst (v := 1) hx hb dX11_receives_41 (by decide) ?_
        refine lv_goto (tgt := 46) hx hb dX11_receives_42 (by decide) ?_
        refine lv_asi (y := (v_X11_receives_3 S)) (show (v_X11_receives_3 S) = 1 from ((if_neg c3_34).trans (if_pos c4_38))).symm ?_
        exact J2_34
  refine lv_if_le (tgt := 26) hx hb dX11_receives_14 (by decide) (fun c1_14 => ?_) (fun c1_14 => ?_)
  · refine lv_iconst (v := 0) hx hb dX11_receives_26 (by decide) ?_
    refine lv_asi (y := (v_X11_receives_2 S)) (show (v_X11_receives_2 S) = 0 from (if_pos c1_14)).symm ?_
    exact J1_14
  · refine lv_iload_n hx hb dX11_receives_17 rfl (lv_at hl1 0 rfl) ?_
    refine lv_iconst (v := 1) hx hb dX11_receives_18 (by decide) ?_
    refine lv_icmp_eq (tgt := 26) hx hb dX11_receives_19 (by decide) (fun c2_19 => ?_) (fun c2_19 => ?_)
    · refine lv_iconst (v := 0) hx hb dX11_receives_26 (by decide) ?_
      refine lv_asi (y := (v_X11_receives_2 S)) (show (v_X11_receives_2 S) = 0 from ((if_neg c1_14).trans (if_pos c2_19))).symm ?_
      exact J1_14
    · refine lv_iconst (v := 1) hx hb dX11_receives_22 (by decide) ?_
      refine lv_goto (tgt := 27) hx hb dX11_receives_23 (by decide) ?_
      refine lv_asi (y := (v_X11_receives_2 S)) (show (v_X11_receives_2 S) = 1 from ((if_neg c1_14).trans (if_neg c2_19))).symm ?_
      exact J1_14
