def v_X7_isSteady_1 (S : St) : Int32 := if (S.1 43) < 32 then 0 else 1
def r_X7_isSteady (S : St) : Int32 := (v_X7_isSteady_1 S)
def rm_X7_isSteady : Room := { frames := 0, cells := 0, slots := 0, locals := 0 }
set_option maxRecDepth 100000 in
set_option maxHeartbeats 4000000 in
theorem k_X7_isSteady (l : Launch) (D : va_G) (a : Nat → Nat) (cZ cI : ClassId) (S : St) (sz : Nat) : Met l yX7_isSteady wsX7_isSteady rm_X7_isSteady (va_Pc [.ref (a 9)] (pW D (tyZI cZ cI) (wP a cZ cI S) sz nP)) (va_Qi (fun (r : Int32) (u : St) => u = S ∧ r = r_X7_isSteady S) (fun u t => oW D (tyZI cZ cI) (wP a cZ cI u) (aA (adP a) sz) t) (aA (adP a) sz)) 0 0 (aA (adP a) sz) := by
  refine Met.ofW (cc := cX7_isSteady) (maxL := 1) (ret := (some .boolean)) (by decide +kernel) rfl ?_
  intro p e s m args below meth c s₁ B hml hv
  obtain ⟨rfl, hsz, hP0, hK, hD9, hN⟩ := hv
  have hx := B.exec
  have hb := B.bytes
  have hr := B.returns
  have hts := atoms_spec (ws := wsX7_isSteady) B.pre
  have hown : s.vm.findClass RX7 = some m.cls := findClass_of_methodNamed B.named
  have hlocks := B.notSynchronized
  subst hsz
  have hD0 := aA_self (sz := s.heap.size) (as := adP a) hD9 rfl
  generalize hAe : aA (adP a) s.heap.size = A at hD0 ⊢
  have hA : ∀ q : Nat, s.heap.size ≤ q → A q := fun q h => by rw [← hAe]; exact Or.inr h
  have hAc : ∀ q : Nat, q ∈ adP a → A q := fun q h => by rw [← hAe]; exact Or.inl h
  have hS0 : va_S A s.heap s.heap [] := va_S.rf
  have hl0 := lv_entry ([.ref (a 9)]) (n := 1) (Nat.le_of_ble_eq_true rfl)
  rw [lg_entry_eq]
  generalize (lg_sl ([.ref (a 9)]) ++ List.replicate (1 - (lg_sl ([.ref (a 9)])).length) Slot.unset).toArray = ls0 at hl0 ⊢
  have hl0 : lv_has ls0 1 [(0, .ref (a 9))] := hl0
  generalize hQ : MQ below _ _ s _ _ _ = Q
  clear hD9 B
  refine lv_aload_n hx hb dX7_isSteady_0 rfl (lv_at hl0 0 rfl) ?_
  refine va_get (D := D) (ci := 7) (v := .int (S.1 43)) (C := RX7) (T := TX7) (N := 4) hx hb hts (fun _ h => List.mem_cons_of_mem _ (List.mem_append_right _ (h))) hown hK hP0 9 rfl rfl 2 (by decide) (hts (.fieldLink RX7 18 "Phaselock$PhaseLog" "steadyCount" "I") (List.mem_cons_of_mem _ (List.mem_append_left _ (List.mem_of_getElem? (i := 0) rfl)))) (fun _ h9 => h9) rfl dX7_isSteady_1 ?_
  refine lv_bipush (v := 32) hx hb dX7_isSteady_4 (by decide) ?_
  have J1_6 : W p l e (headSpec wsX7_isSteady rm_X7_isSteady).room s m ([.ref (a 9)] : List Value).toArray below meth c s.heap [] 0 0 Q (F0 m 14 ls0 [.int (v_X7_isSteady_1 S)]) := by
    subst hQ; exact W.zret (v := (v_X7_isSteady_1 S)) hx hb hr (by unfold v_X7_isSteady_1; (repeat' split) <;> decide) (fun t ht hW => ⟨⟨(v_X7_isSteady_1 S), S, rfl, ⟨rfl, (show (v_X7_isSteady_1 S) = r_X7_isSteady S from rfl)⟩, endW hP0 hK hD0 ht hW⟩, hS0.F ht⟩) hS0.2.2 dX7_isSteady_14
  refine lv_icmp_lt (tgt := 13) hx hb dX7_isSteady_6 (by decide) (fun c1_6 => ?_) (fun c1_6 => ?_)
  · refine lv_iconst (v := 0) hx hb dX7_isSteady_13 (by decide) ?_
    refine lv_asi (y := (v_X7_isSteady_1 S)) (show (v_X7_isSteady_1 S) = 0 from (if_pos c1_6)).symm ?_
    exact J1_6
  · refine lv_iconst (v := 1) hx hb dX7_isSteady_9 (by decide) ?_
    refine lv_goto (tgt := 14) hx hb dX7_isSteady_10 (by decide) ?_
    refine lv_asi (y := (v_X7_isSteady_1 S)) (show (v_X7_isSteady_1 S) = 1 from (if_neg c1_6)).symm ?_
    exact J1_6
theorem z_X7_isSteady (S : St) : narrow .boolean (.int (r_X7_isSteady S)) = .int (r_X7_isSteady S) := by
  unfold r_X7_isSteady
  first
    | ((repeat' split) <;> decide)
    | (simp only [v_X7_isSteady_1]; (repeat' split) <;> decide)

def sabs (S : St) : Nat → Int32
  | 0 => 0
  | i + 1 => sabs S i + (if 0 ≤ S.2.2.2 (nI i).toNatClampNeg then S.2.2.2 (nI i).toNatClampNeg else 0 - S.2.2.2 (nI i).toNatClampNeg)
def v_X7_sumAbsolutes_2 (S : St) (i : Nat) : Int32 := S.2.2.2 ((nI i)).toNatClampNeg
def v_X7_sumAbsolutes_3 (S : St) (i : Nat) : Int32 := if 0 ≤ (v_X7_sumAbsolutes_2 S i) then (v_X7_sumAbsolutes_2 S i) else 0 - (v_X7_sumAbsolutes_2 S i)
def v_X7_sumAbsolutes_4 (S : St) (i : Nat) : Int32 := (sabs S i) + (v_X7_sumAbsolutes_3 S i)
def v_X7_sumAbsolutes_5 (S : St) (i : Nat) : Int32 := (nI i) + 1
def r_X7_sumAbsolutes (S : St) : Int32 := (sabs S 32)
def rm_X7_sumAbsolutes : Room := { frames := 1, cells := 0, slots := 0, locals := 21 }
set_option maxRecDepth 100000 in
set_option maxHeartbeats 4000000 in
theorem k_X7_sumAbsolutes (l : Launch) (D : va_G) (a : Nat → Nat) (cZ cI : ClassId) (S : St) (sz : Nat) : Met l yX7_sumAbsolutes wsX7_sumAbsolutes rm_X7_sumAbsolutes (va_Pc [.ref (a 9)] (pW D (tyZI cZ cI) (wP a cZ cI S) sz nP)) (va_Qi (fun (r : Int32) (u : St) => u = S ∧ r = r_X7_sumAbsolutes S) (fun u t => oW D (tyZI cZ cI) (wP a cZ cI u) (aA (adP a) sz) t) (aA (adP a) sz)) 0 0 (aA (adP a) sz) := by
  refine Met.ofW (cc := cX7_sumAbsolutes) (maxL := 3) (ret := (some .int)) (by decide +kernel) rfl ?_
  intro p e s m args below meth c s₁ B hml hv
  obtain ⟨rfl, hsz, hP0, hK, hD9, hN⟩ := hv
  have hx := B.exec
  have hb := B.bytes
  have hr := B.returns
  have hts := atoms_spec (ws := wsX7_sumAbsolutes) B.pre
  have hown : s.vm.findClass RX7 = some m.cls := findClass_of_methodNamed B.named
  have hlocks := B.notSynchronized
  subst hsz
  have hD0 := aA_self (sz := s.heap.size) (as := adP a) hD9 rfl
  generalize hAe : aA (adP a) s.heap.size = A at hD0 ⊢
  have hA : ∀ q : Nat, s.heap.size ≤ q → A q := fun q h => by rw [← hAe]; exact Or.inr h
  have hAc : ∀ q : Nat, q ∈ adP a → A q := fun q h => by rw [← hAe]; exact Or.inl h
  have hS0 : va_S A s.heap s.heap [] := va_S.rf
  have hl0 := lv_entry ([.ref (a 9)]) (n := 3) (Nat.le_of_ble_eq_true rfl)
  rw [lg_entry_eq]
  generalize (lg_sl ([.ref (a 9)]) ++ List.replicate (3 - (lg_sl ([.ref (a 9)])).length) Slot.unset).toArray = ls0 at hl0 ⊢
  have hl0 : lv_has ls0 3 [(0, .ref (a 9))] := hl0
  generalize hQ : MQ below _ _ s _ _ _ = Q
  clear hD9 B
  refine lv_iconst (v := 0) hx hb dX7_sumAbsolutes_0 (by decide) ?_
  refine lv_istore_n (lv' := [(1, .int 0), (0, .ref (a 9))]) hx hb dX7_sumAbsolutes_1 rfl hl0 (by decide) rfl (fun ls1 hl1 => ?_)
  clear hl0
  refine lv_iconst (v := 0) hx hb dX7_sumAbsolutes_2 (by decide) ?_
  refine lv_istore_n (lv' := [(2, .int 0), (1, .int 0), (0, .ref (a 9))]) hx hb dX7_sumAbsolutes_3 rfl hl1 (by decide) rfl (fun ls2 hl2 => ?_)
  clear hl1
  have LOOP : ∀ (n i : Nat), i ≤ 32 → 32 < i + n → ∀ (H1 : Heap) (L1 : List Loc), va_P D vwCl (wP a cZ cI S) H1 → va_D A (wP a cZ cI S) → va_S A s.heap H1 L1 → ∀ ls3 : Array Slot, lv_has ls3 3 [(2, .int (nI i)), (1, .int (sabs S i)), (0, .ref (a 9))] → W p l e (headSpec wsX7_sumAbsolutes rm_X7_sumAbsolutes).room s m ([.ref (a 9)] : List Value).toArray below meth c H1 L1 0 0 Q (F0 m 4 ls3 []) := by
    clear hP0 hD0 hS0 hl2
    intro n
    induction n with
    | zero => exact fun i h1 h2 => absurd h2 (by omega)
    | succ n ih =>
      intro i hi hin H1 L1 hP1 hD1 hS1 ls3 hl3
      refine lv_iload_n hx hb dX7_sumAbsolutes_4 rfl (lv_at hl3 0 rfl) ?_
      refine lv_bipush (v := 32) hx hb dX7_sumAbsolutes_5 (by decide) ?_
      refine lv_icmp_ge (tgt := 28) hx hb dX7_sumAbsolutes_7 (by decide) (fun c1_7 => ?_) (fun c1_7 => ?_)
      · have hie : i = 32 := lp_ge (N := 32) (by decide) hi c1_7
        subst hie
        refine lv_iload_n hx hb dX7_sumAbsolutes_28 rfl (lv_at hl3 1 rfl) ?_
        subst hQ; exact W.iret (v := (sabs S 32)) hx hb hr (fun t ht hW => ⟨⟨(sabs S 32), S, rfl, ⟨rfl, (show (sabs S 32) = r_X7_sumAbsolutes S from rfl)⟩, endW hP1 hK hD1 ht hW⟩, hS1.F ht⟩) hS1.2.2 dX7_sumAbsolutes_29
      · have hlt : i < 32 := lp_lt (N := 32) (by decide) hi c1_7
        refine lv_iload_n hx hb dX7_sumAbsolutes_10 rfl (lv_at hl3 1 rfl) ?_
        refine lv_aload_n hx hb dX7_sumAbsolutes_11 rfl (lv_at hl3 2 rfl) ?_
        refine va_get (D := D) (ci := 7) (v := .ref (a 12)) (C := RX7) (T := TX7) (N := 4) hx hb hts (fun _ h => List.mem_cons_of_mem _ (List.mem_append_right _ (h))) hown hK hP1 9 rfl rfl 3 (by decide) (hts (.fieldLink RX7 21 "Phaselock$PhaseLog" "window" "[I") (List.mem_cons_of_mem _ (List.mem_append_left _ (List.mem_of_getElem? (i := 0) rfl)))) (fun _ h9 => h9) rfl dX7_sumAbsolutes_12 ?_
        refine lv_iload_n hx hb dX7_sumAbsolutes_15 rfl (lv_at hl3 0 rfl) ?_
        refine va_iald (D := D) hx hb hK hP1 12 1 rfl rfl (vp_in_nI hlt (by decide)) dX7_sumAbsolutes_16 ?_
        refine lv_asi (y := (v_X7_sumAbsolutes_2 S i)) rfl ?_
        refine va_mabs hx hb (hml.trans hl3.1.symm) hown (hts (.methodLink RX7 29 Lib.Math.abs.name) (List.mem_cons_of_mem _ (List.mem_append_left _ (List.mem_of_getElem? (i := 1) rfl)))) (hts (.static Lib.Math.abs.name) (List.mem_cons_of_mem _ (List.mem_append_left _ (List.mem_of_getElem? (i := 2) rfl)))) (hts (.initialized "java/lang/Math") (List.mem_cons_of_mem _ (List.mem_append_left _ (List.mem_of_getElem? (i := 3) rfl)))) (hts (.code Lib.Math.abs.name Lib.Math.abs.code 1 (some .int)) (List.mem_cons_of_mem _ (List.mem_append_left _ (List.mem_of_getElem? (i := 4) rfl)))) (Nat.le_of_ble_eq_true rfl) (Nat.le_of_ble_eq_true rfl) (Nat.le_refl 0) (Nat.le_refl 0) dX7_sumAbsolutes_17 ?_
        refine lv_asi (y := (v_X7_sumAbsolutes_3 S i)) rfl ?_
        refine lv_iadd hx hb dX7_sumAbsolutes_20 ?_
        refine lv_asi (y := (v_X7_sumAbsolutes_4 S i)) rfl ?_
        refine lv_istore_n (lv' := [(1, .int (v_X7_sumAbsolutes_4 S i)), (2, .int (nI i)), (0, .ref (a 9))]) hx hb dX7_sumAbsolutes_21 rfl hl3 (by decide) rfl (fun ls4 hl4 => ?_)
        clear hl3
        refine lv_iinc (v := (v_X7_sumAbsolutes_5 S i)) (lv' := [(2, .int (v_X7_sumAbsolutes_5 S i)), (1, .int (v_X7_sumAbsolutes_4 S i)), (0, .ref (a 9))]) hx hb dX7_sumAbsolutes_22 hl4 (k := 1) rfl rfl (by decide) rfl (fun ls5 hl5 => ?_)
        clear hl4
        refine lv_goto (tgt := 4) hx hb dX7_sumAbsolutes_25 (by decide) ?_
        exact ih (i + 1) (by omega) (by omega) _ _ hP1 hD1 hS1 _ (by rw [show (nI (i + 1)) = (v_X7_sumAbsolutes_5 S i) from (nI_1 i).symm, show (sabs S (i + 1)) = (v_X7_sumAbsolutes_4 S i) from rfl]; exact lv_sub (l' := [(2, .int (v_X7_sumAbsolutes_5 S i)), (1, .int (v_X7_sumAbsolutes_4 S i)), (0, .ref (a 9))]) hl5 [0, 1, 2] rfl)
  exact LOOP (32 + 1) 0 (Nat.zero_le _) (by omega) _ _ hP0 hD0 hS0 _ (lv_sub (l' := [(2, .int (nI 0)), (1, .int (sabs S 0)), (0, .ref (a 9))]) hl2 [0, 1, 2] rfl)

