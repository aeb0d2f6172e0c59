def cby (p0 k : Int32) : Int32 := (p0 - (k - k / 16 * 16) + 16) - (p0 - (k - k / 16 * 16) + 16) / 16 * 16
def cfar (p0 k : Int32) : Int32 := if 8 ≤ cby p0 k then 16 - cby p0 k else cby p0 k
def cterm (S : St) (p0 k : Int32) : Int32 := if S.2.2.1 (k - k / 256 * 256).toNatClampNeg = 0 then 0 else 8 - cfar p0 k
def ccost (S : St) (p0 : Int32) : Nat → Int32
  | 0 => 0
  | i + 1 => ccost S p0 i + cterm S p0 (nI (tk S - i))
def v_X11_costOf_2 (S : St) (p0 : Int32) (i : Nat) : Int32 := (S.1 9) - 256
def v_X11_costOf_4 (S : St) (p0 : Int32) (i : Nat) : Int32 := (nI (tk S - i)) - (nI (tk S - i)) / 16 * 16
def v_X11_costOf_5 (S : St) (p0 : Int32) (i : Nat) : Int32 := p0 - (v_X11_costOf_4 S p0 i)
def v_X11_costOf_6 (S : St) (p0 : Int32) (i : Nat) : Int32 := (v_X11_costOf_5 S p0 i) + 16
def v_X11_costOf_7 (S : St) (p0 : Int32) (i : Nat) : Int32 := (v_X11_costOf_6 S p0 i) - (v_X11_costOf_6 S p0 i) / 16 * 16
def v_X11_costOf_8 (S : St) (p0 : Int32) (i : Nat) : Int32 := 16 - (v_X11_costOf_7 S p0 i)
def v_X11_costOf_9 (S : St) (p0 : Int32) (i : Nat) : Int32 := if 8 ≤ (v_X11_costOf_7 S p0 i) then (v_X11_costOf_8 S p0 i) else (v_X11_costOf_7 S p0 i)
def v_X11_costOf_10 (S : St) (p0 : Int32) (i : Nat) : Int32 := (nI (tk S - i)) - (nI (tk S - i)) / 256 * 256
def v_X11_costOf_11 (S : St) (p0 : Int32) (i : Nat) : Int32 := S.2.2.1 ((v_X11_costOf_10 S p0 i)).toNatClampNeg
def v_X11_costOf_12 (S : St) (p0 : Int32) (i : Nat) : Int32 := 8 - (v_X11_costOf_9 S p0 i)
def v_X11_costOf_13 (S : St) (p0 : Int32) (i : Nat) : Int32 := if (v_X11_costOf_11 S p0 i) = 0 then 0 else (v_X11_costOf_12 S p0 i)
def v_X11_costOf_14 (S : St) (p0 : Int32) (i : Nat) : Int32 := (ccost S p0 i) + (v_X11_costOf_13 S p0 i)
def v_X11_costOf_15 (S : St) (p0 : Int32) (i : Nat) : Int32 := (nI (tk S - i)) + (-1)
def r_X11_costOf (S : St) (p0 : Int32) : Int32 := (ccost S p0 (min (tk S) 256))
def rm_X11_costOf : Room := { frames := 0, cells := 0, slots := 0, locals := 0 }
theorem cost_e1 {n i : Nat} {S : St} (hn : n < 2000000) (hm : okM n S) (hi : i ≤ min (tk S) 256) (c : nI (tk S - i) ≤ 0) : i = min (tk S) 256 := by
  have h := hm.2.1.2
  have := (nI_leI (a := tk S - i) (b := 0) (by omega) (by omega)).mp c
  omega
theorem cost_s1 {n i : Nat} {S : St} (hn : n < 2000000) (hm : okM n S) (c : ¬ nI (tk S - i) ≤ 0) : 0 < tk S - i := by
  have h := hm.2.1.2
  apply Nat.lt_of_not_le
  intro q
  exact c ((nI_leI (a := tk S - i) (b := 0) (by omega) (by omega)).mpr q)
theorem cost_c {n : Nat} {S : St} (hn : n < 2000000) (hm : okM n S) : (S.1 9 - 256).toInt = (tk S : Int) - 256 := by
  rw [hm.2.1.1]
  exact pk_sub_toInt (b := 256) (by have := hm.2.1.2; omega) (by omega)
theorem cost_e2 {n i : Nat} {S : St} (hn : n < 2000000) (hm : okM n S) (hi : i ≤ min (tk S) 256) (c : nI (tk S - i) ≤ S.1 9 - 256) : i = min (tk S) 256 := by
  have h := hm.2.1.2
  have q := Int32.le_iff_toInt_le.mp c
  rw [cost_c hn hm, nI_toInt (by omega)] at q
  omega
theorem cost_s2 {n i : Nat} {S : St} (hn : n < 2000000) (hm : okM n S) (hi : i ≤ min (tk S) 256) (c : ¬ nI (tk S - i) ≤ S.1 9 - 256) : i < 256 := by
  have h := hm.2.1.2
  apply Nat.lt_of_not_le
  intro q
  apply c
  apply Int32.le_iff_toInt_le.mpr
  rw [cost_c hn hm, nI_toInt (by omega)]
  omega
theorem cost_st {t i : Nat} (h : 0 < t - i) : nI (t - (i + 1)) = nI (t - i) + (-1) := by
  rw [show t - i = (t - (i + 1)) + 1 by omega, pk_m1]
set_option maxRecDepth 100000 in
set_option maxHeartbeats 4000000 in
theorem k_X11_costOf (l : Launch) (D : va_G) (a : Nat → Nat) (cZ cI : ClassId) (S : St) (sz : Nat) (p0 : Int32) (n : Nat) (hn : n < 2000000) (hm : okM n S) : Met l yX11_costOf wsX11_costOf rm_X11_costOf (va_Pc [.ref (a 0), .int p0] (pW D (tyZI cZ cI) (wM a cZ cI S) sz nT)) (va_Qi (fun (r : Int32) (u : St) => u = S ∧ r = r_X11_costOf S p0) (fun u t => oW D (tyZI cZ cI) (wM a cZ cI u) (aA (adM a) sz) t) (aA (adM a) sz)) 0 0 (aA (adM a) sz) := by
  refine Met.ofW (cc := cX11_costOf) (maxL := 6) (ret := (some .int)) (by decide +kernel) rfl ?_
  intro p e s m args below meth c s₁ B hml hv
  obtain ⟨rfl, hsz, hP0, hK, hD9, hN⟩ := hv
  have hx := B.exec
  have hb := B.bytes
  have hr := B.returns
  have hts := atoms_spec (ws := wsX11_costOf) B.pre
  have hown : s.vm.findClass RX11 = some m.cls := findClass_of_methodNamed B.named
  have hlocks := B.notSynchronized
  subst hsz
  have hD0 := aA_self (sz := s.heap.size) (as := adM a) hD9 rfl
  generalize hAe : aA (adM a) s.heap.size = A at hD0 ⊢
  have hA : ∀ q : Nat, s.heap.size ≤ q → A q := fun q h => by rw [← hAe]; exact Or.inr h
  have hAc : ∀ q : Nat, q ∈ adM a → A q := fun q h => by rw [← hAe]; exact Or.inl h
  have hS0 : va_S A s.heap s.heap [] := va_S.rf
  have hl0 := lv_entry ([.ref (a 0), .int p0]) (n := 6) (Nat.le_of_ble_eq_true rfl)
  rw [lg_entry_eq]
  generalize (lg_sl ([.ref (a 0), .int p0]) ++ List.replicate (6 - (lg_sl ([.ref (a 0), .int p0])).length) Slot.unset).toArray = ls0 at hl0 ⊢
  have hl0 : lv_has ls0 6 [(0, .ref (a 0)), (1, .int p0)] := hl0
  generalize hQ : MQ below _ _ s _ _ _ = Q
  clear hD9 B
  refine lv_iconst (v := 0) hx hb dX11_costOf_0 (by decide) ?_
  refine lv_istore_n (lv' := [(2, .int 0), (0, .ref (a 0)), (1, .int p0)]) hx hb dX11_costOf_1 rfl hl0 (by decide) rfl (fun ls1 hl1 => ?_)
  clear hl0
  refine lv_aload_n hx hb dX11_costOf_2 rfl (lv_at hl1 1 rfl) ?_
  refine va_get (D := D) (ci := 11) (v := .int (S.1 9)) (C := RX11) (T := TX11) (N := 37) hx hb hts (fun _ h => List.mem_cons_of_mem _ (List.mem_append_right _ (h))) hown hK hP0 0 rfl rfl 9 (by decide) (hts (.fieldLink RX11 93 "PhaselockModel" "ticks" "I") (List.mem_cons_of_mem _ (List.mem_append_left _ (List.mem_of_getElem? (i := 0) rfl)))) (fun _ h9 => h9) rfl dX11_costOf_3 ?_
  refine lv_istore_n (lv' := [(3, .int (S.1 9)), (2, .int 0), (0, .ref (a 0)), (1, .int p0)]) hx hb dX11_costOf_6 rfl hl1 (by decide) rfl (fun ls2 hl2 => ?_)
  clear hl1
  have LOOP : ∀ (fu i : Nat), i ≤ (min (tk S) 256) → (min (tk S) 256) < i + fu → ∀ (H1 : Heap) (L1 : List Loc), va_P D vwCl (wM a cZ cI S) H1 → va_D A (wM a cZ cI S) → va_S A s.heap H1 L1 → ∀ ls3 : Array Slot, lv_has ls3 6 [(3, .int (nI (tk S - i))), (2, .int (ccost S p0 i)), (0, .ref (a 0)), (1, .int p0)] → W p l e (headSpec wsX11_costOf rm_X11_costOf).room s m ([.ref (a 0), .int p0] : List Value).toArray below meth c H1 L1 0 0 Q (F0 m 7 ls3 []) := by
    clear hP0 hD0 hS0 hl2
    intro fu
    induction fu with
    | zero => exact fun i h1 h2 => absurd h2 (by omega)
    | succ fu ih =>
      intro i hi hin H1 L1 hP1 hD1 hS1 ls3 hl3
      refine lv_iload_n hx hb dX11_costOf_7 rfl (lv_at hl3 0 rfl) ?_
      refine lv_if_le (tgt := 87) hx hb dX11_costOf_8 (by decide) (fun c1_8 => ?_) (fun c1_8 => ?_)
      · have hie : i = (min (tk S) 256) := cost_e1 hn hm hi c1_8
        subst hie
        refine lv_iload_n hx hb dX11_costOf_87 rfl (lv_at hl3 1 rfl) ?_
        subst hQ; exact W.iret (v := (ccost S p0 (min (tk S) 256))) hx hb hr (fun t ht hW => ⟨⟨(ccost S p0 (min (tk S) 256)), S, rfl, ⟨rfl, (show (ccost S p0 (min (tk S) 256)) = r_X11_costOf S p0 from rfl)⟩, endW hP1 hK hD1 ht hW⟩, hS1.F ht⟩) hS1.2.2 dX11_costOf_88
      · have h8 : 0 < tk S - i := cost_s1 hn hm c1_8
        refine lv_iload_n hx hb dX11_costOf_11 rfl (lv_at hl3 0 rfl) ?_
        refine lv_aload_n hx hb dX11_costOf_12 rfl (lv_at hl3 2 rfl) ?_
        refine va_get (D := D) (ci := 11) (v := .int (S.1 9)) (C := RX11) (T := TX11) (N := 37) hx hb hts (fun _ h => List.mem_cons_of_mem _ (List.mem_append_right _ (h))) hown hK hP1 0 rfl rfl 9 (by decide) (hts (.fieldLink RX11 93 "PhaselockModel" "ticks" "I") (List.mem_cons_of_mem _ (List.mem_append_left _ (List.mem_of_getElem? (i := 0) rfl)))) (fun _ h9 => h9) rfl dX11_costOf_13 ?_
        refine lv_sipush (v := 256) hx hb dX11_costOf_16 (by decide) ?_
        refine lv_isub hx hb dX11_costOf_19 ?_
        refine lv_asi (y := (v_X11_costOf_2 S p0 i)) rfl ?_
        refine lv_icmp_le (tgt := 87) hx hb dX11_costOf_20 (by decide) (fun c2_20 => ?_) (fun c2_20 => ?_)
        · have hie : i = (min (tk S) 256) := cost_e2 hn hm hi c2_20
          subst hie
          refine lv_iload_n hx hb dX11_costOf_87 rfl (lv_at hl3 1 rfl) ?_
          subst hQ; exact W.iret (v := (ccost S p0 (min (tk S) 256))) hx hb hr (fun t ht hW => ⟨⟨(ccost S p0 (min (tk S) 256)), S, rfl, ⟨rfl, (show (ccost S p0 (min (tk S) 256)) = r_X11_costOf S p0 from rfl)⟩, endW hP1 hK hD1 ht hW⟩, hS1.F ht⟩) hS1.2.2 dX11_costOf_88
        · have h256 : i < 256 := cost_s2 hn hm hi c2_20
          have hlt : i < min (tk S) 256 := by omega
          refine lv_iload_n hx hb dX11_costOf_23 rfl (lv_at hl3 3 rfl) ?_
          refine lv_iload_n hx hb dX11_costOf_24 rfl (lv_at hl3 0 rfl) ?_
          refine lv_bipush (v := 16) hx hb dX11_costOf_25 (by decide) ?_
          refine lv_irem hx hb dX11_costOf_27 (by decide) ?_
          refine lv_asi (y := (v_X11_costOf_4 S p0 i)) rfl ?_
          refine lv_isub hx hb dX11_costOf_28 ?_
          refine lv_asi (y := (v_X11_costOf_5 S p0 i)) rfl ?_
          refine lv_bipush (v := 16) hx hb dX11_costOf_29 (by decide) ?_
          refine lv_iadd hx hb dX11_costOf_31 ?_
          refine lv_asi (y := (v_X11_costOf_6 S p0 i)) rfl ?_
          refine lv_bipush (v := 16) hx hb dX11_costOf_32 (by decide) ?_
          refine lv_irem hx hb dX11_costOf_34 (by decide) ?_
          refine lv_asi (y := (v_X11_costOf_7 S p0 i)) rfl ?_
          refine lv_istore (lv' := [(4, .int (v_X11_costOf_7 S p0 i)), (3, .int (nI (tk S - i))), (2, .int (ccost S p0 i)), (0, .ref (a 0)), (1, .int p0)]) hx hb dX11_costOf_35 hl3 (by decide) rfl (fun ls4 hl4 => ?_)
          clear hl3
          refine lv_iload hx hb dX11_costOf_37 (lv_at hl4 0 rfl) ?_
          refine lv_bipush (v := 8) hx hb dX11_costOf_39 (by decide) ?_
          have J1_41 : W p l e (headSpec wsX11_costOf rm_X11_costOf).room s m ([.ref (a 0), .int p0] : List Value).toArray below meth c H1 L1 0 0 Q (F0 m 54 ls4 [.int (v_X11_costOf_9 S p0 i)]) := by
            refine lv_istore (lv' := [(5, .int (v_X11_costOf_9 S p0 i)), (4, .int (v_X11_costOf_7 S p0 i)), (3, .int (nI (tk S - i))), (2, .int (ccost S p0 i)), (0, .ref (a 0)), (1, .int p0)]) hx hb dX11_costOf_54 hl4 (by decide) rfl (fun ls5 hl5 => ?_)
            clear hl4
            refine lv_iload_n hx hb dX11_costOf_56 rfl (lv_at hl5 3 rfl) ?_
            refine lv_aload_n hx hb dX11_costOf_57 rfl (lv_at hl5 4 rfl) ?_
            refine va_get (D := D) (ci := 11) (v := .ref (a 1)) (C := RX11) (T := TX11) (N := 37) hx hb hts (fun _ h => List.mem_cons_of_mem _ (List.mem_append_right _ (h))) hown hK hP1 0 rfl rfl 10 (by decide) (hts (.fieldLink RX11 27 "PhaselockModel" "areEdges" "[Z") (List.mem_cons_of_mem _ (List.mem_append_left _ (List.mem_of_getElem? (i := 1) rfl)))) (fun _ h9 => h9) rfl dX11_costOf_58 ?_
            refine lv_iload_n hx hb dX11_costOf_61 rfl (lv_at hl5 2 rfl) ?_
            refine lv_sipush (v := 256) hx hb dX11_costOf_62 (by decide) ?_
            refine lv_irem hx hb dX11_costOf_65 (by decide) ?_
            refine lv_asi (y := (v_X11_costOf_10 S p0 i)) rfl ?_
            refine va_zald (D := D) hx hb hK hP1 1 0 rfl rfl (irem_in (n := tk S - i) (m := 256) rfl rfl (by have := hm.2.1.2; omega) (by decide) (by decide)) dX11_costOf_66 ?_
            refine lv_asi (y := (v_X11_costOf_11 S p0 i)) rfl ?_
            have J2_67 : W p l e (headSpec wsX11_costOf rm_X11_costOf).room s m ([.ref (a 0), .int p0] : List Value).toArray below meth c H1 L1 0 0 Q (F0 m 79 ls5 [.int (v_X11_costOf_13 S p0 i), .int (ccost S p0 i)]) := by
              refine lv_iadd hx hb dX11_costOf_79 ?_
              refine lv_asi (y := (v_X11_costOf_14 S p0 i)) rfl ?_
              refine lv_istore_n (lv' := [(2, .int (v_X11_costOf_14 S p0 i)), (5, .int (v_X11_costOf_9 S p0 i)), (4, .int (v_X11_costOf_7 S p0 i)), (3, .int (nI (tk S - i))), (0, .ref (a 0)), (1, .int p0)]) hx hb dX11_costOf_80 rfl hl5 (by decide) rfl (fun ls6 hl6 => ?_)
              clear hl5
              refine lv_iinc (v := (v_X11_costOf_15 S p0 i)) (lv' := [(3, .int (v_X11_costOf_15 S p0 i)), (2, .int (v_X11_costOf_14 S p0 i)), (5, .int (v_X11_costOf_9 S p0 i)), (4, .int (v_X11_costOf_7 S p0 i)), (0, .ref (a 0)), (1, .int p0)]) hx hb dX11_costOf_81 hl6 (k := 3) rfl rfl (by decide) rfl (fun ls7 hl7 => ?_)
              clear hl6
              refine lv_goto (tgt := 7) hx hb dX11_costOf_84 (by decide) ?_
              exact ih (i + 1) (by omega) (by omega) _ _ hP1 hD1 hS1 _ (by rw [show (nI (tk S - (i + 1))) = (v_X11_costOf_15 S p0 i) from (cost_st h8), show (ccost S p0 (i + 1)) = (v_X11_costOf_14 S p0 i) from rfl]; exact lv_sub (l' := [(3, .int (v_X11_costOf_15 S p0 i)), (2, .int (v_X11_costOf_14 S p0 i)), (0, .ref (a 0)), (1, .int p0)]) hl7 [0, 1, 4, 5] rfl)
            refine lv_if_eq (tgt := 78) hx hb dX11_costOf_67 (by decide) (fun c4_67 => ?_) (fun c4_67 => ?_)
            · refine lv_iconst (v := 0) hx hb dX11_costOf_78 (by decide) ?_
              refine lv_asi (y := (v_X11_costOf_13 S p0 i)) (show (v_X11_costOf_13 S p0 i) = 0 from (if_pos c4_67)).symm ?_
              exact J2_67
            · refine lv_bipush (v := 8) hx hb dX11_costOf_70 (by decide) ?_
              refine lv_iload hx hb dX11_costOf_72 (lv_at hl5 0 rfl) ?_
              refine lv_isub hx hb dX11_costOf_74 ?_
              refine lv_asi (y := (v_X11_costOf_12 S p0 i)) rfl ?_
              refine lv_goto (tgt := 79) hx hb dX11_costOf_75 (by decide) ?_
              refine lv_asi (y := (v_X11_costOf_13 S p0 i)) (show (v_X11_costOf_13 S p0 i) = (v_X11_costOf_12 S p0 i) from (if_neg c4_67)).symm ?_
              exact J2_67
          refine lv_icmp_ge (tgt := 49) hx hb dX11_costOf_41 (by decide) (fun c3_41 => ?_) (fun c3_41 => ?_)
          · refine lv_bipush (v := 16) hx hb dX11_costOf_49 (by decide) ?_
            refine lv_iload hx hb dX11_costOf_51 (lv_at hl4 0 rfl) ?_
            refine lv_isub hx hb dX11_costOf_53 ?_
            refine lv_asi (y := (v_X11_costOf_8 S p0 i)) rfl ?_
            refine lv_asi (y := (v_X11_costOf_9 S p0 i)) (show (v_X11_costOf_9 S p0 i) = (v_X11_costOf_8 S p0 i) from (if_pos c3_41)).symm ?_
            exact J1_41
          · refine lv_iload hx hb dX11_costOf_44 (lv_at hl4 0 rfl) ?_
            refine lv_goto (tgt := 54) hx hb dX11_costOf_46 (by decide) ?_
            refine lv_asi (y := (v_X11_costOf_9 S p0 i)) (show (v_X11_costOf_9 S p0 i) = (v_X11_costOf_7 S p0 i) from (if_neg c3_41)).symm ?_
            exact J1_41
  exact LOOP ((min (tk S) 256) + 1) 0 (Nat.zero_le _) (by omega) _ _ hP0 hD0 hS0 _ (by have e : S.1 9 = nI (tk S - 0) := hm.2.1.1; rw [← e]; exact lv_sub hl2 [0, 1, 2, 3] rfl)

def s_X11_bestPhase_1 (S : St) : St := si S 0 0
def mb (S : St) : Nat → Int32
  | 0 => 0
  | i + 1 => if r_X11_costOf (s_X11_bestPhase_1 S) (mb S i) ≤ r_X11_costOf (s_X11_bestPhase_1 S) (nI (i + 1)) then mb S i else nI (i + 1)
def v_X11_bestPhase_3 (S : St) (i : Nat) : Int32 := r_X11_costOf (s_X11_bestPhase_1 S) (nI (i + 1))
def v_X11_bestPhase_4 (S : St) (i : Nat) : Int32 := r_X11_costOf (s_X11_bestPhase_1 S) (mb S i)
def v_X11_bestPhase_5 (S : St) (i : Nat) : Int32 := if (v_X11_bestPhase_4 S i) ≤ (v_X11_bestPhase_3 S i) then (mb S i) else (nI (i + 1))
def v_X11_bestPhase_6 (S : St) (i : Nat) : Int32 := (nI (i + 1)) + 1
def s_X11_bestPhase (S : St) : St := (s_X11_bestPhase_1 S)
def r_X11_bestPhase (S : St) : Int32 := (mb S 15)
def rm_X11_bestPhase : Room := { frames := 1, cells := 0, slots := 0, locals := 25 }
theorem bp_e {i : Nat} (hi : i ≤ 15) (c : 16 ≤ nI (i + 1)) : i = 15 := by
  have := (nI_leI (a := 16) (b := i + 1) (by omega) (by omega)).mp c
  omega
theorem bp_s {i : Nat} (hi : i ≤ 15) (c : ¬ 16 ≤ nI (i + 1)) : i < 15 := by
  apply Nat.lt_of_not_le
  intro q
  exact c ((nI_leI (a := 16) (b := i + 1) (by omega) (by omega)).mpr (by omega))
set_option maxRecDepth 100000 in
set_option maxHeartbeats 4000000 in
theorem k_X11_bestPhase (l : Launch) (D : va_G) (a : Nat → Nat) (cZ cI : ClassId) (S : St) (sz : Nat) (n : Nat) (hn : n < 2000000) (hm : okM n S) : Met l yX11_bestPhase wsX11_bestPhase rm_X11_bestPhase (va_Pc [.ref (a 0)] (pW D (tyZI cZ cI) (wM a cZ cI S) sz nT)) (va_Qi (fun (r : Int32) (u : St) => u = s_X11_bestPhase S ∧ r = r_X11_bestPhase S) (fun u t => oW D (tyZI cZ cI) (wM a cZ cI u) (aA (adM a) sz) t) (aA (adM a) sz)) 0 0 (aA (adM a) sz) := by
  refine Met.ofW (cc := cX11_bestPhase) (maxL := 3) (ret := (some .int)) (by decide +kernel) rfl ?_
  intro p e s m args below meth c s₁ B hml hv
  obtain ⟨rfl, hsz, hP0, hK, hD9, hN⟩ := hv
  have hx := B.exec
  have hb := B.bytes
  have hr := B.returns
  have hts := atoms_spec (ws := wsX11_bestPhase) B.pre
  have hown : s.vm.findClass RX11 = some m.cls := findClass_of_methodNamed B.named
  have hlocks := B.notSynchronized
  subst hsz
  have hD0 := aA_self (sz := s.heap.size) (as := adM a) hD9 rfl
  generalize hAe : aA (adM a) s.heap.size = A at hD0 ⊢
  have hA : ∀ q : Nat, s.heap.size ≤ q → A q := fun q h => by rw [← hAe]; exact Or.inr h
  have hAc : ∀ q : Nat, q ∈ adM a → A q := fun q h => by rw [← hAe]; exact Or.inl h
  have hS0 : va_S A s.heap s.heap [] := va_S.rf
  have hl0 := lv_entry ([.ref (a 0)]) (n := 3) (Nat.le_of_ble_eq_true rfl)
  rw [lg_entry_eq]
  generalize (lg_sl ([.ref (a 0)]) ++ List.replicate (3 - (lg_sl ([.ref (a 0)])).length) Slot.unset).toArray = ls0 at hl0 ⊢
  have hl0 : lv_has ls0 3 [(0, .ref (a 0))] := hl0
  generalize hQ : MQ below _ _ s _ _ _ = Q
  clear hD9 B
  refine lv_aload_n hx hb dX11_bestPhase_0 rfl (lv_at hl0 0 rfl) ?_
  refine lv_iconst (v := 0) hx hb dX11_bestPhase_1 (by decide) ?_
  refine va_put (D := D) (ci := 11) (v := .int 0) (ty := .int) (C := RX11) (T := TX11) (N := 37) hx hb hts (fun _ h => List.mem_cons_of_mem _ (List.mem_append_right _ (h))) tyX11 tyX11_ok nmX11 hown hK hP0 hD0 hS0 0 rfl rfl 0 (by decide) (hts (.fieldLink RX11 41 "PhaselockModel" "thrown" "I") (List.mem_cons_of_mem _ (List.mem_append_left _ (List.mem_of_getElem? (i := 0) rfl)))) (fun _ h9 => h9) rfl (by decide +kernel) rfl rfl (Nat.le_of_ble_eq_true rfl) dX11_bestPhase_2 (fun H1 L1 hP1 hD1 hS1 => ?_)
  replace hP1 : va_P D vwCl (wM a cZ cI (s_X11_bestPhase_1 S)) H1 := cvP (wM_s0 a cZ cI S 0) hP1
  replace hD1 : va_D A (wM a cZ cI (s_X11_bestPhase_1 S)) := cvD (wM_s0 a cZ cI S 0) hD1
  clear hP0 hD0 hS0
  refine lv_iconst (v := 0) hx hb dX11_bestPhase_5 (by decide) ?_
  refine lv_istore_n (lv' := [(1, .int 0), (0, .ref (a 0))]) hx hb dX11_bestPhase_6 rfl hl0 (by decide) rfl (fun ls1 hl1 => ?_)
  clear hl0
  refine lv_iconst (v := 1) hx hb dX11_bestPhase_7 (by decide) ?_
  refine lv_istore_n (lv' := [(2, .int 1), (1, .int 0), (0, .ref (a 0))]) hx hb dX11_bestPhase_8 rfl hl1 (by decide) rfl (fun ls2 hl2 => ?_)
  clear hl1
  have LOOP : ∀ (fu i : Nat), i ≤ 15 → 15 < i + fu → ∀ (H2 : Heap) (L2 : List Loc), va_P D vwCl (wM a cZ cI (s_X11_bestPhase_1 S)) H2 → va_D A (wM a cZ cI (s_X11_bestPhase_1 S)) → va_S A s.heap H2 L2 → ∀ ls3 : Array Slot, lv_has ls3 3 [(2, .int (nI (i + 1))), (1, .int (mb S i)), (0, .ref (a 0))] → W p l e (headSpec wsX11_bestPhase rm_X11_bestPhase).room s m ([.ref (a 0)] : List Value).toArray below meth c H2 L2 0 0 Q (F0 m 9 ls3 []) := by
    clear hP1 hD1 hS1 hl2
    intro fu
    induction fu with
    | zero => exact fun i h1 h2 => absurd h2 (by omega)
    | succ fu ih =>
      intro i hi hin H2 L2 hP2 hD2 hS2 ls3 hl3
      refine lv_iload_n hx hb dX11_bestPhase_9 rfl (lv_at hl3 0 rfl) ?_
      refine lv_bipush (v := 16) hx hb dX11_bestPhase_10 (by decide) ?_
      refine lv_icmp_ge (tgt := 40) hx hb dX11_bestPhase_12 (by decide) (fun c1_12 => ?_) (fun c1_12 => ?_)
      · have hie : i = 15 := bp_e hi c1_12
        subst hie
        refine lv_iload_n hx hb dX11_bestPhase_40 rfl (lv_at hl3 1 rfl) ?_
        subst hQ; exact W.iret (v := (mb S 15)) hx hb hr (fun t ht hW => ⟨⟨(mb S 15), (s_X11_bestPhase_1 S), rfl, ⟨(show (s_X11_bestPhase_1 S) = s_X11_bestPhase S from rfl), (show (mb S 15) = r_X11_bestPhase S from rfl)⟩, endW hP2 hK hD2 ht hW⟩, hS2.F ht⟩) hS2.2.2 dX11_bestPhase_41
      · have hlt : i < 15 := bp_s hi c1_12
        refine lv_aload_n hx hb dX11_bestPhase_15 rfl (lv_at hl3 2 rfl) ?_
        refine lv_iload_n hx hb dX11_bestPhase_16 rfl (lv_at hl3 0 rfl) ?_
        refine va_calli (va_runV (As := [.int (nI (i + 1))]) (rest := []) ⟨hx, hb, hml, hown, hts⟩ (k_X11_costOf l D a cZ cI (s_X11_bestPhase_1 S) H2.size (nI (i + 1)) n hn hm) (cwV 1 hts gX11_bestPhase_X11_costOf rfl rfl rfl (by decide +kernel) ⟨Nat.le_of_ble_eq_true rfl, Nat.le_of_ble_eq_true rfl⟩) ⟨blW okN_T, va_recv hK hP2 (ci := 11) (q0 := 0) rfl rfl, preW hP2 hK hD2 okN_T hN⟩ rfl rfl hl3.1 rfl (lv_room (Nat.le_of_ble_eq_true rfl)) dX11_bestPhase_17 ⟨Nat.zero_le _, Nat.zero_le _⟩) hS2 (aA_in hAc) (aA_free hAc hA hS2) (fun r3 u3 t3 H3 L3 ht3 hvm3 hw3 hB3 _ _ hS3 => ?_)
        obtain ⟨hP3, hD3⟩ := backW hB3 ht3 (aA_free hAc hA hS2)
        clear hB3 ht3 hvm3 t3
        obtain ⟨hu3, hr3⟩ := hw3
        subst u3; subst r3
        clear hP2 hD2 hS2
        refine lv_asi (y := (v_X11_bestPhase_3 S i)) rfl ?_
        refine lv_aload_n hx hb dX11_bestPhase_20 rfl (lv_at hl3 2 rfl) ?_
        refine lv_iload_n hx hb dX11_bestPhase_21 rfl (lv_at hl3 1 rfl) ?_
        refine va_calli (va_runV (As := [.int (mb S i)]) (rest := [.int (v_X11_bestPhase_3 S i)]) ⟨hx, hb, hml, hown, hts⟩ (k_X11_costOf l D a cZ cI (s_X11_bestPhase_1 S) H3.size (mb S i) n hn hm) (cwV 1 hts gX11_bestPhase_X11_costOf rfl rfl rfl (by decide +kernel) ⟨Nat.le_of_ble_eq_true rfl, Nat.le_of_ble_eq_true rfl⟩) ⟨blW okN_T, va_recv hK hP3 (ci := 11) (q0 := 0) rfl rfl, preW hP3 hK hD3 okN_T hN⟩ rfl rfl hl3.1 rfl (lv_room (Nat.le_of_ble_eq_true rfl)) dX11_bestPhase_22 ⟨Nat.zero_le _, Nat.zero_le _⟩) hS3 (aA_in hAc) (aA_free hAc hA hS3) (fun r4 u4 t4 H4 L4 ht4 hvm4 hw4 hB4 _ _ hS4 => ?_)
        obtain ⟨hP4, hD4⟩ := backW hB4 ht4 (aA_free hAc hA hS3)
        clear hB4 ht4 hvm4 t4
        obtain ⟨hu4, hr4⟩ := hw4
        subst u4; subst r4
        clear hP3 hD3 hS3
        refine lv_asi (y := (v_X11_bestPhase_4 S i)) rfl ?_
        have J1_25 : W p l e (headSpec wsX11_bestPhase rm_X11_bestPhase).room s m ([.ref (a 0)] : List Value).toArray below meth c H4 L4 0 0 Q (F0 m 33 ls3 [.int (v_X11_bestPhase_5 S i)]) := by
          refine lv_istore_n (lv' := [(1, .int (v_X11_bestPhase_5 S i)), (2, .int (nI (i + 1))), (0, .ref (a 0))]) hx hb dX11_bestPhase_33 rfl hl3 (by decide) rfl (fun ls4 hl4 => ?_)
          clear hl3
          refine lv_iinc (v := (v_X11_bestPhase_6 S i)) (lv' := [(2, .int (v_X11_bestPhase_6 S i)), (1, .int (v_X11_bestPhase_5 S i)), (0, .ref (a 0))]) hx hb dX11_bestPhase_34 hl4 (k := 1) rfl rfl (by decide) rfl (fun ls5 hl5 => ?_)
          clear hl4
          refine lv_goto (tgt := 9) hx hb dX11_bestPhase_37 (by decide) ?_
          exact ih (i + 1) (by omega) (by omega) _ _ hP4 hD4 hS4 _ (by rw [show (nI ((i + 1) + 1)) = (v_X11_bestPhase_6 S i) from (nI_1 (i + 1)).symm, show (mb S (i + 1)) = (v_X11_bestPhase_5 S i) from rfl]; exact lv_sub (l' := [(2, .int (v_X11_bestPhase_6 S i)), (1, .int (v_X11_bestPhase_5 S i)), (0, .ref (a 0))]) hl5 [0, 1, 2] rfl)
        refine lv_icmp_ge (tgt := 32) hx hb dX11_bestPhase_25 (by decide) (fun c2_25 => ?_) (fun c2_25 => ?_)
        · refine lv_iload_n hx hb dX11_bestPhase_32 rfl (lv_at hl3 1 rfl) ?_
          refine lv_asi (y := (v_X11_bestPhase_5 S i)) (show (v_X11_bestPhase_5 S i) = (mb S i) from (if_pos c2_25)).symm ?_
          exact J1_25
        · refine lv_iload_n hx hb dX11_bestPhase_28 rfl (lv_at hl3 0 rfl) ?_
          refine lv_goto (tgt := 33) hx hb dX11_bestPhase_29 (by decide) ?_
          refine lv_asi (y := (v_X11_bestPhase_5 S i)) (show (v_X11_bestPhase_5 S i) = (nI (i + 1)) from (if_neg c2_25)).symm ?_
          exact J1_25
  exact LOOP (15 + 1) 0 (Nat.zero_le _) (by omega) _ _ hP1 hD1 hS1 _ (lv_sub (l' := [(2, .int (nI (0 + 1))), (1, .int (mb S 0)), (0, .ref (a 0))]) hl2 [0, 1, 2] rfl)

def v_X11_cost_1 (S : St) (p0 : Int32) : Int32 := r_X11_in S p0 0 15
def v_X11_cost_2 (S : St) (p0 : Int32) : Int32 := if (v_X11_cost_1 S p0) = 0 then 1 else 0
def s_X11_cost_3 (S : St) (p0 : Int32) : St := s_X11_holds S (v_X11_cost_2 S p0)
def v_X11_cost_4 (S : St) (p0 : Int32) : Int32 := r_X11_holds S (v_X11_cost_2 S p0)
def v_X11_cost_5 (S : St) (p0 : Int32) : Int32 := r_X11_costOf (s_X11_cost_3 S p0) p0
def v_X11_cost_6 (S : St) (p0 : Int32) : Int32 := if (v_X11_cost_4 S p0) = 0 then 0 else (v_X11_cost_5 S p0)
def s_X11_cost (S : St) (p0 : Int32) : St := (s_X11_cost_3 S p0)
def r_X11_cost (S : St) (p0 : Int32) : Int32 := (v_X11_cost_6 S p0)
def rm_X11_cost : Room := { frames := 1, cells := 0, slots := 0, locals := 25 }
set_option maxRecDepth 100000 in
set_option maxHeartbeats 4000000 in
theorem k_X11_cost (l : Launch) (D : va_G) (a : Nat → Nat) (cZ cI : ClassId) (S : St) (sz : Nat) (p0 : Int32) (n : Nat) (hn : n < 2000000) (hm : okM n S) : Met l yX11_cost wsX11_cost rm_X11_cost (va_Pc [.ref (a 0), .int p0] (pW D (tyZI cZ cI) (wM a cZ cI S) sz nT)) (va_Qi (fun (r : Int32) (u : St) => u = s_X11_cost S p0 ∧ r = r_X11_cost S p0) (fun u t => oW D (tyZI cZ cI) (wM a cZ cI u) (aA (adM a) sz) t) (aA (adM a) sz)) 0 0 (aA (adM a) sz) := by
  refine Met.ofW (cc := cX11_cost) (maxL := 2) (ret := (some .int)) (by decide +kernel) rfl ?_
  intro p e s m args below meth c s₁ B hml hv
  obtain ⟨rfl, hsz, hP0, hK, hD9, hN⟩ := hv
  have hx := B.exec
  have hb := B.bytes
  have hr := B.returns
  have hts := atoms_spec (ws := wsX11_cost) B.pre
  have hown : s.vm.findClass RX11 = some m.cls := findClass_of_methodNamed B.named
  have hlocks := B.notSynchronized
  subst hsz
  have hD0 := aA_self (sz := s.heap.size) (as := adM a) hD9 rfl
  generalize hAe : aA (adM a) s.heap.size = A at hD0 ⊢
  have hA : ∀ q : Nat, s.heap.size ≤ q → A q := fun q h => by rw [← hAe]; exact Or.inr h
  have hAc : ∀ q : Nat, q ∈ adM a → A q := fun q h => by rw [← hAe]; exact Or.inl h
  have hS0 : va_S A s.heap s.heap [] := va_S.rf
  have hl0 := lv_entry ([.ref (a 0), .int p0]) (n := 2) (Nat.le_of_ble_eq_true rfl)
  rw [lg_entry_eq]
  generalize (lg_sl ([.ref (a 0), .int p0]) ++ List.replicate (2 - (lg_sl ([.ref (a 0), .int p0])).length) Slot.unset).toArray = ls0 at hl0 ⊢
  have hl0 : lv_has ls0 2 [(0, .ref (a 0)), (1, .int p0)] := hl0
  generalize hQ : MQ below _ _ s _ _ _ = Q
  clear hD9 B
  refine lv_aload_n hx hb dX11_cost_0 rfl (lv_at hl0 0 rfl) ?_
  refine lv_iload_n hx hb dX11_cost_1 rfl (lv_at hl0 1 rfl) ?_
  refine lv_iconst (v := 0) hx hb dX11_cost_2 (by decide) ?_
  refine lv_bipush (v := 15) hx hb dX11_cost_3 (by decide) ?_
  refine va_calli (va_runS (As := [.int p0, .int 0, .int 15]) (rest := [.ref (a 0)]) ⟨hx, hb, hml, hown, hts⟩ (k_X11_in l D a cZ cI S s.heap.size p0 0 15) (va_cwS 3 hts gX11_cost_X11_in rfl rfl rfl (by decide +kernel) ⟨Nat.le_of_ble_eq_true rfl, Nat.le_of_ble_eq_true rfl⟩) ⟨blW okN_T, preW hP0 hK hD0 okN_T hN⟩ rfl rfl hl0.1 rfl (lv_room (Nat.le_of_ble_eq_true rfl)) dX11_cost_5 ⟨Nat.zero_le _, Nat.zero_le _⟩) hS0 (aA_in hAc) (aA_free hAc hA hS0) (fun r1 u1 t1 H1 L1 ht1 hvm1 hw1 hB1 _ _ hS1 => ?_)
  obtain ⟨hP1, hD1⟩ := backW hB1 ht1 (aA_free hAc hA hS0)
  clear hB1 ht1 hvm1 t1
  obtain ⟨hu1, hr1⟩ := hw1
  subst u1; subst r1
  clear hP0 hD0 hS0
  refine lv_asi (y := (v_X11_cost_1 S p0)) rfl ?_
  have J1_8 : W p l e (headSpec wsX11_cost rm_X11_cost).room s m ([.ref (a 0), .int p0] : List Value).toArray below meth c H1 L1 0 0 Q (F0 m 16 ls0 [.int (v_X11_cost_2 S p0), .ref (a 0)]) := by
    refine va_calli (va_runV (As := [.int (v_X11_cost_2 S p0)]) (rest := []) ⟨hx, hb, hml, hown, hts⟩ (k_X11_holds l D a cZ cI S H1.size (v_X11_cost_2 S p0)) (cwV 1 hts gX11_cost_X11_holds rfl rfl rfl (by decide +kernel) ⟨Nat.le_of_ble_eq_true rfl, Nat.le_of_ble_eq_true rfl⟩) ⟨blW okN_T, va_recv hK hP1 (ci := 11) (q0 := 0) rfl rfl, preW hP1 hK hD1 okN_T hN⟩ rfl rfl hl0.1 rfl (lv_room (Nat.le_of_ble_eq_true rfl)) dX11_cost_16 ⟨Nat.zero_le _, Nat.zero_le _⟩) hS1 (aA_in hAc) (aA_free hAc hA hS1) (fun r2 u2 t2 H2 L2 ht2 hvm2 hw2 hB2 _ _ hS2 => ?_)
    obtain ⟨hP2, hD2⟩ := backW hB2 ht2 (aA_free hAc hA hS1)
    clear hB2 ht2 hvm2 t2
    obtain ⟨hu2, hr2⟩ := hw2
    subst u2; subst r2
    replace hP2 : va_P D vwCl (wM a cZ cI (s_X11_cost_3 S p0)) H2 := hP2
    replace hD2 : va_D A (wM a cZ cI (s_X11_cost_3 S p0)) := hD2
    clear hP1 hD1 hS1
    refine lv_asi (y := (v_X11_cost_4 S p0)) rfl ?_
    have J2_19 : ∀ (H4 : Heap) (L4 : List Loc), va_P D vwCl (wM a cZ cI (s_X11_cost_3 S p0)) H4 → va_D A (wM a cZ cI (s_X11_cost_3 S p0)) → va_S A s.heap H4 L4 → W p l e (headSpec wsX11_cost rm_X11_cost).room s m ([.ref (a 0), .int p0] : List Value).toArray below meth c H4 L4 0 0 Q (F0 m 31 ls0 [.int (v_X11_cost_6 S p0)]) := by
      intro H4 L4 hP4 hD4 hS4
      clear hP2 hD2 hS2
      subst hQ; exact W.iret (v := (v_X11_cost_6 S p0)) hx hb hr (fun t ht hW => ⟨⟨(v_X11_cost_6 S p0), (s_X11_cost_3 S p0), rfl, ⟨(show (s_X11_cost_3 S p0) = s_X11_cost S p0 from rfl), (show (v_X11_cost_6 S p0) = r_X11_cost S p0 from rfl)⟩, endW hP4 hK hD4 ht hW⟩, hS4.F ht⟩) hS4.2.2 dX11_cost_31
    refine lv_if_eq (tgt := 30) hx hb dX11_cost_19 (by decide) (fun c2_19 => ?_) (fun c2_19 => ?_)
    · refine lv_iconst (v := 0) hx hb dX11_cost_30 (by decide) ?_
      refine lv_asi (y := (v_X11_cost_6 S p0)) (show (v_X11_cost_6 S p0) = 0 from (if_pos c2_19)).symm ?_
      exact J2_19 _ _ hP2 hD2 hS2
    · refine lv_aload_n hx hb dX11_cost_22 rfl (lv_at hl0 0 rfl) ?_
      refine lv_iload_n hx hb dX11_cost_23 rfl (lv_at hl0 1 rfl) ?_
      refine va_calli (va_runV (As := [.int p0]) (rest := []) ⟨hx, hb, hml, hown, hts⟩ (k_X11_costOf l D a cZ cI (s_X11_cost_3 S p0) H2.size p0 n hn hm) (cwV 1 hts gX11_cost_X11_costOf rfl rfl rfl (by decide +kernel) ⟨Nat.le_of_ble_eq_true rfl, Nat.le_of_ble_eq_true rfl⟩) ⟨blW okN_T, va_recv hK hP2 (ci := 11) (q0 := 0) rfl rfl, preW hP2 hK hD2 okN_T hN⟩ rfl rfl hl0.1 rfl (lv_room (Nat.le_of_ble_eq_true rfl)) dX11_cost_24 ⟨Nat.zero_le _, Nat.zero_le _⟩) hS2 (aA_in hAc) (aA_free hAc hA hS2) (fun r3 u3 t3 H3 L3 ht3 hvm3 hw3 hB3 _ _ hS3 => ?_)
      obtain ⟨hP3, hD3⟩ := backW hB3 ht3 (aA_free hAc hA hS2)
      clear hB3 ht3 hvm3 t3
      obtain ⟨hu3, hr3⟩ := hw3
      subst u3; subst r3
      clear hP2 hD2 hS2
      refine lv_asi (y := (v_X11_cost_5 S p0)) rfl ?_
      refine lv_goto (tgt := 31) hx hb dX11_cost_27 (by decide) ?_
      refine lv_asi (y := (v_X11_cost_6 S p0)) (show (v_X11_cost_6 S p0) = (v_X11_cost_5 S p0) from (if_neg c2_19)).symm ?_
      exact J2_19 _ _ hP3 hD3 hS3
  refine lv_if_eq (tgt := 15) hx hb dX11_cost_8 (by decide) (fun c1_8 => ?_) (fun c1_8 => ?_)
  · refine lv_iconst (v := 1) hx hb dX11_cost_15 (by decide) ?_
    refine lv_asi (y := (v_X11_cost_2 S p0)) (show (v_X11_cost_2 S p0) = 1 from (if_pos c1_8)).symm ?_
    exact J1_8
  · refine lv_iconst (v := 0) hx hb dX11_cost_11 (by decide) ?_
    refine lv_goto (tgt := 16) hx hb dX11_cost_12 (by decide) ?_
    refine lv_asi (y := (v_X11_cost_2 S p0)) (show (v_X11_cost_2 S p0) = 0 from (if_neg c1_8)).symm ?_
    exact J1_8

def s_X11_isLocked_1 (S : St) : St := si S 0 0
def v_X11_isLocked_2 (S : St) : Int32 := if ((s_X11_isLocked_1 S).1 24) < 32 then 0 else if ((s_X11_isLocked_1 S).1 29) = 0 then 1 else 0
def lkM (S : St) : Nat → Int32
  | 0 => (v_X11_isLocked_2 S)
  | i + 1 => if lkM S i = 0 then 0 else if r_X11_in (s_X11_isLocked_1 S) (S.2.2.2 (nI i).toNatClampNeg) (-16384) 16383 = 0 then 0 else 1
def v_X11_isLocked_4 (S : St) (i : Nat) : Int32 := (s_X11_isLocked_1 S).2.2.2 ((nI i)).toNatClampNeg
def v_X11_isLocked_5 (S : St) (i : Nat) : Int32 := r_X11_in (s_X11_isLocked_1 S) (v_X11_isLocked_4 S i) (-16384) 16383
def v_X11_isLocked_6 (S : St) (i : Nat) : Int32 := if (lkM S i) = 0 then 0 else if (v_X11_isLocked_5 S i) = 0 then 0 else 1
def v_X11_isLocked_7 (S : St) (i : Nat) : Int32 := (nI i) + 1
def s_X11_isLocked (S : St) : St := (s_X11_isLocked_1 S)
def r_X11_isLocked (S : St) : Int32 := (lkM S 32)
def rm_X11_isLocked : Room := { frames := 1, cells := 0, slots := 0, locals := 22 }
theorem z_lkM (S : St) : ∀ i, narrow .boolean (.int (lkM S i)) = .int (lkM S i)
  | 0 => by unfold lkM v_X11_isLocked_2; (repeat' split) <;> decide
  | i + 1 => by unfold lkM; (repeat' split) <;> decide
set_option maxRecDepth 100000 in
set_option maxHeartbeats 4000000 in
theorem k_X11_isLocked (l : Launch) (D : va_G) (a : Nat → Nat) (cZ cI : ClassId) (S : St) (sz : Nat) : Met l yX11_isLocked wsX11_isLocked rm_X11_isLocked (va_Pc [.ref (a 0)] (pW D (tyZI cZ cI) (wM a cZ cI S) sz nT)) (va_Qi (fun (r : Int32) (u : St) => u = s_X11_isLocked S ∧ r = r_X11_isLocked S) (fun u t => oW D (tyZI cZ cI) (wM a cZ cI u) (aA (adM a) sz) t) (aA (adM a) sz)) 0 0 (aA (adM a) sz) := by
  refine Met.ofW (cc := cX11_isLocked) (maxL := 3) (ret := (some .boolean)) (by decide +kernel) rfl ?_
  intro p e s m args below meth c s₁ B hml hv
  obtain ⟨rfl, hsz, hP0, hK, hD9, hN⟩ := hv
  have hx := B.exec
  have hb := B.bytes
  have hr := B.returns
  have hts := atoms_spec (ws := wsX11_isLocked) B.pre
  have hown : s.vm.findClass RX11 = some m.cls := findClass_of_methodNamed B.named
  have hlocks := B.notSynchronized
  subst hsz
  have hD0 := aA_self (sz := s.heap.size) (as := adM a) hD9 rfl
  generalize hAe : aA (adM a) s.heap.size = A at hD0 ⊢
  have hA : ∀ q : Nat, s.heap.size ≤ q → A q := fun q h => by rw [← hAe]; exact Or.inr h
  have hAc : ∀ q : Nat, q ∈ adM a → A q := fun q h => by rw [← hAe]; exact Or.inl h
  have hS0 : va_S A s.heap s.heap [] := va_S.rf
  have hl0 := lv_entry ([.ref (a 0)]) (n := 3) (Nat.le_of_ble_eq_true rfl)
  rw [lg_entry_eq]
  generalize (lg_sl ([.ref (a 0)]) ++ List.replicate (3 - (lg_sl ([.ref (a 0)])).length) Slot.unset).toArray = ls0 at hl0 ⊢
  have hl0 : lv_has ls0 3 [(0, .ref (a 0))] := hl0
  generalize hQ : MQ below _ _ s _ _ _ = Q
  clear hD9 B
  refine lv_aload_n hx hb dX11_isLocked_0 rfl (lv_at hl0 0 rfl) ?_
  refine lv_iconst (v := 0) hx hb dX11_isLocked_1 (by decide) ?_
  refine va_put (D := D) (ci := 11) (v := .int 0) (ty := .int) (C := RX11) (T := TX11) (N := 37) hx hb hts (fun _ h => List.mem_cons_of_mem _ (List.mem_append_right _ (h))) tyX11 tyX11_ok nmX11 hown hK hP0 hD0 hS0 0 rfl rfl 0 (by decide) (hts (.fieldLink RX11 41 "PhaselockModel" "thrown" "I") (List.mem_cons_of_mem _ (List.mem_append_left _ (List.mem_of_getElem? (i := 0) rfl)))) (fun _ h9 => h9) rfl (by decide +kernel) rfl rfl (Nat.le_of_ble_eq_true rfl) dX11_isLocked_2 (fun H1 L1 hP1 hD1 hS1 => ?_)
  replace hP1 : va_P D vwCl (wM a cZ cI (s_X11_isLocked_1 S)) H1 := cvP (wM_s0 a cZ cI S 0) hP1
  replace hD1 : va_D A (wM a cZ cI (s_X11_isLocked_1 S)) := cvD (wM_s0 a cZ cI S 0) hD1
  clear hP0 hD0 hS0
  refine lv_aload_n hx hb dX11_isLocked_5 rfl (lv_at hl0 0 rfl) ?_
  refine va_get (D := D) (ci := 11) (v := .int ((s_X11_isLocked_1 S).1 24)) (C := RX11) (T := TX11) (N := 37) hx hb hts (fun _ h => List.mem_cons_of_mem _ (List.mem_append_right _ (h))) hown hK hP1 0 rfl rfl 24 (by decide) (hts (.fieldLink RX11 99 "PhaselockModel" "received" "I") (List.mem_cons_of_mem _ (List.mem_append_left _ (List.mem_of_getElem? (i := 1) rfl)))) (fun _ h9 => h9) rfl dX11_isLocked_6 ?_
  refine lv_bipush (v := 32) hx hb dX11_isLocked_9 (by decide) ?_
  have J1_11 : W p l e (headSpec wsX11_isLocked rm_X11_isLocked).room s m ([.ref (a 0)] : List Value).toArray below meth c H1 L1 0 0 Q (F0 m 26 ls0 [.int (v_X11_isLocked_2 S)]) := by
    refine lv_istore_n (lv' := [(1, .int (v_X11_isLocked_2 S)), (0, .ref (a 0))]) hx hb dX11_isLocked_26 rfl hl0 (by decide) rfl (fun ls1 hl1 => ?_)
    clear hl0
    refine lv_iconst (v := 0) hx hb dX11_isLocked_27 (by decide) ?_
    refine lv_istore_n (lv' := [(2, .int 0), (1, .int (v_X11_isLocked_2 S)), (0, .ref (a 0))]) hx hb dX11_isLocked_28 rfl hl1 (by decide) rfl (fun ls2 hl2 => ?_)
    clear hl1
    have LOOP : ∀ (fu i : Nat), i ≤ 32 → 32 < i + fu → ∀ (H2 : Heap) (L2 : List Loc), va_P D vwCl (wM a cZ cI (s_X11_isLocked_1 S)) H2 → va_D A (wM a cZ cI (s_X11_isLocked_1 S)) → va_S A s.heap H2 L2 → ∀ ls3 : Array Slot, lv_has ls3 3 [(2, .int (nI i)), (1, .int (lkM S i)), (0, .ref (a 0))] → W p l e (headSpec wsX11_isLocked rm_X11_isLocked).room s m ([.ref (a 0)] : List Value).toArray below meth c H2 L2 0 0 Q (F0 m 29 ls3 []) := by
      clear hP1 hD1 hS1 hl2
      intro fu
      induction fu with
      | zero => exact fun i h1 h2 => absurd h2 (by omega)
      | succ fu ih =>
        intro i hi hin H2 L2 hP2 hD2 hS2 ls3 hl3
        refine lv_iload_n hx hb dX11_isLocked_29 rfl (lv_at hl3 0 rfl) ?_
        refine lv_bipush (v := 32) hx hb dX11_isLocked_30 (by decide) ?_
        refine lv_icmp_ge (tgt := 69) hx hb dX11_isLocked_32 (by decide) (fun c3_32 => ?_) (fun c3_32 => ?_)
        · have hie : i = 32 := lp_ge (N := 32) (by decide) hi c3_32
          subst hie
          refine lv_iload_n hx hb dX11_isLocked_69 rfl (lv_at hl3 1 rfl) ?_
          subst hQ; exact W.zret (v := (lkM S 32)) hx hb hr (z_lkM S 32) (fun t ht hW => ⟨⟨(lkM S 32), (s_X11_isLocked_1 S), rfl, ⟨(show (s_X11_isLocked_1 S) = s_X11_isLocked S from rfl), (show (lkM S 32) = r_X11_isLocked S from rfl)⟩, endW hP2 hK hD2 ht hW⟩, hS2.F ht⟩) hS2.2.2 dX11_isLocked_70
        · have hlt : i < 32 := lp_lt (N := 32) (by decide) hi c3_32
          refine lv_iload_n hx hb dX11_isLocked_35 rfl (lv_at hl3 1 rfl) ?_
          have J2_36 : ∀ (H4 : Heap) (L4 : List Loc), va_P D vwCl (wM a cZ cI (s_X11_isLocked_1 S)) H4 → va_D A (wM a cZ cI (s_X11_isLocked_1 S)) → va_S A s.heap H4 L4 → W p l e (headSpec wsX11_isLocked rm_X11_isLocked).room s m ([.ref (a 0)] : List Value).toArray below meth c H4 L4 0 0 Q (F0 m 62 ls3 [.int (v_X11_isLocked_6 S i)]) := by
            intro H4 L4 hP4 hD4 hS4
            clear hP2 hD2 hS2
            refine lv_istore_n (lv' := [(1, .int (v_X11_isLocked_6 S i)), (2, .int (nI i)), (0, .ref (a 0))]) hx hb dX11_isLocked_62 rfl hl3 (by decide) rfl (fun ls4 hl4 => ?_)
            clear hl3
            refine lv_iinc (v := (v_X11_isLocked_7 S i)) (lv' := [(2, .int (v_X11_isLocked_7 S i)), (1, .int (v_X11_isLocked_6 S i)), (0, .ref (a 0))]) hx hb dX11_isLocked_63 hl4 (k := 1) rfl rfl (by decide) rfl (fun ls5 hl5 => ?_)
            clear hl4
            refine lv_goto (tgt := 29) hx hb dX11_isLocked_66 (by decide) ?_
            exact ih (i + 1) (by omega) (by omega) _ _ hP4 hD4 hS4 _ (by rw [show (nI (i + 1)) = (v_X11_isLocked_7 S i) from (nI_1 i).symm, show (lkM S (i + 1)) = (v_X11_isLocked_6 S i) from rfl]; exact lv_sub (l' := [(2, .int (v_X11_isLocked_7 S i)), (1, .int (v_X11_isLocked_6 S i)), (0, .ref (a 0))]) hl5 [0, 1, 2] rfl)
          refine lv_if_eq (tgt := 61) hx hb dX11_isLocked_36 (by decide) (fun c4_36 => ?_) (fun c4_36 => ?_)
          · refine lv_iconst (v := 0) hx hb dX11_isLocked_61 (by decide) ?_
            refine lv_asi (y := (v_X11_isLocked_6 S i)) (show (v_X11_isLocked_6 S i) = 0 from (if_pos c4_36)).symm ?_
            exact J2_36 _ _ hP2 hD2 hS2
          · refine lv_aload_n hx hb dX11_isLocked_39 rfl (lv_at hl3 2 rfl) ?_
            refine va_get (D := D) (ci := 11) (v := .ref (a 2)) (C := RX11) (T := TX11) (N := 37) hx hb hts (fun _ h => List.mem_cons_of_mem _ (List.mem_append_right _ (h))) hown hK hP2 0 rfl rfl 30 (by decide) (hts (.fieldLink RX11 37 "PhaselockModel" "phases" "[I") (List.mem_cons_of_mem _ (List.mem_append_left _ (List.mem_of_getElem? (i := 3) rfl)))) (fun _ h9 => h9) rfl dX11_isLocked_40 ?_
            refine lv_iload_n hx hb dX11_isLocked_43 rfl (lv_at hl3 0 rfl) ?_
            refine va_iald (D := D) hx hb hK hP2 2 1 rfl rfl (vp_in_nI hlt (by decide)) dX11_isLocked_44 ?_
            refine lv_asi (y := (v_X11_isLocked_4 S i)) rfl ?_
            refine lv_sipush (v := (-16384)) hx hb dX11_isLocked_45 (by decide) ?_
            refine lv_sipush (v := 16383) hx hb dX11_isLocked_48 (by decide) ?_
            refine va_calli (va_runS (As := [.int (v_X11_isLocked_4 S i), .int (-16384), .int 16383]) (rest := []) ⟨hx, hb, hml, hown, hts⟩ (k_X11_in l D a cZ cI (s_X11_isLocked_1 S) H2.size (v_X11_isLocked_4 S i) (-16384) 16383) (va_cwS 3 hts gX11_isLocked_X11_in rfl rfl rfl (by decide +kernel) ⟨Nat.le_of_ble_eq_true rfl, Nat.le_of_ble_eq_true rfl⟩) ⟨blW okN_T, preW hP2 hK hD2 okN_T hN⟩ rfl rfl hl3.1 rfl (lv_room (Nat.le_of_ble_eq_true rfl)) dX11_isLocked_51 ⟨Nat.zero_le _, Nat.zero_le _⟩) hS2 (aA_in hAc) (aA_free hAc hA hS2) (fun r3 u3 t3 H3 L3 ht3 hvm3 hw3 hB3 _ _ hS3 => ?_)
            obtain ⟨hP3, hD3⟩ := backW hB3 ht3 (aA_free hAc hA hS2)
            clear hB3 ht3 hvm3 t3
            obtain ⟨hu3, hr3⟩ := hw3
            subst u3; subst r3
            clear hP2 hD2 hS2
            refine lv_asi (y := (v_X11_isLocked_5 S i)) rfl ?_
            refine lv_if_eq (tgt := 61) hx hb dX11_isLocked_54 (by decide) (fun c5_54 => ?_) (fun c5_54 => ?_)
            · refine lv_iconst (v := 0) hx hb dX11_isLocked_61 (by decide) ?_
              refine lv_asi (y := (v_X11_isLocked_6 S i)) (show (v_X11_isLocked_6 S i) = 0 from ((if_neg c4_36).trans (if_pos c5_54))).symm ?_
              exact J2_36 _ _ hP3 hD3 hS3
            · refine lv_iconst (v := 1) hx hb dX11_isLocked_57 (by decide) ?_
              refine lv_goto (tgt := 62) hx hb dX11_isLocked_58 (by decide) ?_
              refine lv_asi (y := (v_X11_isLocked_6 S i)) (show (v_X11_isLocked_6 S i) = 1 from ((if_neg c4_36).trans (if_neg c5_54))).symm ?_
              exact J2_36 _ _ hP3 hD3 hS3
    exact LOOP (32 + 1) 0 (Nat.zero_le _) (by omega) _ _ hP1 hD1 hS1 _ (lv_sub (l' := [(2, .int (nI 0)), (1, .int (lkM S 0)), (0, .ref (a 0))]) hl2 [0, 1, 2] rfl)
  refine lv_icmp_lt (tgt := 25) hx hb dX11_isLocked_11 (by decide) (fun c1_11 => ?_) (fun c1_11 => ?_)
  · refine lv_iconst (v := 0) hx hb dX11_isLocked_25 (by decide) ?_
    refine lv_asi (y := (v_X11_isLocked_2 S)) (show (v_X11_isLocked_2 S) = 0 from (if_pos c1_11)).symm ?_
    exact J1_11
  · refine lv_aload_n hx hb dX11_isLocked_14 rfl (lv_at hl0 0 rfl) ?_
    refine va_get (D := D) (ci := 11) (v := .int ((s_X11_isLocked_1 S).1 29)) (C := RX11) (T := TX11) (N := 37) hx hb hts (fun _ h => List.mem_cons_of_mem _ (List.mem_append_right _ (h))) hown hK hP1 0 rfl rfl 29 (by decide) (hts (.fieldLink RX11 130 "PhaselockModel" "slips" "I") (List.mem_cons_of_mem _ (List.mem_append_left _ (List.mem_of_getElem? (i := 2) rfl)))) (fun _ h9 => h9) rfl dX11_isLocked_15 ?_
    refine lv_if_ne (tgt := 25) hx hb dX11_isLocked_18 (by decide) (fun c2_18 => ?_) (fun c2_18 => ?_)
    · refine lv_iconst (v := 0) hx hb dX11_isLocked_25 (by decide) ?_
      refine lv_asi (y := (v_X11_isLocked_2 S)) (show (v_X11_isLocked_2 S) = 0 from ((if_neg c1_11).trans (if_neg c2_18))).symm ?_
      exact J1_11
    · refine lv_iconst (v := 1) hx hb dX11_isLocked_21 (by decide) ?_
      refine lv_goto (tgt := 26) hx hb dX11_isLocked_22 (by decide) ?_
      refine lv_asi (y := (v_X11_isLocked_2 S)) (show (v_X11_isLocked_2 S) = 1 from ((if_neg c1_11).trans (if_pos c2_18))).symm ?_
      exact J1_11

def s_X11_wander_1 (S : St) : St := si S 0 0
def mw (S : St) : Nat → Int32
  | 0 => 0
  | i + 1 => mw S i + r_X11_size (s_X11_wander_1 S) (S.2.2.2 (nI i).toNatClampNeg)
def v_X11_wander_2 (S : St) (i : Nat) : Int32 := r_X11_recent (s_X11_wander_1 S)
def v_X11_wander_4 (S : St) (i : Nat) : Int32 := (s_X11_wander_1 S).2.2.2 ((nI i)).toNatClampNeg
def v_X11_wander_5 (S : St) (i : Nat) : Int32 := r_X11_size (s_X11_wander_1 S) (v_X11_wander_4 S i)
def v_X11_wander_6 (S : St) (i : Nat) : Int32 := (mw S i) + (v_X11_wander_5 S i)
def v_X11_wander_7 (S : St) (i : Nat) : Int32 := (nI i) + 1
def s_X11_wander (S : St) : St := (s_X11_wander_1 S)
def r_X11_wander (S : St) : Int32 := (mw S (min (rc S) 32))
def rm_X11_wander : Room := { frames := 1, cells := 0, slots := 0, locals := 20 }
theorem rct {n : Nat} {S T : St} (hn : n < 2000000) (hm : okM n S) (h : T.1 24 = S.1 24) : r_X11_recent T = nI (min (rc S) 32) := by
  have h6 := hm.2.2.2
  show (if nI 32 ≤ T.1 24 then nI 32 else T.1 24) = _
  rw [h, hm.2.2.1]
  by_cases q : 32 ≤ rc S
  · rw [if_pos ((nI_leI (a := 32) (b := rc S) (by omega) (by omega)).mpr q), Nat.min_eq_right q]
  · rw [if_neg (fun z => q ((nI_leI (a := 32) (b := rc S) (by omega) (by omega)).mp z)), Nat.min_eq_left (by omega)]
theorem wd_e {n i : Nat} {S : St} (hn : n < 2000000) (hm : okM n S) (hi : i ≤ min (rc S) 32) (c : r_X11_recent (si S 0 0) ≤ nI i) : i = min (rc S) 32 := by
  rw [rct (T := si S 0 0) hn hm rfl] at c
  exact lp_ge (by omega) hi c
theorem wd_s {n i : Nat} {S : St} (hn : n < 2000000) (hm : okM n S) (hi : i ≤ min (rc S) 32) (c : ¬ r_X11_recent (si S 0 0) ≤ nI i) : i < min (rc S) 32 := by
  rw [rct (T := si S 0 0) hn hm rfl] at c
  exact lp_lt (by omega) hi c
set_option maxRecDepth 100000 in
set_option maxHeartbeats 4000000 in
theorem k_X11_wander (l : Launch) (D : va_G) (a : Nat → Nat) (cZ cI : ClassId) (S : St) (sz : Nat) (n : Nat) (hn : n < 2000000) (hm : okM n S) : Met l yX11_wander wsX11_wander rm_X11_wander (va_Pc [.ref (a 0)] (pW D (tyZI cZ cI) (wM a cZ cI S) sz nT)) (va_Qi (fun (r : Int32) (u : St) => u = s_X11_wander S ∧ r = r_X11_wander S) (fun u t => oW D (tyZI cZ cI) (wM a cZ cI u) (aA (adM a) sz) t) (aA (adM a) sz)) 0 0 (aA (adM a) sz) := by
  refine Met.ofW (cc := cX11_wander) (maxL := 3) (ret := (some .int)) (by decide +kernel) rfl ?_
  intro p e s m args below meth c s₁ B hml hv
  obtain ⟨rfl, hsz, hP0, hK, hD9, hN⟩ := hv
  have hx := B.exec
  have hb := B.bytes
  have hr := B.returns
  have hts := atoms_spec (ws := wsX11_wander) B.pre
  have hown : s.vm.findClass RX11 = some m.cls := findClass_of_methodNamed B.named
  have hlocks := B.notSynchronized
  subst hsz
  have hD0 := aA_self (sz := s.heap.size) (as := adM a) hD9 rfl
  generalize hAe : aA (adM a) s.heap.size = A at hD0 ⊢
  have hA : ∀ q : Nat, s.heap.size ≤ q → A q := fun q h => by rw [← hAe]; exact Or.inr h
  have hAc : ∀ q : Nat, q ∈ adM a → A q := fun q h => by rw [← hAe]; exact Or.inl h
  have hS0 : va_S A s.heap s.heap [] := va_S.rf
  have hl0 := lv_entry ([.ref (a 0)]) (n := 3) (Nat.le_of_ble_eq_true rfl)
  rw [lg_entry_eq]
  generalize (lg_sl ([.ref (a 0)]) ++ List.replicate (3 - (lg_sl ([.ref (a 0)])).length) Slot.unset).toArray = ls0 at hl0 ⊢
  have hl0 : lv_has ls0 3 [(0, .ref (a 0))] := hl0
  generalize hQ : MQ below _ _ s _ _ _ = Q
  clear hD9 B
  refine lv_aload_n hx hb dX11_wander_0 rfl (lv_at hl0 0 rfl) ?_
  refine lv_iconst (v := 0) hx hb dX11_wander_1 (by decide) ?_
  refine va_put (D := D) (ci := 11) (v := .int 0) (ty := .int) (C := RX11) (T := TX11) (N := 37) hx hb hts (fun _ h => List.mem_cons_of_mem _ (List.mem_append_right _ (h))) tyX11 tyX11_ok nmX11 hown hK hP0 hD0 hS0 0 rfl rfl 0 (by decide) (hts (.fieldLink RX11 41 "PhaselockModel" "thrown" "I") (List.mem_cons_of_mem _ (List.mem_append_left _ (List.mem_of_getElem? (i := 0) rfl)))) (fun _ h9 => h9) rfl (by decide +kernel) rfl rfl (Nat.le_of_ble_eq_true rfl) dX11_wander_2 (fun H1 L1 hP1 hD1 hS1 => ?_)
  replace hP1 : va_P D vwCl (wM a cZ cI (s_X11_wander_1 S)) H1 := cvP (wM_s0 a cZ cI S 0) hP1
  replace hD1 : va_D A (wM a cZ cI (s_X11_wander_1 S)) := cvD (wM_s0 a cZ cI S 0) hD1
  clear hP0 hD0 hS0
  refine lv_iconst (v := 0) hx hb dX11_wander_5 (by decide) ?_
  refine lv_istore_n (lv' := [(1, .int 0), (0, .ref (a 0))]) hx hb dX11_wander_6 rfl hl0 (by decide) rfl (fun ls1 hl1 => ?_)
  clear hl0
  refine lv_iconst (v := 0) hx hb dX11_wander_7 (by decide) ?_
  refine lv_istore_n (lv' := [(2, .int 0), (1, .int 0), (0, .ref (a 0))]) hx hb dX11_wander_8 rfl hl1 (by decide) rfl (fun ls2 hl2 => ?_)
  clear hl1
  have LOOP : ∀ (fu i : Nat), i ≤ (min (rc S) 32) → (min (rc S) 32) < i + fu → ∀ (H2 : Heap) (L2 : List Loc), va_P D vwCl (wM a cZ cI (s_X11_wander_1 S)) H2 → va_D A (wM a cZ cI (s_X11_wander_1 S)) → va_S A s.heap H2 L2 → ∀ ls3 : Array Slot, lv_has ls3 3 [(2, .int (nI i)), (1, .int (mw S i)), (0, .ref (a 0))] → W p l e (headSpec wsX11_wander rm_X11_wander).room s m ([.ref (a 0)] : List Value).toArray below meth c H2 L2 0 0 Q (F0 m 9 ls3 []) := by
    clear hP1 hD1 hS1 hl2
    intro fu
    induction fu with
    | zero => exact fun i h1 h2 => absurd h2 (by omega)
    | succ fu ih =>
      intro i hi hin H2 L2 hP2 hD2 hS2 ls3 hl3
      refine lv_iload_n hx hb dX11_wander_9 rfl (lv_at hl3 0 rfl) ?_
      refine lv_aload_n hx hb dX11_wander_10 rfl (lv_at hl3 2 rfl) ?_
      refine va_calli (va_runV (As := []) (rest := [.int (nI i)]) ⟨hx, hb, hml, hown, hts⟩ (k_X11_recent l D a cZ cI (s_X11_wander_1 S) H2.size) (cwV 0 hts gX11_wander_X11_recent rfl rfl rfl (by decide +kernel) ⟨Nat.le_of_ble_eq_true rfl, Nat.le_of_ble_eq_true rfl⟩) ⟨blW okN_T, va_recv hK hP2 (ci := 11) (q0 := 0) rfl rfl, preW hP2 hK hD2 okN_T hN⟩ rfl rfl hl3.1 rfl (lv_room (Nat.le_of_ble_eq_true rfl)) dX11_wander_11 ⟨Nat.zero_le _, Nat.zero_le _⟩) hS2 (aA_in hAc) (aA_free hAc hA hS2) (fun r3 u3 t3 H3 L3 ht3 hvm3 hw3 hB3 _ _ hS3 => ?_)
      obtain ⟨hP3, hD3⟩ := backW hB3 ht3 (aA_free hAc hA hS2)
      clear hB3 ht3 hvm3 t3
      obtain ⟨hu3, hr3⟩ := hw3
      subst u3; subst r3
      clear hP2 hD2 hS2
      refine lv_asi (y := (v_X11_wander_2 S i)) rfl ?_
      refine lv_icmp_ge (tgt := 35) hx hb dX11_wander_14 (by decide) (fun c1_14 => ?_) (fun c1_14 => ?_)
      · have hie : i = (min (rc S) 32) := wd_e hn hm hi c1_14
        subst hie
        refine lv_iload_n hx hb dX11_wander_35 rfl (lv_at hl3 1 rfl) ?_
        subst hQ; exact W.iret (v := (mw S (min (rc S) 32))) hx hb hr (fun t ht hW => ⟨⟨(mw S (min (rc S) 32)), (s_X11_wander_1 S), rfl, ⟨(show (s_X11_wander_1 S) = s_X11_wander S from rfl), (show (mw S (min (rc S) 32)) = r_X11_wander S from rfl)⟩, endW hP3 hK hD3 ht hW⟩, hS3.F ht⟩) hS3.2.2 dX11_wander_36
      · have hlt : i < min (rc S) 32 := wd_s hn hm hi c1_14
        refine lv_iload_n hx hb dX11_wander_17 rfl (lv_at hl3 1 rfl) ?_
        refine lv_aload_n hx hb dX11_wander_18 rfl (lv_at hl3 2 rfl) ?_
        refine va_get (D := D) (ci := 11) (v := .ref (a 2)) (C := RX11) (T := TX11) (N := 37) hx hb hts (fun _ h => List.mem_cons_of_mem _ (List.mem_append_right _ (h))) hown hK hP3 0 rfl rfl 30 (by decide) (hts (.fieldLink RX11 37 "PhaselockModel" "phases" "[I") (List.mem_cons_of_mem _ (List.mem_append_left _ (List.mem_of_getElem? (i := 1) rfl)))) (fun _ h9 => h9) rfl dX11_wander_19 ?_
        refine lv_iload_n hx hb dX11_wander_22 rfl (lv_at hl3 0 rfl) ?_
        refine va_iald (D := D) hx hb hK hP3 2 1 rfl rfl (vp_in_nI (by omega) (by decide)) dX11_wander_23 ?_
        refine lv_asi (y := (v_X11_wander_4 S i)) rfl ?_
        refine va_calli (va_runS (As := [.int (v_X11_wander_4 S i)]) (rest := [.int (mw S i)]) ⟨hx, hb, hml, hown, hts⟩ (k_X11_size l D a cZ cI (s_X11_wander_1 S) H3.size (v_X11_wander_4 S i)) (va_cwS 1 hts gX11_wander_X11_size rfl rfl rfl (by decide +kernel) ⟨Nat.le_of_ble_eq_true rfl, Nat.le_of_ble_eq_true rfl⟩) ⟨blW okN_T, preW hP3 hK hD3 okN_T hN⟩ rfl rfl hl3.1 rfl (lv_room (Nat.le_of_ble_eq_true rfl)) dX11_wander_24 ⟨Nat.zero_le _, Nat.zero_le _⟩) hS3 (aA_in hAc) (aA_free hAc hA hS3) (fun r4 u4 t4 H4 L4 ht4 hvm4 hw4 hB4 _ _ hS4 => ?_)
        obtain ⟨hP4, hD4⟩ := backW hB4 ht4 (aA_free hAc hA hS3)
        clear hB4 ht4 hvm4 t4
        obtain ⟨hu4, hr4⟩ := hw4
        subst u4; subst r4
        clear hP3 hD3 hS3
        refine lv_asi (y := (v_X11_wander_5 S i)) rfl ?_
        refine lv_iadd hx hb dX11_wander_27 ?_
        refine lv_asi (y := (v_X11_wander_6 S i)) rfl ?_
        refine lv_istore_n (lv' := [(1, .int (v_X11_wander_6 S i)), (2, .int (nI i)), (0, .ref (a 0))]) hx hb dX11_wander_28 rfl hl3 (by decide) rfl (fun ls4 hl4 => ?_)
        clear hl3
        refine lv_iinc (v := (v_X11_wander_7 S i)) (lv' := [(2, .int (v_X11_wander_7 S i)), (1, .int (v_X11_wander_6 S i)), (0, .ref (a 0))]) hx hb dX11_wander_29 hl4 (k := 1) rfl rfl (by decide) rfl (fun ls5 hl5 => ?_)
        clear hl4
        refine lv_goto (tgt := 9) hx hb dX11_wander_32 (by decide) ?_
        exact ih (i + 1) (by omega) (by omega) _ _ hP4 hD4 hS4 _ (by rw [show (nI (i + 1)) = (v_X11_wander_7 S i) from (nI_1 i).symm, show (mw S (i + 1)) = (v_X11_wander_6 S i) from rfl]; exact lv_sub (l' := [(2, .int (v_X11_wander_7 S i)), (1, .int (v_X11_wander_6 S i)), (0, .ref (a 0))]) hl5 [0, 1, 2] rfl)
  exact LOOP ((min (rc S) 32) + 1) 0 (Nat.zero_le _) (by omega) _ _ hP1 hD1 hS1 _ (lv_sub (l' := [(2, .int (nI 0)), (1, .int (mw S 0)), (0, .ref (a 0))]) hl2 [0, 1, 2] rfl)

def v_X11_bit_1 (S : St) (p0 : Int32) : Int32 := r_X11_recent S
def v_X11_bit_2 (S : St) (p0 : Int32) : Int32 := r_X11_in S p0 1 (v_X11_bit_1 S p0)
def v_X11_bit_3 (S : St) (p0 : Int32) : Int32 := if (v_X11_bit_2 S p0) = 0 then 1 else 0
def s_X11_bit_4 (S : St) (p0 : Int32) : St := s_X11_holds S (v_X11_bit_3 S p0)
def v_X11_bit_5 (S : St) (p0 : Int32) : Int32 := r_X11_holds S (v_X11_bit_3 S p0)
def v_X11_bit_6 (S : St) (p0 : Int32) : Int32 := p0 - 1
def v_X11_bit_7 (S : St) (p0 : Int32) : Int32 := ((s_X11_bit_4 S p0).1 25) >>> ((v_X11_bit_6 S p0) &&& 31)
def v_X11_bit_8 (S : St) (p0 : Int32) : Int32 := (v_X11_bit_7 S p0) &&& 1
def v_X11_bit_9 (S : St) (p0 : Int32) : Int32 := if (v_X11_bit_5 S p0) = 0 then 0 else (v_X11_bit_8 S p0)
def s_X11_bit (S : St) (p0 : Int32) : St := (s_X11_bit_4 S p0)
def r_X11_bit (S : St) (p0 : Int32) : Int32 := (v_X11_bit_9 S p0)
def rm_X11_bit : Room := { frames := 1, cells := 0, slots := 0, locals := 22 }
set_option maxRecDepth 100000 in
set_option maxHeartbeats 4000000 in
theorem k_X11_bit (l : Launch) (D : va_G) (a : Nat → Nat) (cZ cI : ClassId) (S : St) (sz : Nat) (p0 : Int32) : Met l yX11_bit wsX11_bit rm_X11_bit (va_Pc [.ref (a 0), .int p0] (pW D (tyZI cZ cI) (wM a cZ cI S) sz nT)) (va_Qi (fun (r : Int32) (u : St) => u = s_X11_bit S p0 ∧ r = r_X11_bit S p0) (fun u t => oW D (tyZI cZ cI) (wM a cZ cI u) (aA (adM a) sz) t) (aA (adM a) sz)) 0 0 (aA (adM a) sz) := by
  refine Met.ofW (cc := cX11_bit) (maxL := 2) (ret := (some .int)) (by decide +kernel) rfl ?_
  intro p e s m args below meth c s₁ B hml hv
  obtain ⟨rfl, hsz, hP0, hK, hD9, hN⟩ := hv
  have hx := B.exec
  have hb := B.bytes
  have hr := B.returns
  have hts := atoms_spec (ws := wsX11_bit) B.pre
  have hown : s.vm.findClass RX11 = some m.cls := findClass_of_methodNamed B.named
  have hlocks := B.notSynchronized
  subst hsz
  have hD0 := aA_self (sz := s.heap.size) (as := adM a) hD9 rfl
  generalize hAe : aA (adM a) s.heap.size = A at hD0 ⊢
  have hA : ∀ q : Nat, s.heap.size ≤ q → A q := fun q h => by rw [← hAe]; exact Or.inr h
  have hAc : ∀ q : Nat, q ∈ adM a → A q := fun q h => by rw [← hAe]; exact Or.inl h
  have hS0 : va_S A s.heap s.heap [] := va_S.rf
  have hl0 := lv_entry ([.ref (a 0), .int p0]) (n := 2) (Nat.le_of_ble_eq_true rfl)
  rw [lg_entry_eq]
  generalize (lg_sl ([.ref (a 0), .int p0]) ++ List.replicate (2 - (lg_sl ([.ref (a 0), .int p0])).length) Slot.unset).toArray = ls0 at hl0 ⊢
  have hl0 : lv_has ls0 2 [(0, .ref (a 0)), (1, .int p0)] := hl0
  generalize hQ : MQ below _ _ s _ _ _ = Q
  clear hD9 B
  refine lv_aload_n hx hb dX11_bit_0 rfl (lv_at hl0 0 rfl) ?_
  refine lv_iload_n hx hb dX11_bit_1 rfl (lv_at hl0 1 rfl) ?_
  refine lv_iconst (v := 1) hx hb dX11_bit_2 (by decide) ?_
  refine lv_aload_n hx hb dX11_bit_3 rfl (lv_at hl0 0 rfl) ?_
  refine va_calli (va_runV (As := []) (rest := [.int 1, .int p0, .ref (a 0)]) ⟨hx, hb, hml, hown, hts⟩ (k_X11_recent l D a cZ cI S s.heap.size) (cwV 0 hts gX11_bit_X11_recent rfl rfl rfl (by decide +kernel) ⟨Nat.le_of_ble_eq_true rfl, Nat.le_of_ble_eq_true rfl⟩) ⟨blW okN_T, va_recv hK hP0 (ci := 11) (q0 := 0) rfl rfl, preW hP0 hK hD0 okN_T hN⟩ rfl rfl hl0.1 rfl (lv_room (Nat.le_of_ble_eq_true rfl)) dX11_bit_4 ⟨Nat.zero_le _, Nat.zero_le _⟩) hS0 (aA_in hAc) (aA_free hAc hA hS0) (fun r1 u1 t1 H1 L1 ht1 hvm1 hw1 hB1 _ _ hS1 => ?_)
  obtain ⟨hP1, hD1⟩ := backW hB1 ht1 (aA_free hAc hA hS0)
  clear hB1 ht1 hvm1 t1
  obtain ⟨hu1, hr1⟩ := hw1
  subst u1; subst r1
  clear hP0 hD0 hS0
  refine lv_asi (y := (v_X11_bit_1 S p0)) rfl ?_
  refine va_calli (va_runS (As := [.int p0, .int 1, .int (v_X11_bit_1 S p0)]) (rest := [.ref (a 0)]) ⟨hx, hb, hml, hown, hts⟩ (k_X11_in l D a cZ cI S H1.size p0 1 (v_X11_bit_1 S p0)) (va_cwS 3 hts gX11_bit_X11_in rfl rfl rfl (by decide +kernel) ⟨Nat.le_of_ble_eq_true rfl, Nat.le_of_ble_eq_true rfl⟩) ⟨blW okN_T, preW hP1 hK hD1 okN_T hN⟩ rfl rfl hl0.1 rfl (lv_room (Nat.le_of_ble_eq_true rfl)) dX11_bit_7 ⟨Nat.zero_le _, Nat.zero_le _⟩) hS1 (aA_in hAc) (aA_free hAc hA hS1) (fun r2 u2 t2 H2 L2 ht2 hvm2 hw2 hB2 _ _ hS2 => ?_)
  obtain ⟨hP2, hD2⟩ := backW hB2 ht2 (aA_free hAc hA hS1)
  clear hB2 ht2 hvm2 t2
  obtain ⟨hu2, hr2⟩ := hw2
  subst u2; subst r2
  clear hP1 hD1 hS1
  refine lv_asi (y := (v_X11_bit_2 S p0)) rfl ?_
  have J1_10 : W p l e (headSpec wsX11_bit rm_X11_bit).room s m ([.ref (a 0), .int p0] : List Value).toArray below meth c H2 L2 0 0 Q (F0 m 18 ls0 [.int (v_X11_bit_3 S p0), .ref (a 0)]) := by
    refine va_calli (va_runV (As := [.int (v_X11_bit_3 S p0)]) (rest := []) ⟨hx, hb, hml, hown, hts⟩ (k_X11_holds l D a cZ cI S H2.size (v_X11_bit_3 S p0)) (cwV 1 hts gX11_bit_X11_holds rfl rfl rfl (by decide +kernel) ⟨Nat.le_of_ble_eq_true rfl, Nat.le_of_ble_eq_true rfl⟩) ⟨blW okN_T, va_recv hK hP2 (ci := 11) (q0 := 0) rfl rfl, preW hP2 hK hD2 okN_T hN⟩ rfl rfl hl0.1 rfl (lv_room (Nat.le_of_ble_eq_true rfl)) dX11_bit_18 ⟨Nat.zero_le _, Nat.zero_le _⟩) hS2 (aA_in hAc) (aA_free hAc hA hS2) (fun r3 u3 t3 H3 L3 ht3 hvm3 hw3 hB3 _ _ hS3 => ?_)
    obtain ⟨hP3, hD3⟩ := backW hB3 ht3 (aA_free hAc hA hS2)
    clear hB3 ht3 hvm3 t3
    obtain ⟨hu3, hr3⟩ := hw3
    subst u3; subst r3
    replace hP3 : va_P D vwCl (wM a cZ cI (s_X11_bit_4 S p0)) H3 := hP3
    replace hD3 : va_D A (wM a cZ cI (s_X11_bit_4 S p0)) := hD3
    clear hP2 hD2 hS2
    refine lv_asi (y := (v_X11_bit_5 S p0)) rfl ?_
    have J2_21 : W p l e (headSpec wsX11_bit rm_X11_bit).room s m ([.ref (a 0), .int p0] : List Value).toArray below meth c H3 L3 0 0 Q (F0 m 38 ls0 [.int (v_X11_bit_9 S p0)]) := by
      subst hQ; exact W.iret (v := (v_X11_bit_9 S p0)) hx hb hr (fun t ht hW => ⟨⟨(v_X11_bit_9 S p0), (s_X11_bit_4 S p0), rfl, ⟨(show (s_X11_bit_4 S p0) = s_X11_bit S p0 from rfl), (show (v_X11_bit_9 S p0) = r_X11_bit S p0 from rfl)⟩, endW hP3 hK hD3 ht hW⟩, hS3.F ht⟩) hS3.2.2 dX11_bit_38
    refine lv_if_eq (tgt := 37) hx hb dX11_bit_21 (by decide) (fun c2_21 => ?_) (fun c2_21 => ?_)
    · refine lv_iconst (v := 0) hx hb dX11_bit_37 (by decide) ?_
      refine lv_asi (y := (v_X11_bit_9 S p0)) (show (v_X11_bit_9 S p0) = 0 from (if_pos c2_21)).symm ?_
      exact J2_21
    · refine lv_aload_n hx hb dX11_bit_24 rfl (lv_at hl0 0 rfl) ?_
      refine va_get (D := D) (ci := 11) (v := .int ((s_X11_bit_4 S p0).1 25)) (C := RX11) (T := TX11) (N := 37) hx hb hts (fun _ h => List.mem_cons_of_mem _ (List.mem_append_right _ (h))) hown hK hP3 0 rfl rfl 25 (by decide) (hts (.fieldLink RX11 96 "PhaselockModel" "bits" "I") (List.mem_cons_of_mem _ (List.mem_append_left _ (List.mem_of_getElem? (i := 0) rfl)))) (fun _ h9 => h9) rfl dX11_bit_25 ?_
      refine lv_iload_n hx hb dX11_bit_28 rfl (lv_at hl0 1 rfl) ?_
      refine lv_iconst (v := 1) hx hb dX11_bit_29 (by decide) ?_
      refine lv_isub hx hb dX11_bit_30 ?_
      refine lv_asi (y := (v_X11_bit_6 S p0)) rfl ?_
      refine lv_ishr hx hb dX11_bit_31 ?_
      refine lv_asi (y := (v_X11_bit_7 S p0)) rfl ?_
      refine lv_iconst (v := 1) hx hb dX11_bit_32 (by decide) ?_
      refine lv_iand hx hb dX11_bit_33 ?_
      refine lv_asi (y := (v_X11_bit_8 S p0)) rfl ?_
      refine lv_goto (tgt := 38) hx hb dX11_bit_34 (by decide) ?_
      refine lv_asi (y := (v_X11_bit_9 S p0)) (show (v_X11_bit_9 S p0) = (v_X11_bit_8 S p0) from (if_neg c2_21)).symm ?_
      exact J2_21
  refine lv_if_eq (tgt := 17) hx hb dX11_bit_10 (by decide) (fun c1_10 => ?_) (fun c1_10 => ?_)
  · refine lv_iconst (v := 1) hx hb dX11_bit_17 (by decide) ?_
    refine lv_asi (y := (v_X11_bit_3 S p0)) (show (v_X11_bit_3 S p0) = 1 from (if_pos c1_10)).symm ?_
    exact J1_10
  · refine lv_iconst (v := 0) hx hb dX11_bit_13 (by decide) ?_
    refine lv_goto (tgt := 18) hx hb dX11_bit_14 (by decide) ?_
    refine lv_asi (y := (v_X11_bit_3 S p0)) (show (v_X11_bit_3 S p0) = 0 from (if_neg c1_10)).symm ?_
    exact J1_10

def v_X11_phase_1 (S : St) : Int32 := if (S.1 24) = 0 then 1 else 0
def s_X11_phase_2 (S : St) : St := s_X11_holds S (v_X11_phase_1 S)
def v_X11_phase_3 (S : St) : Int32 := r_X11_holds S (v_X11_phase_1 S)
def v_X11_phase_4 (S : St) : Int32 := ((s_X11_phase_2 S).1 24) - 1
def v_X11_phase_5 (S : St) : Int32 := (v_X11_phase_4 S) - (v_X11_phase_4 S) / 32 * 32
def v_X11_phase_6 (S : St) : Int32 := (s_X11_phase_2 S).2.2.2 ((v_X11_phase_5 S)).toNatClampNeg
def v_X11_phase_7 (S : St) : Int32 := if (v_X11_phase_3 S) = 0 then 0 else (v_X11_phase_6 S)
def s_X11_phase (S : St) : St := (s_X11_phase_2 S)
def r_X11_phase (S : St) : Int32 := (v_X11_phase_7 S)
def rm_X11_phase : Room := { frames := 1, cells := 0, slots := 0, locals := 21 }
theorem ph_in {n : Nat} {S : St} (hn : n < 2000000) (hm : okM n S) (c : ¬ S.1 24 = 0) : vp_in ((S.1 24 - 1) - (S.1 24 - 1) / 32 * 32) 32 := by
  have h0 : 0 < rc S := Nat.pos_of_ne_zero fun q => c (by rw [hm.2.2.1, q]; rfl)
  exact irem_in (n := rc S - 1) (m := 32) (by rw [hm.2.2.1]; exact pk_sub (b := 1) h0) rfl (by have := hm.2.2.2; omega) (by decide) (by decide)
theorem hl1 (S : St) : r_X11_holds S 1 = 0 := by
  show (if (1 : Int32) = 0 then (1 : Int32) else 0) = 0
  exact if_neg (by decide)
theorem hl0 (S : St) : r_X11_holds S 0 = 1 := by
  show (if (0 : Int32) = 0 then (1 : Int32) else 0) = 1
  exact if_pos rfl
theorem ph_c {S : St} (c : ¬ v_X11_phase_3 S = 0) : ¬ S.1 24 = 0 := by
  intro q
  apply c
  show r_X11_holds S (if S.1 24 = 0 then 1 else 0) = 0
  rw [if_pos q]
  exact hl1 S
set_option maxRecDepth 100000 in
set_option maxHeartbeats 4000000 in
theorem k_X11_phase (l : Launch) (D : va_G) (a : Nat → Nat) (cZ cI : ClassId) (S : St) (sz : Nat) (n : Nat) (hn : n < 2000000) (hm : okM n S) : Met l yX11_phase wsX11_phase rm_X11_phase (va_Pc [.ref (a 0)] (pW D (tyZI cZ cI) (wM a cZ cI S) sz nT)) (va_Qi (fun (r : Int32) (u : St) => u = s_X11_phase S ∧ r = r_X11_phase S) (fun u t => oW D (tyZI cZ cI) (wM a cZ cI u) (aA (adM a) sz) t) (aA (adM a) sz)) 0 0 (aA (adM a) sz) := by
  refine Met.ofW (cc := cX11_phase) (maxL := 1) (ret := (some .int)) (by decide +kernel) rfl ?_
  intro p e s m args below meth c s₁ B hml hv
  obtain ⟨rfl, hsz, hP0, hK, hD9, hN⟩ := hv
  have hx := B.exec
  have hb := B.bytes
  have hr := B.returns
  have hts := atoms_spec (ws := wsX11_phase) B.pre
  have hown : s.vm.findClass RX11 = some m.cls := findClass_of_methodNamed B.named
  have hlocks := B.notSynchronized
  subst hsz
  have hD0 := aA_self (sz := s.heap.size) (as := adM a) hD9 rfl
  generalize hAe : aA (adM a) s.heap.size = A at hD0 ⊢
  have hA : ∀ q : Nat, s.heap.size ≤ q → A q := fun q h => by rw [← hAe]; exact Or.inr h
  have hAc : ∀ q : Nat, q ∈ adM a → A q := fun q h => by rw [← hAe]; exact Or.inl h
  have hS0 : va_S A s.heap s.heap [] := va_S.rf
  have hl0 := lv_entry ([.ref (a 0)]) (n := 1) (Nat.le_of_ble_eq_true rfl)
  rw [lg_entry_eq]
  generalize (lg_sl ([.ref (a 0)]) ++ List.replicate (1 - (lg_sl ([.ref (a 0)])).length) Slot.unset).toArray = ls0 at hl0 ⊢
  have hl0 : lv_has ls0 1 [(0, .ref (a 0))] := hl0
  generalize hQ : MQ below _ _ s _ _ _ = Q
  clear hD9 B
  refine lv_aload_n hx hb dX11_phase_0 rfl (lv_at hl0 0 rfl) ?_
  refine lv_aload_n hx hb dX11_phase_1 rfl (lv_at hl0 0 rfl) ?_
  refine va_get (D := D) (ci := 11) (v := .int (S.1 24)) (C := RX11) (T := TX11) (N := 37) hx hb hts (fun _ h => List.mem_cons_of_mem _ (List.mem_append_right _ (h))) hown hK hP0 0 rfl rfl 24 (by decide) (hts (.fieldLink RX11 99 "PhaselockModel" "received" "I") (List.mem_cons_of_mem _ (List.mem_append_left _ (List.mem_of_getElem? (i := 0) rfl)))) (fun _ h9 => h9) rfl dX11_phase_2 ?_
  have J1_5 : W p l e (headSpec wsX11_phase rm_X11_phase).room s m ([.ref (a 0)] : List Value).toArray below meth c s.heap [] 0 0 Q (F0 m 13 ls0 [.int (v_X11_phase_1 S), .ref (a 0)]) := by
    refine va_calli (va_runV (As := [.int (v_X11_phase_1 S)]) (rest := []) ⟨hx, hb, hml, hown, hts⟩ (k_X11_holds l D a cZ cI S s.heap.size (v_X11_phase_1 S)) (cwV 1 hts gX11_phase_X11_holds rfl rfl rfl (by decide +kernel) ⟨Nat.le_of_ble_eq_true rfl, Nat.le_of_ble_eq_true rfl⟩) ⟨blW okN_T, va_recv hK hP0 (ci := 11) (q0 := 0) rfl rfl, preW hP0 hK hD0 okN_T hN⟩ rfl rfl hl0.1 rfl (lv_room (Nat.le_of_ble_eq_true rfl)) dX11_phase_13 ⟨Nat.zero_le _, Nat.zero_le _⟩) hS0 (aA_in hAc) (aA_free hAc hA hS0) (fun r1 u1 t1 H1 L1 ht1 hvm1 hw1 hB1 _ _ hS1 => ?_)
    obtain ⟨hP1, hD1⟩ := backW hB1 ht1 (aA_free hAc hA hS0)
    clear hB1 ht1 hvm1 t1
    obtain ⟨hu1, hr1⟩ := hw1
    subst u1; subst r1
    replace hP1 : va_P D vwCl (wM a cZ cI (s_X11_phase_2 S)) H1 := hP1
    replace hD1 : va_D A (wM a cZ cI (s_X11_phase_2 S)) := hD1
    clear hP0 hD0 hS0
    refine lv_asi (y := (v_X11_phase_3 S)) rfl ?_
    have J2_16 : W p l e (headSpec wsX11_phase rm_X11_phase).room s m ([.ref (a 0)] : List Value).toArray below meth c H1 L1 0 0 Q (F0 m 37 ls0 [.int (v_X11_phase_7 S)]) := by
      subst hQ; exact W.iret (v := (v_X11_phase_7 S)) hx hb hr (fun t ht hW => ⟨⟨(v_X11_phase_7 S), (s_X11_phase_2 S), rfl, ⟨(show (s_X11_phase_2 S) = s_X11_phase S from rfl), (show (v_X11_phase_7 S) = r_X11_phase S from rfl)⟩, endW hP1 hK hD1 ht hW⟩, hS1.F ht⟩) hS1.2.2 dX11_phase_37
    refine lv_if_eq (tgt := 36) hx hb dX11_phase_16 (by decide) (fun c2_16 => ?_) (fun c2_16 => ?_)
    · refine lv_iconst (v := 0) hx hb dX11_phase_36 (by decide) ?_
      refine lv_asi (y := (v_X11_phase_7 S)) (show (v_X11_phase_7 S) = 0 from (if_pos c2_16)).symm ?_
      exact J2_16
    · refine lv_aload_n hx hb dX11_phase_19 rfl (lv_at hl0 0 rfl) ?_
      refine va_get (D := D) (ci := 11) (v := .ref (a 2)) (C := RX11) (T := TX11) (N := 37) hx hb hts (fun _ h => List.mem_cons_of_mem _ (List.mem_append_right _ (h))) hown hK hP1 0 rfl rfl 30 (by decide) (hts (.fieldLink RX11 37 "PhaselockModel" "phases" "[I") (List.mem_cons_of_mem _ (List.mem_append_left _ (List.mem_of_getElem? (i := 1) rfl)))) (fun _ h9 => h9) rfl dX11_phase_20 ?_
      refine lv_aload_n hx hb dX11_phase_23 rfl (lv_at hl0 0 rfl) ?_
      refine va_get (D := D) (ci := 11) (v := .int ((s_X11_phase_2 S).1 24)) (C := RX11) (T := TX11) (N := 37) hx hb hts (fun _ h => List.mem_cons_of_mem _ (List.mem_append_right _ (h))) hown hK hP1 0 rfl rfl 24 (by decide) (hts (.fieldLink RX11 99 "PhaselockModel" "received" "I") (List.mem_cons_of_mem _ (List.mem_append_left _ (List.mem_of_getElem? (i := 0) rfl)))) (fun _ h9 => h9) rfl dX11_phase_24 ?_
      refine lv_iconst (v := 1) hx hb dX11_phase_27 (by decide) ?_
      refine lv_isub hx hb dX11_phase_28 ?_
      refine lv_asi (y := (v_X11_phase_4 S)) rfl ?_
      refine lv_bipush (v := 32) hx hb dX11_phase_29 (by decide) ?_
      refine lv_irem hx hb dX11_phase_31 (by decide) ?_
      refine lv_asi (y := (v_X11_phase_5 S)) rfl ?_
      refine va_iald (D := D) hx hb hK hP1 2 1 rfl rfl (ph_in hn hm (ph_c c2_16)) dX11_phase_32 ?_
      refine lv_asi (y := (v_X11_phase_6 S)) rfl ?_
      refine lv_goto (tgt := 37) hx hb dX11_phase_33 (by decide) ?_
      refine lv_asi (y := (v_X11_phase_7 S)) (show (v_X11_phase_7 S) = (v_X11_phase_6 S) from (if_neg c2_16)).symm ?_
      exact J2_16
  refine lv_if_ne (tgt := 12) hx hb dX11_phase_5 (by decide) (fun c1_5 => ?_) (fun c1_5 => ?_)
  · refine lv_iconst (v := 0) hx hb dX11_phase_12 (by decide) ?_
    refine lv_asi (y := (v_X11_phase_1 S)) (show (v_X11_phase_1 S) = 0 from (if_neg c1_5)).symm ?_
    exact J1_5
  · refine lv_iconst (v := 1) hx hb dX11_phase_8 (by decide) ?_
    refine lv_goto (tgt := 13) hx hb dX11_phase_9 (by decide) ?_
    refine lv_asi (y := (v_X11_phase_1 S)) (show (v_X11_phase_1 S) = 1 from (if_pos c1_5)).symm ?_
    exact J1_5
