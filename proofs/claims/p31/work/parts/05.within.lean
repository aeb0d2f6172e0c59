def v_X10_isWithin_1 (S : St) (p0 : Int32) (p1 : Int32) (p2 : Int32) : Int32 := if p0 < p1 then 0 else if p2 < p0 then 0 else 1
def r_X10_isWithin (S : St) (p0 : Int32) (p1 : Int32) (p2 : Int32) : Int32 := (v_X10_isWithin_1 S p0 p1 p2)
def rm_X10_isWithin : Room := { frames := 0, cells := 0, slots := 0, locals := 0 }
set_option maxRecDepth 100000 in
set_option maxHeartbeats 4000000 in
theorem k_X10_isWithin (l : Launch) (D : va_G) (a : Nat → Nat) (cZ cI : ClassId) (S : St) (sz : Nat) (p0 : Int32) (p1 : Int32) (p2 : Int32) : Met l yX10_isWithin wsX10_isWithin rm_X10_isWithin (va_Pc [.int p0, .int p1, .int p2] (pW D (tyZI cZ cI) (wP a cZ cI S) sz nP)) (va_Qi (fun (r : Int32) (u : St) => u = S ∧ r = r_X10_isWithin S p0 p1 p2) (fun u t => oW D (tyZI cZ cI) (wP a cZ cI u) (aA (adP a) sz) t) (aA (adP a) sz)) 0 0 (aA (adP a) sz) := by
  refine Met.ofW (cc := cX10_isWithin) (maxL := 3) (ret := (some .boolean)) (by decide +kernel) rfl ?_
  intro p e s m args below meth c s₁ B hml hv
  obtain ⟨rfl, hsz, hP0, hK, hD9, hN⟩ := hv
  have hx := B.exec
  have hb := B.bytes
  have hr := B.returns
  have hts := atoms_spec (ws := wsX10_isWithin) B.pre
  have hown : s.vm.findClass RX10 = some m.cls := findClass_of_methodNamed B.named
  have hlocks := B.notSynchronized
  subst hsz
  have hD0 := aA_self (sz := s.heap.size) (as := adP a) hD9 rfl
  generalize hAe : aA (adP a) s.heap.size = A at hD0 ⊢
  have hA : ∀ q : Nat, s.heap.size ≤ q → A q := fun q h => by rw [← hAe]; exact Or.inr h
  have hAc : ∀ q : Nat, q ∈ adP a → A q := fun q h => by rw [← hAe]; exact Or.inl h
  have hS0 : va_S A s.heap s.heap [] := va_S.rf
  have hl0 := lv_entry ([.int p0, .int p1, .int p2]) (n := 3) (Nat.le_of_ble_eq_true rfl)
  rw [lg_entry_eq]
  generalize (lg_sl ([.int p0, .int p1, .int p2]) ++ List.replicate (3 - (lg_sl ([.int p0, .int p1, .int p2])).length) Slot.unset).toArray = ls0 at hl0 ⊢
  have hl0 : lv_has ls0 3 [(0, .int p0), (1, .int p1), (2, .int p2)] := hl0
  generalize hQ : MQ below _ _ s _ _ _ = Q
  clear hD9 B
  refine lv_iload_n hx hb dX10_isWithin_0 rfl (lv_at hl0 0 rfl) ?_
  refine lv_iload_n hx hb dX10_isWithin_1 rfl (lv_at hl0 1 rfl) ?_
  have J1_2 : W p l e (headSpec wsX10_isWithin rm_X10_isWithin).room s m ([.int p0, .int p1, .int p2] : List Value).toArray below meth c s.heap [] 0 0 Q (F0 m 15 ls0 [.int (v_X10_isWithin_1 S p0 p1 p2)]) := by
    subst hQ; exact W.zret (v := (v_X10_isWithin_1 S p0 p1 p2)) hx hb hr (by unfold v_X10_isWithin_1; (repeat' split) <;> decide) (fun t ht hW => ⟨⟨(v_X10_isWithin_1 S p0 p1 p2), S, rfl, ⟨rfl, (show (v_X10_isWithin_1 S p0 p1 p2) = r_X10_isWithin S p0 p1 p2 from rfl)⟩, endW hP0 hK hD0 ht hW⟩, hS0.F ht⟩) hS0.2.2 dX10_isWithin_15
  refine lv_icmp_lt (tgt := 14) hx hb dX10_isWithin_2 (by decide) (fun c1_2 => ?_) (fun c1_2 => ?_)
  · refine lv_iconst (v := 0) hx hb dX10_isWithin_14 (by decide) ?_
    refine lv_asi (y := (v_X10_isWithin_1 S p0 p1 p2)) (show (v_X10_isWithin_1 S p0 p1 p2) = 0 from (if_pos c1_2)).symm ?_
    exact J1_2
  · refine lv_iload_n hx hb dX10_isWithin_5 rfl (lv_at hl0 0 rfl) ?_
    refine lv_iload_n hx hb dX10_isWithin_6 rfl (lv_at hl0 2 rfl) ?_
    refine lv_icmp_gt (tgt := 14) hx hb dX10_isWithin_7 (by decide) (fun c2_7 => ?_) (fun c2_7 => ?_)
    · refine lv_iconst (v := 0) hx hb dX10_isWithin_14 (by decide) ?_
      refine lv_asi (y := (v_X10_isWithin_1 S p0 p1 p2)) (show (v_X10_isWithin_1 S p0 p1 p2) = 0 from ((if_neg c1_2).trans (if_pos c2_7))).symm ?_
      exact J1_2
    · refine lv_iconst (v := 1) hx hb dX10_isWithin_10 (by decide) ?_
      refine lv_goto (tgt := 15) hx hb dX10_isWithin_11 (by decide) ?_
      refine lv_asi (y := (v_X10_isWithin_1 S p0 p1 p2)) (show (v_X10_isWithin_1 S p0 p1 p2) = 1 from ((if_neg c1_2).trans (if_neg c2_7))).symm ?_
      exact J1_2
theorem z_X10_isWithin (S : St) (p0 : Int32) (p1 : Int32) (p2 : Int32) : narrow .boolean (.int (r_X10_isWithin S p0 p1 p2)) = .int (r_X10_isWithin S p0 p1 p2) := by
  unfold r_X10_isWithin
  first
    | ((repeat' split) <;> decide)
    | (simp only [v_X10_isWithin_1]; (repeat' split) <;> decide)

