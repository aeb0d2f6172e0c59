def rm_L_bit : Room := { frames := 7, cells := 1, slots := 6, locals := 103 }
set_option maxRecDepth 100000 in
set_option maxHeartbeats 4000000 in
theorem k_L_bit (l : Launch) (hfl : l.stackTraces = false) (D : va_G) (a : Nat → Nat) (cZ cI : ClassId) (sz : Nat) (p0 : Int32) : Met l yL_bit wsL_bit rm_L_bit (va_Pc [.ref (a 0), .int p0] (pY D (tyZI cZ cI) (wP a cZ cI st0) sz (adP a))) (va_Qi (fun (r : Int32) (_ : Unit) => r = -99999) (fun _ t => oW D (tyZI cZ cI) (wP a cZ cI st0) (aA (adP a) sz) t ∧ sz < t.heap.size) (aA (adP a) sz)) 1 6 (aA (adP a) sz) := by
  refine va_MetW (cc := cL_bit) (maxL := 3) (ret := (some .int)) (by decide +kernel) rfl ?_
  intro p e s m args below meth c s₁ B hml hv
  obtain ⟨rfl, ⟨hsz, hP0, hK, hD9, hNY⟩, hZ⟩ := hv
  have hN := hNY.1
  have hx := B.exec
  have hb := B.bytes
  have hr := B.returns
  have hts := atoms_spec (ws := wsL_bit) B.pre
  have hown : s.vm.findClass RL = some m.cls := findClass_of_methodNamed B.named
  have hlocks := B.notSynchronized
  have htab := vx_table (x := yL_bit) B (hts _ List.mem_cons_self)
  subst hsz
  have hD := aA_self (sz := s.heap.size) (as := adP a) hD9 rfl
  generalize hAe : aA (adP a) s.heap.size = A at hD hZ ⊢
  have hA : ∀ q : Nat, s.heap.size ≤ q → A q := fun q h => by rw [← hAe]; exact Or.inr h
  have hAc : ∀ q : Nat, q ∈ adP a → A q := fun q h => by rw [← hAe]; exact Or.inl h
  have hS0 : va_S A s.heap s.heap [] := va_S.rf
  have hn0 : s.heap.size + 0 ≤ s.heap.size := Nat.le_refl _
  have hl0 := lv_entry ([.ref (a 0), .int p0]) (n := 3) (Nat.le_of_ble_eq_true rfl)
  rw [lg_entry_eq]
  generalize (lg_sl ([.ref (a 0), .int p0]) ++ List.replicate (3 - (lg_sl ([.ref (a 0), .int p0])).length) Slot.unset).toArray = ls0 at hl0 ⊢
  have hl0 : lv_has ls0 3 [(0, .ref (a 0)), (1, .int p0)] := hl0
  clear hD9
  refine lv_aload_n hx hb dL_bit_0 rfl (lv_at hl0 0 rfl) ?_
  refine lv_iload_n hx hb dL_bit_1 rfl (lv_at hl0 1 rfl) ?_
  refine vx_calli (vx_runV (As := [.int p0]) (rest := []) ⟨hx, hb, hml, hown, hts⟩ (k_X10_bit l hfl D a cZ cI st0 s.heap.size p0) (cwV 1 hts gL_bit_X10_bit rfl rfl rfl (by decide +kernel) ⟨Nat.le_of_ble_eq_true rfl, Nat.le_of_ble_eq_true rfl⟩) ⟨blY, va_recv hK hP0 (ci := 10) (q0 := 0) rfl rfl, preY hP0 hK hD hNY hZ hS0 (aA_free hAc hA hS0)⟩ rfl rfl hl0.1 rfl (lv_room (Nat.le_of_ble_eq_true rfl)) dL_bit_2 ⟨Nat.le_of_ble_eq_true rfl, Nat.le_of_ble_eq_true rfl⟩) hS0 (aA_in hAc) (aA_free hAc hA hS0) (aA_in hAc) (fun E ce q9 u t H1 L1 ht hvm hw hB hz hk1 hS1 hce hcv hcl => ?_) (fun r u t H1 L1 ht hvm hw hB hz hk1 hS1 => ?_)
  · obtain ⟨hu, hxx⟩ := hw
    obtain ⟨rfl, hB, hg⟩ := hB
    subst u
    have hP1 : va_P D vwCl (wP a cZ cI st0) H1 := by rw [← ht]; exact hB.1
    rw [ht] at hg
    refine vx_catch hown (name := "java/lang/IndexOutOfBoundsException") [] ⟨0, 5, 6, 36⟩ [] htab (fun _ h => nomatch h) (by decide) (by decide) (hts (.classLink RL 36 "java/lang/IndexOutOfBoundsException") (List.mem_cons_of_mem _ (List.mem_append_left _ (List.mem_append_left _ (List.mem_append_left _ (List.mem_append_left _ (List.mem_of_getElem? (i := 0) rfl))))))) (va_Nw.use rfl hNY.2.2.1) hce hcv hcl ?_
    refine lv_astore_n (lv' := [(2, .ref q9), (0, .ref (a 0)), (1, .int p0)]) hx hb dL_bit_6 rfl hl0 (by decide) rfl (fun ls1 hl1 => ?_)
    refine lv_ldc (v := (-99999)) hx hb hown (hts (.constant RL 25 (-99999)) (List.mem_cons_of_mem _ (List.mem_append_left _ (List.mem_append_left _ (List.mem_append_left _ (List.mem_append_left _ (List.mem_of_getElem? (i := 1) rfl))))))) dL_bit_7 ?_
    exact W.iret (v := (-99999)) hx hb hr (fun t ht hW => ⟨⟨(-99999), (), rfl, rfl, endW hP1 hK hD ht hW, by rw [ht]; exact hg⟩, hS1.F ht⟩) hS1.2.2 dL_bit_9
  · exact absurd (hw.1.symm.trans (xbit0 p0)) (by decide)

def rm_L_phase : Room := { frames := 7, cells := 1, slots := 6, locals := 102 }
set_option maxRecDepth 100000 in
set_option maxHeartbeats 4000000 in
theorem k_L_phase (l : Launch) (hfl : l.stackTraces = false) (D : va_G) (a : Nat → Nat) (cZ cI : ClassId) (sz : Nat) : Met l yL_phase wsL_phase rm_L_phase (va_Pc [.ref (a 0)] (pY D (tyZI cZ cI) (wP a cZ cI st0) sz (adP a))) (va_Qi (fun (r : Int32) (_ : Unit) => r = -99999) (fun _ t => oW D (tyZI cZ cI) (wP a cZ cI st0) (aA (adP a) sz) t ∧ sz < t.heap.size) (aA (adP a) sz)) 1 6 (aA (adP a) sz) := by
  refine va_MetW (cc := cL_phase) (maxL := 2) (ret := (some .int)) (by decide +kernel) rfl ?_
  intro p e s m args below meth c s₁ B hml hv
  obtain ⟨rfl, ⟨hsz, hP0, hK, hD9, hNY⟩, hZ⟩ := hv
  have hN := hNY.1
  have hx := B.exec
  have hb := B.bytes
  have hr := B.returns
  have hts := atoms_spec (ws := wsL_phase) B.pre
  have hown : s.vm.findClass RL = some m.cls := findClass_of_methodNamed B.named
  have hlocks := B.notSynchronized
  have htab := vx_table (x := yL_phase) B (hts _ List.mem_cons_self)
  subst hsz
  have hD := aA_self (sz := s.heap.size) (as := adP a) hD9 rfl
  generalize hAe : aA (adP a) s.heap.size = A at hD hZ ⊢
  have hA : ∀ q : Nat, s.heap.size ≤ q → A q := fun q h => by rw [← hAe]; exact Or.inr h
  have hAc : ∀ q : Nat, q ∈ adP a → A q := fun q h => by rw [← hAe]; exact Or.inl h
  have hS0 : va_S A s.heap s.heap [] := va_S.rf
  have hn0 : s.heap.size + 0 ≤ s.heap.size := Nat.le_refl _
  have hl0 := lv_entry ([.ref (a 0)]) (n := 2) (Nat.le_of_ble_eq_true rfl)
  rw [lg_entry_eq]
  generalize (lg_sl ([.ref (a 0)]) ++ List.replicate (2 - (lg_sl ([.ref (a 0)])).length) Slot.unset).toArray = ls0 at hl0 ⊢
  have hl0 : lv_has ls0 2 [(0, .ref (a 0))] := hl0
  clear hD9
  refine lv_aload_n hx hb dL_phase_0 rfl (lv_at hl0 0 rfl) ?_
  refine vx_calli (vx_runV (As := []) (rest := []) ⟨hx, hb, hml, hown, hts⟩ (k_X10_phase l hfl D a cZ cI st0 s.heap.size) (cwV 0 hts gL_phase_X10_phase rfl rfl rfl (by decide +kernel) ⟨Nat.le_of_ble_eq_true rfl, Nat.le_of_ble_eq_true rfl⟩) ⟨blY, va_recv hK hP0 (ci := 10) (q0 := 0) rfl rfl, preY hP0 hK hD hNY hZ hS0 (aA_free hAc hA hS0)⟩ rfl rfl hl0.1 rfl (lv_room (Nat.le_of_ble_eq_true rfl)) dL_phase_1 ⟨Nat.le_of_ble_eq_true rfl, Nat.le_of_ble_eq_true rfl⟩) hS0 (aA_in hAc) (aA_free hAc hA hS0) (aA_in hAc) (fun E ce q9 u t H1 L1 ht hvm hw hB hz hk1 hS1 hce hcv hcl => ?_) (fun r u t H1 L1 ht hvm hw hB hz hk1 hS1 => ?_)
  · obtain ⟨hu, hxx⟩ := hw
    obtain ⟨rfl, hB, hg⟩ := hB
    subst u
    have hP1 : va_P D vwCl (wP a cZ cI st0) H1 := by rw [← ht]; exact hB.1
    rw [ht] at hg
    refine vx_catch hown (name := "java/lang/IllegalStateException") [] ⟨0, 4, 5, 42⟩ [] htab (fun _ h => nomatch h) (by decide) (by decide) (hts (.classLink RL 42 "java/lang/IllegalStateException") (List.mem_cons_of_mem _ (List.mem_append_left _ (List.mem_append_left _ (List.mem_append_left _ (List.mem_of_getElem? (i := 0) rfl)))))) (va_Nw.use rfl hNY.2.2.2.1) hce hcv hcl ?_
    refine lv_astore_n (lv' := [(1, .ref q9), (0, .ref (a 0))]) hx hb dL_phase_5 rfl hl0 (by decide) rfl (fun ls1 hl1 => ?_)
    refine lv_ldc (v := (-99999)) hx hb hown (hts (.constant RL 25 (-99999)) (List.mem_cons_of_mem _ (List.mem_append_left _ (List.mem_append_left _ (List.mem_append_left _ (List.mem_of_getElem? (i := 1) rfl)))))) dL_phase_6 ?_
    exact W.iret (v := (-99999)) hx hb hr (fun t ht hW => ⟨⟨(-99999), (), rfl, rfl, endW hP1 hK hD ht hW, by rw [ht]; exact hg⟩, hS1.F ht⟩) hS1.2.2 dL_phase_8
  · exact absurd (hw.1.symm.trans xphase0) (by decide)

/-- nothing is asked of the heap but its size -/
theorem blS {av : List Value} {sz : Nat} : FrameBlind (va_Pc av (fun U => U.heap.size = sz)) := fun _ _ _ _ q => q
def rm_L_low : Room := { frames := 0, cells := 0, slots := 0, locals := 0 }
set_option maxRecDepth 100000 in
set_option maxHeartbeats 4000000 in
theorem k_L_low (l : Launch) (sz : Nat) (p0 p1 : Int32) (h0 : ¬ p1 = 0) : Met l yL_low wsL_low rm_L_low (va_Pc [.int p0, .int p1] (fun U => U.heap.size = sz)) (va_Qi (fun (r : Int32) (_ : Unit) => r = (p0 &&& 2147483647) - (p0 &&& 2147483647) / p1 * p1) (fun _ _ => True) (fun q => sz ≤ q)) 0 0 (fun q => sz ≤ q) := by
  refine Met.ofW (cc := cL_low) (maxL := 2) (ret := (some .int)) (by decide +kernel) rfl ?_
  intro p e s m args below meth c s₁ B hml hv
  obtain ⟨rfl, hsz⟩ := hv
  have hx := B.exec
  have hb := B.bytes
  have hr := B.returns
  have hts := atoms_spec (ws := wsL_low) B.pre
  have hown : s.vm.findClass RL = some m.cls := findClass_of_methodNamed B.named
  have hlocks := B.notSynchronized
  have hl0 := lv_entry ([.int p0, .int p1]) (n := 2) (Nat.le_of_ble_eq_true rfl)
  rw [lg_entry_eq]
  generalize (lg_sl ([.int p0, .int p1]) ++ List.replicate (2 - (lg_sl ([.int p0, .int p1])).length) Slot.unset).toArray = ls0 at hl0 ⊢
  have hl0 : lv_has ls0 2 [(0, .int p0), (1, .int p1)] := hl0
  generalize hQ : MQ below _ _ s _ _ _ = Q
  skip
  have hS0 : va_S (fun q => sz ≤ q) s.heap s.heap [] := va_S.rf
  refine lv_iload_n hx hb dL_low_0 rfl (lv_at hl0 0 rfl) ?_
  refine lv_ldc (v := 2147483647) hx hb hown (hts (.constant RL 7 (2147483647)) (List.mem_cons_of_mem _ (List.mem_of_getElem? (i := 0) rfl))) dL_low_1 ?_
  refine lv_iand hx hb dL_low_3 ?_
  refine lv_iload_n hx hb dL_low_4 rfl (lv_at hl0 1 rfl) ?_
  refine lv_irem hx hb dL_low_5 h0 ?_
  subst hQ; exact W.iret (v := (p0 &&& 2147483647) - (p0 &&& 2147483647) / p1 * p1) hx hb hr (fun t ht hW => ⟨⟨_, (), rfl, rfl, trivial⟩, hS0.F ht⟩) hS0.2.2 dL_low_6

def pX9 (b L : Nat) (xs : Nat → Int32) (sz : Nat) (U : State) : Prop := U.heap.size = sz ∧ va_X b L xs U U.heap ∧ b < U.heap.size
theorem blX9 {av : List Value} {b L : Nat} {xs : Nat → Int32} {sz : Nat} : FrameBlind (va_Pc av (pX9 b L xs sz)) := fun a U g mk q => by
  obtain ⟨q0, q1, q2, q3⟩ := q
  exact ⟨q0, q1, va_X.moved (u := U) (U := U.calling g mk a) (Vm.Alike.refl U.vm) q2, q3⟩
def rm_L_cell : Room := { frames := 0, cells := 0, slots := 0, locals := 0 }
set_option maxRecDepth 100000 in
set_option maxHeartbeats 4000000 in
theorem k_L_cell (l : Launch) (b L : Nat) (xs : Nat → Int32) (sz k : Nat) (hk : k < L) (hL : L ≤ 260) : Met l yL_cell wsL_cell rm_L_cell (va_Pc [.ref b, .int (nI k)] (pX9 b L xs sz)) (va_Qi (fun (r : Int32) (_ : Unit) => r = xs k) (fun _ _ => True) (fun q => sz ≤ q)) 0 0 (fun q => sz ≤ q) := by
  refine Met.ofW (cc := cL_cell) (maxL := 2) (ret := (some .int)) (by decide +kernel) rfl ?_
  intro p e s m args below meth c s₁ B hml hv
  obtain ⟨rfl, hsz⟩ := hv
  have hx := B.exec
  have hb := B.bytes
  have hr := B.returns
  have hts := atoms_spec (ws := wsL_cell) B.pre
  have hown : s.vm.findClass RL = some m.cls := findClass_of_methodNamed B.named
  have hlocks := B.notSynchronized
  have hl0 := lv_entry ([.ref b, .int (nI k)]) (n := 2) (Nat.le_of_ble_eq_true rfl)
  rw [lg_entry_eq]
  generalize (lg_sl ([.ref b, .int (nI k)]) ++ List.replicate (2 - (lg_sl ([.ref b, .int (nI k)])).length) Slot.unset).toArray = ls0 at hl0 ⊢
  have hl0 : lv_has ls0 2 [(0, .ref b), (1, .int (nI k))] := hl0
  generalize hQ : MQ below _ _ s _ _ _ = Q
  skip
  obtain ⟨hsz, hX, hbl⟩ := hsz
  have hS0 : va_S (fun q => sz ≤ q) s.heap s.heap [] := va_S.rf
  have hbA : ¬ sz ≤ b := by rw [← hsz]; exact Nat.not_le.mpr hbl
  refine lv_iload_n hx hb dL_cell_0 rfl (lv_at hl0 1 rfl) ?_
  refine lv_aload_n hx hb dL_cell_1 rfl (lv_at hl0 0 rfl) ?_
  refine va_slen (A := fun q => sz ≤ q) hx hb hX hbl hbA hS0 dL_cell_2 ?_
  have hlt : ¬ Int32.ofNat L ≤ nI k := fun q => by
    have := (nI_leI (a := L) (b := k) (by omega) (by omega)).mp q
    omega
  refine lv_icmp_ge (tgt := 12) hx hb dL_cell_3 (by decide) (fun c1 => absurd c1 hlt) (fun c1 => ?_)
  refine lv_aload_n hx hb dL_cell_6 rfl (lv_at hl0 0 rfl) ?_
  refine lv_iload_n hx hb dL_cell_7 rfl (lv_at hl0 1 rfl) ?_
  refine va_sld (A := fun q => sz ≤ q) hx hb hX hbl hbA hS0 (vp_in_nI hk (by omega)) dL_cell_8 ?_
  refine lv_goto (tgt := 27) hx hb dL_cell_9 (by decide) ?_
  refine lv_asi (y := xs k) (by rw [nI_clamp (by omega)]) ?_
  subst hQ; exact W.iret (v := xs k) hx hb hr (fun t ht hW => ⟨⟨_, (), rfl, rfl, trivial⟩, hS0.F ht⟩) hS0.2.2 dL_cell_27
