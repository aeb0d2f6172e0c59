theorem apX {α : Type} {X Y : List α} {i : Nat} {q : α} (h : X[i]? = some q) : (X ++ Y)[i]? = some q := by
  rw [List.getElem?_append_left (List.getElem?_eq_some_iff.mp h).1]; exact h
theorem apY {α : Type} {X Y : List α} {i : Nat} {q : α} (h : Y[i]? = some q) : (X ++ Y)[X.length + i]? = some q := by
  rw [List.getElem?_append_right (Nat.le_add_right _ _), Nat.add_sub_cancel_left]; exact h
theorem subP {D : va_G} {X C Y : va_W} {H : Heap} (h : va_P D vwCl (X ++ (C ++ Y)) H) : va_P D vwCl C H := fun k q hk => h (X.length + k) q (apY (apX hk))
theorem subD {A : Nat → Prop} {X C Y : va_W} (h : va_D A (X ++ (C ++ Y))) : va_D A C := ⟨fun i j p q hi hj e => Nat.add_left_cancel (h.1 (X.length + i) (X.length + j) p q (apY (apX hi)) (apY (apX hj)) e), fun k q hk => h.2 (X.length + k) q (apY (apX hk))⟩
theorem reD {A : Nat → Prop} {ws ws2 : va_W} (h : va_D A ws) (e : ws2.map (fun q => q.1) = ws.map (fun q => q.1)) : va_D A ws2 := by
  have g : ∀ (i : Nat) (p : Nat × va_E), ws2[i]? = some p → ∃ p' : Nat × va_E, ws[i]? = some p' ∧ p'.1 = p.1 := fun i p hp => by
    have h1 : (ws2.map (fun q => q.1))[i]? = some p.1 := by rw [List.getElem?_map, hp]; rfl
    rw [e, List.getElem?_map] at h1
    cases hw : ws[i]? with
    | none => rw [hw] at h1; cases h1
    | some p' => rw [hw] at h1; exact ⟨p', rfl, Option.some.inj h1⟩
  refine ⟨fun i j p q hi hj hpq => ?_, fun k q hk => ?_⟩
  · obtain ⟨p', h1, e1⟩ := g i p hi
    obtain ⟨q', h2, e2⟩ := g j q hj
    exact h.1 i j p' q' h1 h2 (by rw [e1, e2]; exact hpq)
  · obtain ⟨q', h1, e1⟩ := g k q hk
    rw [← e1]
    exact h.2 k q' h1
/-- behind a call whose world is the middle of the list: what came back stands in its place -/
theorem joinW {D : va_G} {A0 : Nat → Prop} {X C C1 Y : va_W} {as : List Nat} {H H1 : Heap} (hP : va_P D vwCl (X ++ (C ++ Y)) H) (hD : va_D A0 (X ++ (C ++ Y))) (eC : C.map (fun q => q.1) = as) (eC1 : C1.map (fun q => q.1) = as) (hk : ∀ q : Nat, q < H.size → ¬ aA as H.size q → H1[q]? = H[q]?) (hP1 : va_P D vwCl C1 H1) : va_P D vwCl (X ++ (C1 ++ Y)) H1 ∧ va_D A0 (X ++ (C1 ++ Y)) := by
  have far : ∀ (i : Nat) (q : Nat × va_E), (X ++ (C ++ Y))[i]? = some q → (∀ j, j < C.length → i ≠ X.length + j) → H1[q.1]? = H[q.1]? := fun i q hi hne => by
    refine hk q.1 (hP i q hi).lt (fun h => ?_)
    rcases h with h | h
    · rw [← eC] at h
      obtain ⟨c, hc, e⟩ := List.mem_map.mp h
      obtain ⟨j, hj⟩ := List.getElem?_of_mem hc
      exact hne j (List.getElem?_eq_some_iff.mp hj).1 (hD.1 i (X.length + j) q c hi (apY (apX hj)) e.symm)
    · exact absurd (hP i q hi).lt (Nat.not_lt.mpr h)
  refine ⟨fun k q hq => ?_, reD hD (by simp only [List.map_append, eC, eC1])⟩
  rcases List.mem_append.mp (List.mem_of_getElem? hq) with h | h
  · obtain ⟨i, hi⟩ := List.getElem?_of_mem h
    have h1 : (X ++ (C ++ Y))[i]? = some q := apX hi
    exact (hP i q h1).kept (far i q h1 (fun j _ => by have := (List.getElem?_eq_some_iff.mp hi).1; omega))
  · rcases List.mem_append.mp h with h | h
    · obtain ⟨i, hi⟩ := List.getElem?_of_mem h
      exact hP1 i q hi
    · obtain ⟨i, hi⟩ := List.getElem?_of_mem h
      have h1 : (X ++ (C ++ Y))[X.length + (C.length + i)]? = some q := apY (apY hi)
      exact (hP _ q h1).kept (far _ q h1 (fun j hj => by omega))
abbrev tyZIJ (cZ cI cJ : ClassId) : List (ClassId × FieldType) := [(cZ, .boolean), (cI, .int), (cJ, .long)]
def wO (o : Nat) (cJ : ClassId) (fo : Nat → Int64) : va_W := [(o, .inl (cJ, 1, .inr (.inl fo)))]
def wPo (a : Nat → Nat) (cZ cI : ClassId) (o : Nat) (cJ : ClassId) (S : St) (fo : Nat → Int64) : va_W := wP a cZ cI S ++ wO o cJ fo
def adPo (a : Nat → Nat) (o : Nat) : List Nat := [a 0, a 1, a 2, a 3, a 4, a 5, a 6, a 7, a 8, a 9, a 10, a 11, a 12, o]
def rm_L_setOffset : Room := { frames := 7, cells := 1, slots := 6, locals := 103 }
set_option maxRecDepth 100000 in
set_option maxHeartbeats 4000000 in
theorem k_L_setOffset (l : Launch) (hfl : l.stackTraces = false) (D : va_G) (a : Nat → Nat) (cZ cI : ClassId) (o : Nat) (cJ : ClassId) (S : St) (fo : Nat → Int64) (sz : Nat) (p0 : Int32) : Met l yL_setOffset wsL_setOffset rm_L_setOffset (va_Pc [.ref (a 0), .int p0, .ref o] (pY D (tyZIJ cZ cI cJ) (wPo a cZ cI o cJ S fo) sz (adPo a o))) (va_Qi (fun (r : Int32) (u : St × (Nat → Int64)) => r = x_X10_setOffset S p0 ∧ (x_X10_setOffset S p0 = 1 → u.1 = S) ∧ (x_X10_setOffset S p0 = 0 → u.1 = s_X10_setOffset S p0 ∧ u.2 0 = Int32.toInt64 (r_X10_setOffset S p0))) (fun u t => oW D (tyZIJ cZ cI cJ) (wPo a cZ cI o cJ u.1 u.2) (aA (adPo a o) sz) t) (aA (adPo a o) sz)) 1 6 (aA (adPo a o) sz) := by
  refine va_MetW (cc := cL_setOffset) (maxL := 4) (ret := (some .int)) (by decide +kernel) rfl ?_
  intro p e s m args below meth c s₁ B hml hv
  obtain ⟨rfl, ⟨hsz, hP0, hK, hD9, hNY⟩, hZ⟩ := hv
  have hx := B.exec
  have hb := B.bytes
  have hr := B.returns
  have hts := atoms_spec (ws := wsL_setOffset) B.pre
  have hown : s.vm.findClass RL = some m.cls := findClass_of_methodNamed B.named
  have hlocks := B.notSynchronized
  have htab := vx_table (x := yL_setOffset) B (hts _ List.mem_cons_self)
  subst hsz
  have hD0 := aA_self (sz := s.heap.size) (as := adPo a o) hD9 rfl
  generalize hAe : aA (adPo a o) s.heap.size = A at hD0 hZ ⊢
  have hA : ∀ q : Nat, s.heap.size ≤ q → A q := fun q h => by rw [← hAe]; exact Or.inr h
  have hAc : ∀ q : Nat, q ∈ adP a → A q := fun q h => by rw [← hAe]; exact Or.inl (List.mem_append_left [o] h)
  have hS0 : va_S A s.heap s.heap [] := va_S.rf
  have hl0 := lv_entry ([.ref (a 0), .int p0, .ref o]) (n := 4) (Nat.le_of_ble_eq_true rfl)
  rw [lg_entry_eq]
  generalize (lg_sl ([.ref (a 0), .int p0, .ref o]) ++ List.replicate (4 - (lg_sl ([.ref (a 0), .int p0, .ref o])).length) Slot.unset).toArray = ls0 at hl0 ⊢
  have hl0 : lv_has ls0 4 [(0, .ref (a 0)), (1, .int p0), (2, .ref o)] := hl0
  clear hD9
  have hPw : va_P D vwCl ([] ++ (wP a cZ cI S ++ wO o cJ fo)) s.heap := hP0
  have hDw : va_D A ([] ++ (wP a cZ cI S ++ wO o cJ fo)) := hD0
  have hPc := subP hPw
  have hDc := subD hDw
  have hKc := hK.sub (tys' := tyZI cZ cI) [0, 1] rfl
  refine lv_aload_n hx hb dL_setOffset_0 rfl (lv_at hl0 2 rfl) ?_
  refine lv_iconst (v := 0) hx hb dL_setOffset_1 (by decide) ?_
  refine lv_aload_n hx hb dL_setOffset_2 rfl (lv_at hl0 0 rfl) ?_
  refine lv_iload_n hx hb dL_setOffset_3 rfl (lv_at hl0 1 rfl) ?_
  refine vx_calli (vx_runV (As := [.int p0]) (rest := [.int 0, .ref o]) ⟨hx, hb, hml, hown, hts⟩ (k_X10_setOffset l hfl D a cZ cI S s.heap.size p0) (cwV 1 hts gL_setOffset_X10_setOffset rfl rfl rfl (by decide +kernel) ⟨Nat.le_of_ble_eq_true rfl, Nat.le_of_ble_eq_true rfl⟩) ⟨blY, va_recv hKc hPc (ci := 10) (q0 := 0) rfl rfl, preY hPc hKc hDc hNY hZ hS0 (aA_free hAc hA hS0)⟩ rfl rfl hl0.1 rfl (lv_room (Nat.le_of_ble_eq_true rfl)) dL_setOffset_4 ⟨Nat.le_of_ble_eq_true rfl, Nat.le_of_ble_eq_true rfl⟩) hS0 (aA_in hAc) (aA_free hAc hA hS0) (aA_in hAc) (fun E ce q9 u t H1 L1 ht hvm hw hB hz hk1 hS1 hce hcv hcl => ?_) (fun r u t H1 L1 ht hvm hw hB hz hk1 hS1 => ?_)
  · obtain ⟨hu, hxx⟩ := hw
    obtain ⟨rfl, hB⟩ := hB
    subst u
    obtain ⟨hP1, -, -⟩ := hB
    rw [ht] at hP1
    obtain ⟨hP2, hD2⟩ := joinW (as := adP a) hPw hDw rfl rfl hk1 hP1
    refine vx_catch hown (name := "java/lang/IllegalArgumentException") [] ⟨0, 9, 12, 13⟩ [] htab (fun _ h => nomatch h) (by decide) (by decide) (hts (.classLink RL 13 "java/lang/IllegalArgumentException") (List.mem_cons_of_mem _ (List.mem_append_left _ (List.mem_append_left _ (List.mem_append_left _ (List.mem_of_getElem? (i := 0) rfl)))))) (va_Nw.use rfl hNY.2.1) hce hcv hcl ?_
    refine lv_astore_n (lv' := [(3, .ref q9), (0, .ref (a 0)), (1, .int p0), (2, .ref o)]) hx hb dL_setOffset_12 rfl hl0 (by decide) rfl (fun ls1 hl1 => ?_)
    refine lv_iconst (v := 1) hx hb dL_setOffset_13 (by decide) ?_
    exact W.iret (v := 1) hx hb hr (fun t ht hW => ⟨⟨1, (S, fo), rfl, ⟨hxx.symm, fun _ => rfl, fun h => absurd (hxx.symm.trans h) (by decide)⟩, endW hP2 hK hD2 ht hW⟩, hS1.F ht⟩) hS1.2.2 dL_setOffset_14
  · obtain ⟨hx0, hu, hrr⟩ := hw
    subst u; subst r
    obtain ⟨hP1, -, -⟩ := hB
    rw [ht] at hP1
    obtain ⟨hP2, hD2⟩ := joinW (as := adP a) hPw hDw rfl rfl hk1 hP1
    refine lv_i2l (v := Int32.toInt64 (r_X10_setOffset S p0)) hx hb dL_setOffset_7 rfl ?_
    replace hP2 : va_P D vwCl (wPo a cZ cI o cJ (s_X10_setOffset S p0) fo) H1 := hP2
    replace hD2 : va_D A (wPo a cZ cI o cJ (s_X10_setOffset S p0) fo) := hD2
    refine va_last (D := D) hx hb hK hP2 hD2 hS1 13 2 rfl rfl (vp_in_nI (n := 0) (by decide) (by decide)) dL_setOffset_8 (fun H2 L2 hP3 hD3 hS2 => ?_)
    have hP2 : va_P D vwCl (wPo a cZ cI o cJ (s_X10_setOffset S p0) (vp_updL fo (0 : Int32).toNatClampNeg (Int32.toInt64 (r_X10_setOffset S p0)))) H2 := hP3
    have hD2 : va_D A (wPo a cZ cI o cJ (s_X10_setOffset S p0) (vp_updL fo (0 : Int32).toNatClampNeg (Int32.toInt64 (r_X10_setOffset S p0)))) := hD3
    refine lv_goto (tgt := 15) hx hb dL_setOffset_9 (by decide) ?_
    refine lv_iconst (v := 0) hx hb dL_setOffset_15 (by decide) ?_
    exact W.iret (v := 0) hx hb hr (fun t ht hW => ⟨⟨0, (s_X10_setOffset S p0, vp_updL fo (0 : Int32).toNatClampNeg (Int32.toInt64 (r_X10_setOffset S p0))), rfl, ⟨hx0.symm, fun h => absurd (hx0.symm.trans h) (by decide), fun _ => ⟨rfl, rfl⟩⟩, endW hP2 hK hD2 ht hW⟩, hS2.F ht⟩) hS2.2.2 dL_setOffset_16
def rm_L_setJitter : Room := { frames := 7, cells := 1, slots := 6, locals := 104 }
set_option maxRecDepth 100000 in
set_option maxHeartbeats 4000000 in
theorem k_L_setJitter (l : Launch) (hfl : l.stackTraces = false) (D : va_G) (a : Nat → Nat) (cZ cI : ClassId) (S : St) (sz : Nat) (p0 : Int32) (p1 : Int32) : Met l yL_setJitter wsL_setJitter rm_L_setJitter (va_Pc [.ref (a 0), .int p0, .int p1] (pY D (tyZI cZ cI) (wP a cZ cI S) sz (adP a))) (va_Qi (fun (r : Int32) (u : St) => r = x_X10_setJitter S p0 p1 ∧ (x_X10_setJitter S p0 p1 = 1 → u = S) ∧ (x_X10_setJitter S p0 p1 = 0 → u = s_X10_setJitter S p0 p1)) (fun u t => oW D (tyZI cZ cI) (wP a cZ cI u) (aA (adP a) sz) t) (aA (adP a) sz)) 1 6 (aA (adP a) sz) := by
  refine va_MetW (cc := cL_setJitter) (maxL := 4) (ret := (some .int)) (by decide +kernel) rfl ?_
  intro p e s m args below meth c s₁ B hml hv
  obtain ⟨rfl, ⟨hsz, hP0, hK, hD9, hNY⟩, hZ⟩ := hv
  have hx := B.exec
  have hb := B.bytes
  have hr := B.returns
  have hts := atoms_spec (ws := wsL_setJitter) B.pre
  have hown : s.vm.findClass RL = some m.cls := findClass_of_methodNamed B.named
  have hlocks := B.notSynchronized
  have htab := vx_table (x := yL_setJitter) B (hts _ List.mem_cons_self)
  subst hsz
  have hD0 := aA_self (sz := s.heap.size) (as := adP a) hD9 rfl
  generalize hAe : aA (adP a) s.heap.size = A at hD0 hZ ⊢
  have hA : ∀ q : Nat, s.heap.size ≤ q → A q := fun q h => by rw [← hAe]; exact Or.inr h
  have hAc : ∀ q : Nat, q ∈ adP a → A q := fun q h => by rw [← hAe]; exact Or.inl h
  have hS0 : va_S A s.heap s.heap [] := va_S.rf
  have hl0 := lv_entry ([.ref (a 0), .int p0, .int p1]) (n := 4) (Nat.le_of_ble_eq_true rfl)
  rw [lg_entry_eq]
  generalize (lg_sl ([.ref (a 0), .int p0, .int p1]) ++ List.replicate (4 - (lg_sl ([.ref (a 0), .int p0, .int p1])).length) Slot.unset).toArray = ls0 at hl0 ⊢
  have hl0 : lv_has ls0 4 [(0, .ref (a 0)), (1, .int p0), (2, .int p1)] := hl0
  clear hD9
  have hPw : va_P D vwCl ([] ++ (wP a cZ cI S ++ [])) s.heap := by rw [List.append_nil]; exact hP0
  have hDw : va_D A ([] ++ (wP a cZ cI S ++ [])) := by rw [List.append_nil]; exact hD0
  have hPc := subP hPw
  have hDc := subD hDw
  have hKc := hK.sub (tys' := tyZI cZ cI) [0, 1] rfl
  refine lv_aload_n hx hb dL_setJitter_0 rfl (lv_at hl0 0 rfl) ?_
  refine lv_iload_n hx hb dL_setJitter_1 rfl (lv_at hl0 1 rfl) ?_
  refine lv_iload_n hx hb dL_setJitter_2 rfl (lv_at hl0 2 rfl) ?_
  refine vx_callv (vx_runV (As := [.int p0, .int p1]) (rest := []) ⟨hx, hb, hml, hown, hts⟩ (k_X10_setJitter l hfl D a cZ cI S s.heap.size p0 p1) (cwV 2 hts gL_setJitter_X10_setJitter rfl rfl rfl (by decide +kernel) ⟨Nat.le_of_ble_eq_true rfl, Nat.le_of_ble_eq_true rfl⟩) ⟨blY, va_recv hKc hPc (ci := 10) (q0 := 0) rfl rfl, preY hPc hKc hDc hNY hZ hS0 (aA_free hAc hA hS0)⟩ rfl rfl hl0.1 rfl (lv_room (Nat.le_of_ble_eq_true rfl)) dL_setJitter_3 ⟨Nat.le_of_ble_eq_true rfl, Nat.le_of_ble_eq_true rfl⟩) hS0 (aA_in hAc) (aA_free hAc hA hS0) (aA_in hAc) (fun E ce q9 u t H1 L1 ht hvm hw hB hz hk1 hS1 hce hcv hcl => ?_) (fun u t H1 L1 ht hvm hw hB hz hk1 hS1 => ?_)
  · obtain ⟨hu, hxx⟩ := hw
    obtain ⟨rfl, hB⟩ := hB
    subst u
    obtain ⟨hP1, -, -⟩ := hB
    rw [ht] at hP1
    obtain ⟨hP2, hD2⟩ := joinW (as := adP a) hPw hDw rfl rfl hk1 hP1
    rw [List.append_nil] at hP2 hD2
    refine vx_catch hown (name := "java/lang/IllegalArgumentException") [] ⟨0, 6, 9, 13⟩ [] htab (fun _ h => nomatch h) (by decide) (by decide) (hts (.classLink RL 13 "java/lang/IllegalArgumentException") (List.mem_cons_of_mem _ (List.mem_append_left _ (List.mem_append_left _ (List.mem_append_left _ (List.mem_of_getElem? (i := 0) rfl)))))) (va_Nw.use rfl hNY.2.1) hce hcv hcl ?_
    refine lv_astore_n (lv' := [(3, .ref q9), (0, .ref (a 0)), (1, .int p0), (2, .int p1)]) hx hb dL_setJitter_9 rfl hl0 (by decide) rfl (fun ls1 hl1 => ?_)
    refine lv_iconst (v := 1) hx hb dL_setJitter_10 (by decide) ?_
    exact W.iret (v := 1) hx hb hr (fun t ht hW => ⟨⟨1, S, rfl, ⟨hxx.symm, fun _ => rfl, fun h => absurd (hxx.symm.trans h) (by decide)⟩, endW hP2 hK hD2 ht hW⟩, hS1.F ht⟩) hS1.2.2 dL_setJitter_11
  · obtain ⟨hx0, hu⟩ := hw
    subst u
    obtain ⟨hP1, -, -⟩ := hB
    rw [ht] at hP1
    obtain ⟨hP2, hD2⟩ := joinW (as := adP a) hPw hDw rfl rfl hk1 hP1
    rw [List.append_nil] at hP2 hD2
    refine lv_goto (tgt := 12) hx hb dL_setJitter_6 (by decide) ?_
    refine lv_iconst (v := 0) hx hb dL_setJitter_12 (by decide) ?_
    exact W.iret (v := 0) hx hb hr (fun t ht hW => ⟨⟨0, (s_X10_setJitter S p0 p1), rfl, ⟨hx0.symm, fun h => absurd (hx0.symm.trans h) (by decide), fun _ => rfl⟩, endW hP2 hK hD2 ht hW⟩, hS1.F ht⟩) hS1.2.2 dL_setJitter_13
def rm_L_setDetector : Room := { frames := 7, cells := 1, slots := 6, locals := 104 }
set_option maxRecDepth 100000 in
set_option maxHeartbeats 4000000 in
theorem k_L_setDetector (l : Launch) (hfl : l.stackTraces = false) (D : va_G) (a : Nat → Nat) (cZ cI : ClassId) (o : Nat) (cJ : ClassId) (S : St) (fo : Nat → Int64) (sz : Nat) (p0 : Int32) : Met l yL_setDetector wsL_setDetector rm_L_setDetector (va_Pc [.ref (a 0), .int p0, .ref o] (pY D (tyZIJ cZ cI cJ) (wPo a cZ cI o cJ S fo) sz (adPo a o))) (va_Qi (fun (r : Int32) (u : St × (Nat → Int64)) => r = x_X10_setDetector S p0 ∧ (x_X10_setDetector S p0 = 1 → u.1 = S) ∧ (x_X10_setDetector S p0 = 0 → u.1 = s_X10_setDetector S p0 ∧ u.2 0 = Int32.toInt64 (r_X10_setDetector S p0))) (fun u t => oW D (tyZIJ cZ cI cJ) (wPo a cZ cI o cJ u.1 u.2) (aA (adPo a o) sz) t) (aA (adPo a o) sz)) 1 6 (aA (adPo a o) sz) := by
  refine va_MetW (cc := cL_setDetector) (maxL := 4) (ret := (some .int)) (by decide +kernel) rfl ?_
  intro p e s m args below meth c s₁ B hml hv
  obtain ⟨rfl, ⟨hsz, hP0, hK, hD9, hNY⟩, hZ⟩ := hv
  have hx := B.exec
  have hb := B.bytes
  have hr := B.returns
  have hts := atoms_spec (ws := wsL_setDetector) B.pre
  have hown : s.vm.findClass RL = some m.cls := findClass_of_methodNamed B.named
  have hlocks := B.notSynchronized
  have htab := vx_table (x := yL_setDetector) B (hts _ List.mem_cons_self)
  subst hsz
  have hD0 := aA_self (sz := s.heap.size) (as := adPo a o) hD9 rfl
  generalize hAe : aA (adPo a o) s.heap.size = A at hD0 hZ ⊢
  have hA : ∀ q : Nat, s.heap.size ≤ q → A q := fun q h => by rw [← hAe]; exact Or.inr h
  have hAc : ∀ q : Nat, q ∈ adP a → A q := fun q h => by rw [← hAe]; exact Or.inl (List.mem_append_left [o] h)
  have hS0 : va_S A s.heap s.heap [] := va_S.rf
  have hl0 := lv_entry ([.ref (a 0), .int p0, .ref o]) (n := 4) (Nat.le_of_ble_eq_true rfl)
  rw [lg_entry_eq]
  generalize (lg_sl ([.ref (a 0), .int p0, .ref o]) ++ List.replicate (4 - (lg_sl ([.ref (a 0), .int p0, .ref o])).length) Slot.unset).toArray = ls0 at hl0 ⊢
  have hl0 : lv_has ls0 4 [(0, .ref (a 0)), (1, .int p0), (2, .ref o)] := hl0
  clear hD9
  have hPw : va_P D vwCl ([] ++ (wP a cZ cI S ++ wO o cJ fo)) s.heap := hP0
  have hDw : va_D A ([] ++ (wP a cZ cI S ++ wO o cJ fo)) := hD0
  have hPc := subP hPw
  have hDc := subD hDw
  have hKc := hK.sub (tys' := tyZI cZ cI) [0, 1] rfl
  refine lv_aload_n hx hb dL_setDetector_0 rfl (lv_at hl0 2 rfl) ?_
  refine lv_iconst (v := 0) hx hb dL_setDetector_1 (by decide) ?_
  refine lv_aload_n hx hb dL_setDetector_2 rfl (lv_at hl0 0 rfl) ?_
  refine lv_iload_n hx hb dL_setDetector_3 rfl (lv_at hl0 1 rfl) ?_
  refine vx_calli (vx_runV (As := [.int p0]) (rest := [.int 0, .ref o]) ⟨hx, hb, hml, hown, hts⟩ (k_X10_setDetector l hfl D a cZ cI S s.heap.size p0) (cwV 1 hts gL_setDetector_X10_setDetector rfl rfl rfl (by decide +kernel) ⟨Nat.le_of_ble_eq_true rfl, Nat.le_of_ble_eq_true rfl⟩) ⟨blY, va_recv hKc hPc (ci := 10) (q0 := 0) rfl rfl, preY hPc hKc hDc hNY hZ hS0 (aA_free hAc hA hS0)⟩ rfl rfl hl0.1 rfl (lv_room (Nat.le_of_ble_eq_true rfl)) dL_setDetector_4 ⟨Nat.le_of_ble_eq_true rfl, Nat.le_of_ble_eq_true rfl⟩) hS0 (aA_in hAc) (aA_free hAc hA hS0) (aA_in hAc) (fun E ce q9 u t H1 L1 ht hvm hw hB hz hk1 hS1 hce hcv hcl => ?_) (fun r u t H1 L1 ht hvm hw hB hz hk1 hS1 => ?_)
  · obtain ⟨hu, hxx⟩ := hw
    obtain ⟨rfl, hB⟩ := hB
    subst u
    obtain ⟨hP1, -, -⟩ := hB
    rw [ht] at hP1
    obtain ⟨hP2, hD2⟩ := joinW (as := adP a) hPw hDw rfl rfl hk1 hP1
    refine vx_catch hown (name := "java/lang/IllegalArgumentException") [] ⟨0, 9, 12, 13⟩ [] htab (fun _ h => nomatch h) (by decide) (by decide) (hts (.classLink RL 13 "java/lang/IllegalArgumentException") (List.mem_cons_of_mem _ (List.mem_append_left _ (List.mem_append_left _ (List.mem_append_left _ (List.mem_of_getElem? (i := 0) rfl)))))) (va_Nw.use rfl hNY.2.1) hce hcv hcl ?_
    refine lv_astore_n (lv' := [(3, .ref q9), (0, .ref (a 0)), (1, .int p0), (2, .ref o)]) hx hb dL_setDetector_12 rfl hl0 (by decide) rfl (fun ls1 hl1 => ?_)
    refine lv_iconst (v := 1) hx hb dL_setDetector_13 (by decide) ?_
    exact W.iret (v := 1) hx hb hr (fun t ht hW => ⟨⟨1, (S, fo), rfl, ⟨hxx.symm, fun _ => rfl, fun h => absurd (hxx.symm.trans h) (by decide)⟩, endW hP2 hK hD2 ht hW⟩, hS1.F ht⟩) hS1.2.2 dL_setDetector_14
  · obtain ⟨hx0, hu, hrr⟩ := hw
    subst u; subst r
    obtain ⟨hP1, -, -⟩ := hB
    rw [ht] at hP1
    obtain ⟨hP2, hD2⟩ := joinW (as := adP a) hPw hDw rfl rfl hk1 hP1
    refine lv_i2l (v := Int32.toInt64 (r_X10_setDetector S p0)) hx hb dL_setDetector_7 rfl ?_
    replace hP2 : va_P D vwCl (wPo a cZ cI o cJ (s_X10_setDetector S p0) fo) H1 := hP2
    replace hD2 : va_D A (wPo a cZ cI o cJ (s_X10_setDetector S p0) fo) := hD2
    refine va_last (D := D) hx hb hK hP2 hD2 hS1 13 2 rfl rfl (vp_in_nI (n := 0) (by decide) (by decide)) dL_setDetector_8 (fun H2 L2 hP3 hD3 hS2 => ?_)
    have hP2 : va_P D vwCl (wPo a cZ cI o cJ (s_X10_setDetector S p0) (vp_updL fo (0 : Int32).toNatClampNeg (Int32.toInt64 (r_X10_setDetector S p0)))) H2 := hP3
    have hD2 : va_D A (wPo a cZ cI o cJ (s_X10_setDetector S p0) (vp_updL fo (0 : Int32).toNatClampNeg (Int32.toInt64 (r_X10_setDetector S p0)))) := hD3
    refine lv_goto (tgt := 15) hx hb dL_setDetector_9 (by decide) ?_
    refine lv_iconst (v := 0) hx hb dL_setDetector_15 (by decide) ?_
    exact W.iret (v := 0) hx hb hr (fun t ht hW => ⟨⟨0, (s_X10_setDetector S p0, vp_updL fo (0 : Int32).toNatClampNeg (Int32.toInt64 (r_X10_setDetector S p0))), rfl, ⟨hx0.symm, fun h => absurd (hx0.symm.trans h) (by decide), fun _ => ⟨rfl, rfl⟩⟩, endW hP2 hK hD2 ht hW⟩, hS2.F ht⟩) hS2.2.2 dL_setDetector_16
def rm_L_setGains : Room := { frames := 7, cells := 1, slots := 6, locals := 104 }
set_option maxRecDepth 100000 in
set_option maxHeartbeats 4000000 in
theorem k_L_setGains (l : Launch) (hfl : l.stackTraces = false) (D : va_G) (a : Nat → Nat) (cZ cI : ClassId) (S : St) (sz : Nat) (p0 : Int32) (p1 : Int32) : Met l yL_setGains wsL_setGains rm_L_setGains (va_Pc [.ref (a 0), .int p0, .int p1] (pY D (tyZI cZ cI) (wP a cZ cI S) sz (adP a))) (va_Qi (fun (r : Int32) (u : St) => r = x_X10_setGains S p0 p1 ∧ (x_X10_setGains S p0 p1 = 1 → u = S) ∧ (x_X10_setGains S p0 p1 = 0 → u = s_X10_setGains S p0 p1)) (fun u t => oW D (tyZI cZ cI) (wP a cZ cI u) (aA (adP a) sz) t) (aA (adP a) sz)) 1 6 (aA (adP a) sz) := by
  refine va_MetW (cc := cL_setGains) (maxL := 4) (ret := (some .int)) (by decide +kernel) rfl ?_
  intro p e s m args below meth c s₁ B hml hv
  obtain ⟨rfl, ⟨hsz, hP0, hK, hD9, hNY⟩, hZ⟩ := hv
  have hx := B.exec
  have hb := B.bytes
  have hr := B.returns
  have hts := atoms_spec (ws := wsL_setGains) B.pre
  have hown : s.vm.findClass RL = some m.cls := findClass_of_methodNamed B.named
  have hlocks := B.notSynchronized
  have htab := vx_table (x := yL_setGains) B (hts _ List.mem_cons_self)
  subst hsz
  have hD0 := aA_self (sz := s.heap.size) (as := adP a) hD9 rfl
  generalize hAe : aA (adP a) s.heap.size = A at hD0 hZ ⊢
  have hA : ∀ q : Nat, s.heap.size ≤ q → A q := fun q h => by rw [← hAe]; exact Or.inr h
  have hAc : ∀ q : Nat, q ∈ adP a → A q := fun q h => by rw [← hAe]; exact Or.inl h
  have hS0 : va_S A s.heap s.heap [] := va_S.rf
  have hl0 := lv_entry ([.ref (a 0), .int p0, .int p1]) (n := 4) (Nat.le_of_ble_eq_true rfl)
  rw [lg_entry_eq]
  generalize (lg_sl ([.ref (a 0), .int p0, .int p1]) ++ List.replicate (4 - (lg_sl ([.ref (a 0), .int p0, .int p1])).length) Slot.unset).toArray = ls0 at hl0 ⊢
  have hl0 : lv_has ls0 4 [(0, .ref (a 0)), (1, .int p0), (2, .int p1)] := hl0
  clear hD9
  have hPw : va_P D vwCl ([] ++ (wP a cZ cI S ++ [])) s.heap := by rw [List.append_nil]; exact hP0
  have hDw : va_D A ([] ++ (wP a cZ cI S ++ [])) := by rw [List.append_nil]; exact hD0
  have hPc := subP hPw
  have hDc := subD hDw
  have hKc := hK.sub (tys' := tyZI cZ cI) [0, 1] rfl
  refine lv_aload_n hx hb dL_setGains_0 rfl (lv_at hl0 0 rfl) ?_
  refine lv_iload_n hx hb dL_setGains_1 rfl (lv_at hl0 1 rfl) ?_
  refine lv_iload_n hx hb dL_setGains_2 rfl (lv_at hl0 2 rfl) ?_
  refine vx_callv (vx_runV (As := [.int p0, .int p1]) (rest := []) ⟨hx, hb, hml, hown, hts⟩ (k_X10_setGains l hfl D a cZ cI S s.heap.size p0 p1) (cwV 2 hts gL_setGains_X10_setGains rfl rfl rfl (by decide +kernel) ⟨Nat.le_of_ble_eq_true rfl, Nat.le_of_ble_eq_true rfl⟩) ⟨blY, va_recv hKc hPc (ci := 10) (q0 := 0) rfl rfl, preY hPc hKc hDc hNY hZ hS0 (aA_free hAc hA hS0)⟩ rfl rfl hl0.1 rfl (lv_room (Nat.le_of_ble_eq_true rfl)) dL_setGains_3 ⟨Nat.le_of_ble_eq_true rfl, Nat.le_of_ble_eq_true rfl⟩) hS0 (aA_in hAc) (aA_free hAc hA hS0) (aA_in hAc) (fun E ce q9 u t H1 L1 ht hvm hw hB hz hk1 hS1 hce hcv hcl => ?_) (fun u t H1 L1 ht hvm hw hB hz hk1 hS1 => ?_)
  · obtain ⟨hu, hxx⟩ := hw
    obtain ⟨rfl, hB⟩ := hB
    subst u
    obtain ⟨hP1, -, -⟩ := hB
    rw [ht] at hP1
    obtain ⟨hP2, hD2⟩ := joinW (as := adP a) hPw hDw rfl rfl hk1 hP1
    rw [List.append_nil] at hP2 hD2
    refine vx_catch hown (name := "java/lang/IllegalArgumentException") [] ⟨0, 6, 9, 13⟩ [] htab (fun _ h => nomatch h) (by decide) (by decide) (hts (.classLink RL 13 "java/lang/IllegalArgumentException") (List.mem_cons_of_mem _ (List.mem_append_left _ (List.mem_append_left _ (List.mem_append_left _ (List.mem_of_getElem? (i := 0) rfl)))))) (va_Nw.use rfl hNY.2.1) hce hcv hcl ?_
    refine lv_astore_n (lv' := [(3, .ref q9), (0, .ref (a 0)), (1, .int p0), (2, .int p1)]) hx hb dL_setGains_9 rfl hl0 (by decide) rfl (fun ls1 hl1 => ?_)
    refine lv_iconst (v := 1) hx hb dL_setGains_10 (by decide) ?_
    exact W.iret (v := 1) hx hb hr (fun t ht hW => ⟨⟨1, S, rfl, ⟨hxx.symm, fun _ => rfl, fun h => absurd (hxx.symm.trans h) (by decide)⟩, endW hP2 hK hD2 ht hW⟩, hS1.F ht⟩) hS1.2.2 dL_setGains_11
  · obtain ⟨hx0, hu⟩ := hw
    subst u
    obtain ⟨hP1, -, -⟩ := hB
    rw [ht] at hP1
    obtain ⟨hP2, hD2⟩ := joinW (as := adP a) hPw hDw rfl rfl hk1 hP1
    rw [List.append_nil] at hP2 hD2
    refine lv_goto (tgt := 12) hx hb dL_setGains_6 (by decide) ?_
    refine lv_iconst (v := 0) hx hb dL_setGains_12 (by decide) ?_
    exact W.iret (v := 0) hx hb hr (fun t ht hW => ⟨⟨0, (s_X10_setGains S p0 p1), rfl, ⟨hx0.symm, fun h => absurd (hx0.symm.trans h) (by decide), fun _ => rfl⟩, endW hP2 hK hD2 ht hW⟩, hS1.F ht⟩) hS1.2.2 dL_setGains_13
def rm_L_setPhase : Room := { frames := 7, cells := 1, slots := 6, locals := 104 }
set_option maxRecDepth 100000 in
set_option maxHeartbeats 4000000 in
theorem k_L_setPhase (l : Launch) (hfl : l.stackTraces = false) (D : va_G) (a : Nat → Nat) (cZ cI : ClassId) (o : Nat) (cJ : ClassId) (S : St) (fo : Nat → Int64) (sz : Nat) (p0 : Int32) : Met l yL_setPhase wsL_setPhase rm_L_setPhase (va_Pc [.ref (a 0), .int p0, .ref o] (pY D (tyZIJ cZ cI cJ) (wPo a cZ cI o cJ S fo) sz (adPo a o))) (va_Qi (fun (r : Int32) (u : St × (Nat → Int64)) => r = x_X10_setPhase S p0 ∧ (x_X10_setPhase S p0 = 1 → u.1 = S) ∧ (x_X10_setPhase S p0 = 0 → u.1 = s_X10_setPhase S p0 ∧ u.2 0 = Int32.toInt64 (r_X10_setPhase S p0))) (fun u t => oW D (tyZIJ cZ cI cJ) (wPo a cZ cI o cJ u.1 u.2) (aA (adPo a o) sz) t) (aA (adPo a o) sz)) 1 6 (aA (adPo a o) sz) := by
  refine va_MetW (cc := cL_setPhase) (maxL := 4) (ret := (some .int)) (by decide +kernel) rfl ?_
  intro p e s m args below meth c s₁ B hml hv
  obtain ⟨rfl, ⟨hsz, hP0, hK, hD9, hNY⟩, hZ⟩ := hv
  have hx := B.exec
  have hb := B.bytes
  have hr := B.returns
  have hts := atoms_spec (ws := wsL_setPhase) B.pre
  have hown : s.vm.findClass RL = some m.cls := findClass_of_methodNamed B.named
  have hlocks := B.notSynchronized
  have htab := vx_table (x := yL_setPhase) B (hts _ List.mem_cons_self)
  subst hsz
  have hD0 := aA_self (sz := s.heap.size) (as := adPo a o) hD9 rfl
  generalize hAe : aA (adPo a o) s.heap.size = A at hD0 hZ ⊢
  have hA : ∀ q : Nat, s.heap.size ≤ q → A q := fun q h => by rw [← hAe]; exact Or.inr h
  have hAc : ∀ q : Nat, q ∈ adP a → A q := fun q h => by rw [← hAe]; exact Or.inl (List.mem_append_left [o] h)
  have hS0 : va_S A s.heap s.heap [] := va_S.rf
  have hl0 := lv_entry ([.ref (a 0), .int p0, .ref o]) (n := 4) (Nat.le_of_ble_eq_true rfl)
  rw [lg_entry_eq]
  generalize (lg_sl ([.ref (a 0), .int p0, .ref o]) ++ List.replicate (4 - (lg_sl ([.ref (a 0), .int p0, .ref o])).length) Slot.unset).toArray = ls0 at hl0 ⊢
  have hl0 : lv_has ls0 4 [(0, .ref (a 0)), (1, .int p0), (2, .ref o)] := hl0
  clear hD9
  have hPw : va_P D vwCl ([] ++ (wP a cZ cI S ++ wO o cJ fo)) s.heap := hP0
  have hDw : va_D A ([] ++ (wP a cZ cI S ++ wO o cJ fo)) := hD0
  have hPc := subP hPw
  have hDc := subD hDw
  have hKc := hK.sub (tys' := tyZI cZ cI) [0, 1] rfl
  refine lv_aload_n hx hb dL_setPhase_0 rfl (lv_at hl0 2 rfl) ?_
  refine lv_iconst (v := 0) hx hb dL_setPhase_1 (by decide) ?_
  refine lv_aload_n hx hb dL_setPhase_2 rfl (lv_at hl0 0 rfl) ?_
  refine lv_iload_n hx hb dL_setPhase_3 rfl (lv_at hl0 1 rfl) ?_
  refine vx_calli (vx_runV (As := [.int p0]) (rest := [.int 0, .ref o]) ⟨hx, hb, hml, hown, hts⟩ (k_X10_setPhase l hfl D a cZ cI S s.heap.size p0) (cwV 1 hts gL_setPhase_X10_setPhase rfl rfl rfl (by decide +kernel) ⟨Nat.le_of_ble_eq_true rfl, Nat.le_of_ble_eq_true rfl⟩) ⟨blY, va_recv hKc hPc (ci := 10) (q0 := 0) rfl rfl, preY hPc hKc hDc hNY hZ hS0 (aA_free hAc hA hS0)⟩ rfl rfl hl0.1 rfl (lv_room (Nat.le_of_ble_eq_true rfl)) dL_setPhase_4 ⟨Nat.le_of_ble_eq_true rfl, Nat.le_of_ble_eq_true rfl⟩) hS0 (aA_in hAc) (aA_free hAc hA hS0) (aA_in hAc) (fun E ce q9 u t H1 L1 ht hvm hw hB hz hk1 hS1 hce hcv hcl => ?_) (fun r u t H1 L1 ht hvm hw hB hz hk1 hS1 => ?_)
  · obtain ⟨hu, hxx⟩ := hw
    obtain ⟨rfl, hB⟩ := hB
    subst u
    obtain ⟨hP1, -, -⟩ := hB
    rw [ht] at hP1
    obtain ⟨hP2, hD2⟩ := joinW (as := adP a) hPw hDw rfl rfl hk1 hP1
    refine vx_catch hown (name := "java/lang/IllegalArgumentException") [] ⟨0, 9, 12, 13⟩ [] htab (fun _ h => nomatch h) (by decide) (by decide) (hts (.classLink RL 13 "java/lang/IllegalArgumentException") (List.mem_cons_of_mem _ (List.mem_append_left _ (List.mem_append_left _ (List.mem_append_left _ (List.mem_of_getElem? (i := 0) rfl)))))) (va_Nw.use rfl hNY.2.1) hce hcv hcl ?_
    refine lv_astore_n (lv' := [(3, .ref q9), (0, .ref (a 0)), (1, .int p0), (2, .ref o)]) hx hb dL_setPhase_12 rfl hl0 (by decide) rfl (fun ls1 hl1 => ?_)
    refine lv_iconst (v := 1) hx hb dL_setPhase_13 (by decide) ?_
    exact W.iret (v := 1) hx hb hr (fun t ht hW => ⟨⟨1, (S, fo), rfl, ⟨hxx.symm, fun _ => rfl, fun h => absurd (hxx.symm.trans h) (by decide)⟩, endW hP2 hK hD2 ht hW⟩, hS1.F ht⟩) hS1.2.2 dL_setPhase_14
  · obtain ⟨hx0, hu, hrr⟩ := hw
    subst u; subst r
    obtain ⟨hP1, -, -⟩ := hB
    rw [ht] at hP1
    obtain ⟨hP2, hD2⟩ := joinW (as := adP a) hPw hDw rfl rfl hk1 hP1
    refine lv_i2l (v := Int32.toInt64 (r_X10_setPhase S p0)) hx hb dL_setPhase_7 rfl ?_
    replace hP2 : va_P D vwCl (wPo a cZ cI o cJ (s_X10_setPhase S p0) fo) H1 := hP2
    replace hD2 : va_D A (wPo a cZ cI o cJ (s_X10_setPhase S p0) fo) := hD2
    refine va_last (D := D) hx hb hK hP2 hD2 hS1 13 2 rfl rfl (vp_in_nI (n := 0) (by decide) (by decide)) dL_setPhase_8 (fun H2 L2 hP3 hD3 hS2 => ?_)
    have hP2 : va_P D vwCl (wPo a cZ cI o cJ (s_X10_setPhase S p0) (vp_updL fo (0 : Int32).toNatClampNeg (Int32.toInt64 (r_X10_setPhase S p0)))) H2 := hP3
    have hD2 : va_D A (wPo a cZ cI o cJ (s_X10_setPhase S p0) (vp_updL fo (0 : Int32).toNatClampNeg (Int32.toInt64 (r_X10_setPhase S p0)))) := hD3
    refine lv_goto (tgt := 15) hx hb dL_setPhase_9 (by decide) ?_
    refine lv_iconst (v := 0) hx hb dL_setPhase_15 (by decide) ?_
    exact W.iret (v := 0) hx hb hr (fun t ht hW => ⟨⟨0, (s_X10_setPhase S p0, vp_updL fo (0 : Int32).toNatClampNeg (Int32.toInt64 (r_X10_setPhase S p0))), rfl, ⟨hx0.symm, fun h => absurd (hx0.symm.trans h) (by decide), fun _ => ⟨rfl, rfl⟩⟩, endW hP2 hK hD2 ht hW⟩, hS2.F ht⟩) hS2.2.2 dL_setPhase_16
def rm_L_run : Room := { frames := 7, cells := 1, slots := 6, locals := 154 }
set_option maxRecDepth 100000 in
set_option maxHeartbeats 4000000 in
theorem k_L_run (l : Launch) (hfl : l.stackTraces = false) (D : va_G) (a : Nat → Nat) (cZ cI : ClassId) (o : Nat) (cJ : ClassId) (S : St) (fo : Nat → Int64) (sz : Nat) (p0 : Int32) (hj : okJ S) : Met l yL_run wsL_run rm_L_run (va_Pc [.ref (a 0), .int p0, .ref o] (pY D (tyZIJ cZ cI cJ) (wPo a cZ cI o cJ S fo) sz (adPo a o))) (va_Qi (fun (r : Int32) (u : St × (Nat → Int64)) => r = x_X10_run S p0 ∧ (x_X10_run S p0 = 1 → u.1 = S) ∧ (x_X10_run S p0 = 0 → u.1 = s_X10_run S p0 ∧ u.2 0 = Int32.toInt64 (r_X10_run S p0))) (fun u t => oW D (tyZIJ cZ cI cJ) (wPo a cZ cI o cJ u.1 u.2) (aA (adPo a o) sz) t) (aA (adPo a o) sz)) 1 6 (aA (adPo a o) sz) := by
  refine va_MetW (cc := cL_run) (maxL := 4) (ret := (some .int)) (by decide +kernel) rfl ?_
  intro p e s m args below meth c s₁ B hml hv
  obtain ⟨rfl, ⟨hsz, hP0, hK, hD9, hNY⟩, hZ⟩ := hv
  have hx := B.exec
  have hb := B.bytes
  have hr := B.returns
  have hts := atoms_spec (ws := wsL_run) B.pre
  have hown : s.vm.findClass RL = some m.cls := findClass_of_methodNamed B.named
  have hlocks := B.notSynchronized
  have htab := vx_table (x := yL_run) B (hts _ List.mem_cons_self)
  subst hsz
  have hD0 := aA_self (sz := s.heap.size) (as := adPo a o) hD9 rfl
  generalize hAe : aA (adPo a o) s.heap.size = A at hD0 hZ ⊢
  have hA : ∀ q : Nat, s.heap.size ≤ q → A q := fun q h => by rw [← hAe]; exact Or.inr h
  have hAc : ∀ q : Nat, q ∈ adP a → A q := fun q h => by rw [← hAe]; exact Or.inl (List.mem_append_left [o] h)
  have hS0 : va_S A s.heap s.heap [] := va_S.rf
  have hl0 := lv_entry ([.ref (a 0), .int p0, .ref o]) (n := 4) (Nat.le_of_ble_eq_true rfl)
  rw [lg_entry_eq]
  generalize (lg_sl ([.ref (a 0), .int p0, .ref o]) ++ List.replicate (4 - (lg_sl ([.ref (a 0), .int p0, .ref o])).length) Slot.unset).toArray = ls0 at hl0 ⊢
  have hl0 : lv_has ls0 4 [(0, .ref (a 0)), (1, .int p0), (2, .ref o)] := hl0
  clear hD9
  have hPw : va_P D vwCl ([] ++ (wP a cZ cI S ++ wO o cJ fo)) s.heap := hP0
  have hDw : va_D A ([] ++ (wP a cZ cI S ++ wO o cJ fo)) := hD0
  have hPc := subP hPw
  have hDc := subD hDw
  have hKc := hK.sub (tys' := tyZI cZ cI) [0, 1] rfl
  refine lv_aload_n hx hb dL_run_0 rfl (lv_at hl0 2 rfl) ?_
  refine lv_iconst (v := 0) hx hb dL_run_1 (by decide) ?_
  refine lv_aload_n hx hb dL_run_2 rfl (lv_at hl0 0 rfl) ?_
  refine lv_iload_n hx hb dL_run_3 rfl (lv_at hl0 1 rfl) ?_
  refine vx_calli (vx_runV (As := [.int p0]) (rest := [.int 0, .ref o]) ⟨hx, hb, hml, hown, hts⟩ (k_X10_run l hfl D a cZ cI S s.heap.size p0 hj) (cwV 1 hts gL_run_X10_run rfl rfl rfl (by decide +kernel) ⟨Nat.le_of_ble_eq_true rfl, Nat.le_of_ble_eq_true rfl⟩) ⟨blY, va_recv hKc hPc (ci := 10) (q0 := 0) rfl rfl, preY hPc hKc hDc hNY hZ hS0 (aA_free hAc hA hS0)⟩ rfl rfl hl0.1 rfl (lv_room (Nat.le_of_ble_eq_true rfl)) dL_run_4 ⟨Nat.le_of_ble_eq_true rfl, Nat.le_of_ble_eq_true rfl⟩) hS0 (aA_in hAc) (aA_free hAc hA hS0) (aA_in hAc) (fun E ce q9 u t H1 L1 ht hvm hw hB hz hk1 hS1 hce hcv hcl => ?_) (fun r u t H1 L1 ht hvm hw hB hz hk1 hS1 => ?_)
  · obtain ⟨hu, hxx⟩ := hw
    obtain ⟨rfl, hB⟩ := hB
    subst u
    obtain ⟨hP1, -, -⟩ := hB
    rw [ht] at hP1
    obtain ⟨hP2, hD2⟩ := joinW (as := adP a) hPw hDw rfl rfl hk1 hP1
    refine vx_catch hown (name := "java/lang/IllegalArgumentException") [] ⟨0, 9, 12, 13⟩ [] htab (fun _ h => nomatch h) (by decide) (by decide) (hts (.classLink RL 13 "java/lang/IllegalArgumentException") (List.mem_cons_of_mem _ (List.mem_append_left _ (List.mem_append_left _ (List.mem_append_left _ (List.mem_append_left _ (List.mem_append_left _ (List.mem_append_left _ (List.mem_append_left _ (List.mem_append_left _ (List.mem_append_left _ (List.mem_append_left _ (List.mem_append_left _ (List.mem_append_left _ (List.mem_append_left _ (List.mem_of_getElem? (i := 0) rfl)))))))))))))))) (va_Nw.use rfl hNY.2.1) hce hcv hcl ?_
    refine lv_astore_n (lv' := [(3, .ref q9), (0, .ref (a 0)), (1, .int p0), (2, .ref o)]) hx hb dL_run_12 rfl hl0 (by decide) rfl (fun ls1 hl1 => ?_)
    refine lv_iconst (v := 1) hx hb dL_run_13 (by decide) ?_
    exact W.iret (v := 1) hx hb hr (fun t ht hW => ⟨⟨1, (S, fo), rfl, ⟨hxx.symm, fun _ => rfl, fun h => absurd (hxx.symm.trans h) (by decide)⟩, endW hP2 hK hD2 ht hW⟩, hS1.F ht⟩) hS1.2.2 dL_run_14
  · obtain ⟨hx0, hu, hrr⟩ := hw
    subst u; subst r
    obtain ⟨hP1, -, -⟩ := hB
    rw [ht] at hP1
    obtain ⟨hP2, hD2⟩ := joinW (as := adP a) hPw hDw rfl rfl hk1 hP1
    refine lv_i2l (v := Int32.toInt64 (r_X10_run S p0)) hx hb dL_run_7 rfl ?_
    replace hP2 : va_P D vwCl (wPo a cZ cI o cJ (s_X10_run S p0) fo) H1 := hP2
    replace hD2 : va_D A (wPo a cZ cI o cJ (s_X10_run S p0) fo) := hD2
    refine va_last (D := D) hx hb hK hP2 hD2 hS1 13 2 rfl rfl (vp_in_nI (n := 0) (by decide) (by decide)) dL_run_8 (fun H2 L2 hP3 hD3 hS2 => ?_)
    have hP2 : va_P D vwCl (wPo a cZ cI o cJ (s_X10_run S p0) (vp_updL fo (0 : Int32).toNatClampNeg (Int32.toInt64 (r_X10_run S p0)))) H2 := hP3
    have hD2 : va_D A (wPo a cZ cI o cJ (s_X10_run S p0) (vp_updL fo (0 : Int32).toNatClampNeg (Int32.toInt64 (r_X10_run S p0)))) := hD3
    refine lv_goto (tgt := 15) hx hb dL_run_9 (by decide) ?_
    refine lv_iconst (v := 0) hx hb dL_run_15 (by decide) ?_
    exact W.iret (v := 0) hx hb hr (fun t ht hW => ⟨⟨0, (s_X10_run S p0, vp_updL fo (0 : Int32).toNatClampNeg (Int32.toInt64 (r_X10_run S p0))), rfl, ⟨hx0.symm, fun h => absurd (hx0.symm.trans h) (by decide), fun _ => ⟨rfl, rfl⟩⟩, endW hP2 hK hD2 ht hW⟩, hS2.F ht⟩) hS2.2.2 dL_run_16
def rm_L_bit : Room := { frames := 7, cells := 1, slots := 6, locals := 103 }
set_option maxRecDepth 100000 in
set_option maxHeartbeats 4000000 in
theorem k_L_bit (l : Launch) (hfl : l.stackTraces = false) (D : va_G) (a : Nat → Nat) (cZ cI : ClassId) (o : Nat) (cJ : ClassId) (S : St) (fo : Nat → Int64) (sz : Nat) (p0 : Int32) : Met l yL_bit wsL_bit rm_L_bit (va_Pc [.ref (a 0), .int p0, .ref o] (pY D (tyZIJ cZ cI cJ) (wPo a cZ cI o cJ S fo) sz (adPo a o))) (va_Qi (fun (r : Int32) (u : St × (Nat → Int64)) => r = x_X10_bit S p0 ∧ (x_X10_bit S p0 = 1 → u.1 = S) ∧ (x_X10_bit S p0 = 0 → u.1 = S ∧ u.2 0 = Int32.toInt64 (r_X10_bit S p0))) (fun u t => oW D (tyZIJ cZ cI cJ) (wPo a cZ cI o cJ u.1 u.2) (aA (adPo a o) sz) t) (aA (adPo a o) sz)) 1 6 (aA (adPo a o) sz) := by
  refine va_MetW (cc := cL_bit) (maxL := 4) (ret := (some .int)) (by decide +kernel) rfl ?_
  intro p e s m args below meth c s₁ B hml hv
  obtain ⟨rfl, ⟨hsz, hP0, hK, hD9, hNY⟩, hZ⟩ := hv
  have hx := B.exec
  have hb := B.bytes
  have hr := B.returns
  have hts := atoms_spec (ws := wsL_bit) B.pre
  have hown : s.vm.findClass RL = some m.cls := findClass_of_methodNamed B.named
  have hlocks := B.notSynchronized
  have htab := vx_table (x := yL_bit) B (hts _ List.mem_cons_self)
  subst hsz
  have hD0 := aA_self (sz := s.heap.size) (as := adPo a o) hD9 rfl
  generalize hAe : aA (adPo a o) s.heap.size = A at hD0 hZ ⊢
  have hA : ∀ q : Nat, s.heap.size ≤ q → A q := fun q h => by rw [← hAe]; exact Or.inr h
  have hAc : ∀ q : Nat, q ∈ adP a → A q := fun q h => by rw [← hAe]; exact Or.inl (List.mem_append_left [o] h)
  have hS0 : va_S A s.heap s.heap [] := va_S.rf
  have hl0 := lv_entry ([.ref (a 0), .int p0, .ref o]) (n := 4) (Nat.le_of_ble_eq_true rfl)
  rw [lg_entry_eq]
  generalize (lg_sl ([.ref (a 0), .int p0, .ref o]) ++ List.replicate (4 - (lg_sl ([.ref (a 0), .int p0, .ref o])).length) Slot.unset).toArray = ls0 at hl0 ⊢
  have hl0 : lv_has ls0 4 [(0, .ref (a 0)), (1, .int p0), (2, .ref o)] := hl0
  clear hD9
  have hPw : va_P D vwCl ([] ++ (wP a cZ cI S ++ wO o cJ fo)) s.heap := hP0
  have hDw : va_D A ([] ++ (wP a cZ cI S ++ wO o cJ fo)) := hD0
  have hPc := subP hPw
  have hDc := subD hDw
  have hKc := hK.sub (tys' := tyZI cZ cI) [0, 1] rfl
  refine lv_aload_n hx hb dL_bit_0 rfl (lv_at hl0 2 rfl) ?_
  refine lv_iconst (v := 0) hx hb dL_bit_1 (by decide) ?_
  refine lv_aload_n hx hb dL_bit_2 rfl (lv_at hl0 0 rfl) ?_
  refine lv_iload_n hx hb dL_bit_3 rfl (lv_at hl0 1 rfl) ?_
  refine vx_calli (vx_runV (As := [.int p0]) (rest := [.int 0, .ref o]) ⟨hx, hb, hml, hown, hts⟩ (k_X10_bit l hfl D a cZ cI S s.heap.size p0) (cwV 1 hts gL_bit_X10_bit rfl rfl rfl (by decide +kernel) ⟨Nat.le_of_ble_eq_true rfl, Nat.le_of_ble_eq_true rfl⟩) ⟨blY, va_recv hKc hPc (ci := 10) (q0 := 0) rfl rfl, preY hPc hKc hDc hNY hZ hS0 (aA_free hAc hA hS0)⟩ rfl rfl hl0.1 rfl (lv_room (Nat.le_of_ble_eq_true rfl)) dL_bit_4 ⟨Nat.le_of_ble_eq_true rfl, Nat.le_of_ble_eq_true rfl⟩) hS0 (aA_in hAc) (aA_free hAc hA hS0) (aA_in hAc) (fun E ce q9 u t H1 L1 ht hvm hw hB hz hk1 hS1 hce hcv hcl => ?_) (fun r u t H1 L1 ht hvm hw hB hz hk1 hS1 => ?_)
  · obtain ⟨hu, hxx⟩ := hw
    obtain ⟨rfl, hB⟩ := hB
    subst u
    obtain ⟨hP1, -, -⟩ := hB
    rw [ht] at hP1
    obtain ⟨hP2, hD2⟩ := joinW (as := adP a) hPw hDw rfl rfl hk1 hP1
    refine vx_catch hown (name := "java/lang/IndexOutOfBoundsException") [] ⟨0, 9, 12, 34⟩ [] htab (fun _ h => nomatch h) (by decide) (by decide) (hts (.classLink RL 34 "java/lang/IndexOutOfBoundsException") (List.mem_cons_of_mem _ (List.mem_append_left _ (List.mem_append_left _ (List.mem_append_left _ (List.mem_append_left _ (List.mem_of_getElem? (i := 0) rfl))))))) (va_Nw.use rfl hNY.2.2.1) hce hcv hcl ?_
    refine lv_astore_n (lv' := [(3, .ref q9), (0, .ref (a 0)), (1, .int p0), (2, .ref o)]) hx hb dL_bit_12 rfl hl0 (by decide) rfl (fun ls1 hl1 => ?_)
    refine lv_iconst (v := 1) hx hb dL_bit_13 (by decide) ?_
    exact W.iret (v := 1) hx hb hr (fun t ht hW => ⟨⟨1, (S, fo), rfl, ⟨hxx.symm, fun _ => rfl, fun h => absurd (hxx.symm.trans h) (by decide)⟩, endW hP2 hK hD2 ht hW⟩, hS1.F ht⟩) hS1.2.2 dL_bit_14
  · obtain ⟨hx0, hu, hrr⟩ := hw
    subst u; subst r
    obtain ⟨hP1, -, -⟩ := hB
    rw [ht] at hP1
    obtain ⟨hP2, hD2⟩ := joinW (as := adP a) hPw hDw rfl rfl hk1 hP1
    refine lv_i2l (v := Int32.toInt64 (r_X10_bit S p0)) hx hb dL_bit_7 rfl ?_
    replace hP2 : va_P D vwCl (wPo a cZ cI o cJ (S) fo) H1 := hP2
    replace hD2 : va_D A (wPo a cZ cI o cJ (S) fo) := hD2
    refine va_last (D := D) hx hb hK hP2 hD2 hS1 13 2 rfl rfl (vp_in_nI (n := 0) (by decide) (by decide)) dL_bit_8 (fun H2 L2 hP3 hD3 hS2 => ?_)
    have hP2 : va_P D vwCl (wPo a cZ cI o cJ (S) (vp_updL fo (0 : Int32).toNatClampNeg (Int32.toInt64 (r_X10_bit S p0)))) H2 := hP3
    have hD2 : va_D A (wPo a cZ cI o cJ (S) (vp_updL fo (0 : Int32).toNatClampNeg (Int32.toInt64 (r_X10_bit S p0)))) := hD3
    refine lv_goto (tgt := 15) hx hb dL_bit_9 (by decide) ?_
    refine lv_iconst (v := 0) hx hb dL_bit_15 (by decide) ?_
    exact W.iret (v := 0) hx hb hr (fun t ht hW => ⟨⟨0, (S, vp_updL fo (0 : Int32).toNatClampNeg (Int32.toInt64 (r_X10_bit S p0))), rfl, ⟨hx0.symm, fun h => absurd (hx0.symm.trans h) (by decide), fun _ => ⟨rfl, rfl⟩⟩, endW hP2 hK hD2 ht hW⟩, hS2.F ht⟩) hS2.2.2 dL_bit_16
def rm_L_phase : Room := { frames := 7, cells := 1, slots := 6, locals := 102 }
set_option maxRecDepth 100000 in
set_option maxHeartbeats 4000000 in
theorem k_L_phase (l : Launch) (hfl : l.stackTraces = false) (D : va_G) (a : Nat → Nat) (cZ cI : ClassId) (o : Nat) (cJ : ClassId) (S : St) (fo : Nat → Int64) (sz : Nat) : Met l yL_phase wsL_phase rm_L_phase (va_Pc [.ref (a 0), .ref o] (pY D (tyZIJ cZ cI cJ) (wPo a cZ cI o cJ S fo) sz (adPo a o))) (va_Qi (fun (r : Int32) (u : St × (Nat → Int64)) => r = x_X10_phase S ∧ (x_X10_phase S = 1 → u.1 = S) ∧ (x_X10_phase S = 0 → u.1 = S ∧ u.2 0 = Int32.toInt64 (r_X10_phase S))) (fun u t => oW D (tyZIJ cZ cI cJ) (wPo a cZ cI o cJ u.1 u.2) (aA (adPo a o) sz) t) (aA (adPo a o) sz)) 1 6 (aA (adPo a o) sz) := by
  refine va_MetW (cc := cL_phase) (maxL := 3) (ret := (some .int)) (by decide +kernel) rfl ?_
  intro p e s m args below meth c s₁ B hml hv
  obtain ⟨rfl, ⟨hsz, hP0, hK, hD9, hNY⟩, hZ⟩ := hv
  have hx := B.exec
  have hb := B.bytes
  have hr := B.returns
  have hts := atoms_spec (ws := wsL_phase) B.pre
  have hown : s.vm.findClass RL = some m.cls := findClass_of_methodNamed B.named
  have hlocks := B.notSynchronized
  have htab := vx_table (x := yL_phase) B (hts _ List.mem_cons_self)
  subst hsz
  have hD0 := aA_self (sz := s.heap.size) (as := adPo a o) hD9 rfl
  generalize hAe : aA (adPo a o) s.heap.size = A at hD0 hZ ⊢
  have hA : ∀ q : Nat, s.heap.size ≤ q → A q := fun q h => by rw [← hAe]; exact Or.inr h
  have hAc : ∀ q : Nat, q ∈ adP a → A q := fun q h => by rw [← hAe]; exact Or.inl (List.mem_append_left [o] h)
  have hS0 : va_S A s.heap s.heap [] := va_S.rf
  have hl0 := lv_entry ([.ref (a 0), .ref o]) (n := 3) (Nat.le_of_ble_eq_true rfl)
  rw [lg_entry_eq]
  generalize (lg_sl ([.ref (a 0), .ref o]) ++ List.replicate (3 - (lg_sl ([.ref (a 0), .ref o])).length) Slot.unset).toArray = ls0 at hl0 ⊢
  have hl0 : lv_has ls0 3 [(0, .ref (a 0)), (1, .ref o)] := hl0
  clear hD9
  have hPw : va_P D vwCl ([] ++ (wP a cZ cI S ++ wO o cJ fo)) s.heap := hP0
  have hDw : va_D A ([] ++ (wP a cZ cI S ++ wO o cJ fo)) := hD0
  have hPc := subP hPw
  have hDc := subD hDw
  have hKc := hK.sub (tys' := tyZI cZ cI) [0, 1] rfl
  refine lv_aload_n hx hb dL_phase_0 rfl (lv_at hl0 1 rfl) ?_
  refine lv_iconst (v := 0) hx hb dL_phase_1 (by decide) ?_
  refine lv_aload_n hx hb dL_phase_2 rfl (lv_at hl0 0 rfl) ?_
  refine vx_calli (vx_runV (As := []) (rest := [.int 0, .ref o]) ⟨hx, hb, hml, hown, hts⟩ (k_X10_phase l hfl D a cZ cI S s.heap.size) (cwV 0 hts gL_phase_X10_phase rfl rfl rfl (by decide +kernel) ⟨Nat.le_of_ble_eq_true rfl, Nat.le_of_ble_eq_true rfl⟩) ⟨blY, va_recv hKc hPc (ci := 10) (q0 := 0) rfl rfl, preY hPc hKc hDc hNY hZ hS0 (aA_free hAc hA hS0)⟩ rfl rfl hl0.1 rfl (lv_room (Nat.le_of_ble_eq_true rfl)) dL_phase_3 ⟨Nat.le_of_ble_eq_true rfl, Nat.le_of_ble_eq_true rfl⟩) hS0 (aA_in hAc) (aA_free hAc hA hS0) (aA_in hAc) (fun E ce q9 u t H1 L1 ht hvm hw hB hz hk1 hS1 hce hcv hcl => ?_) (fun r u t H1 L1 ht hvm hw hB hz hk1 hS1 => ?_)
  · obtain ⟨hu, hxx⟩ := hw
    obtain ⟨rfl, hB⟩ := hB
    subst u
    obtain ⟨hP1, -, -⟩ := hB
    rw [ht] at hP1
    obtain ⟨hP2, hD2⟩ := joinW (as := adP a) hPw hDw rfl rfl hk1 hP1
    refine vx_catch hown (name := "java/lang/IllegalStateException") [] ⟨0, 8, 11, 40⟩ [] htab (fun _ h => nomatch h) (by decide) (by decide) (hts (.classLink RL 40 "java/lang/IllegalStateException") (List.mem_cons_of_mem _ (List.mem_append_left _ (List.mem_append_left _ (List.mem_append_left _ (List.mem_of_getElem? (i := 0) rfl)))))) (va_Nw.use rfl hNY.2.2.2.1) hce hcv hcl ?_
    refine lv_astore_n (lv' := [(2, .ref q9), (0, .ref (a 0)), (1, .ref o)]) hx hb dL_phase_11 rfl hl0 (by decide) rfl (fun ls1 hl1 => ?_)
    refine lv_iconst (v := 1) hx hb dL_phase_12 (by decide) ?_
    exact W.iret (v := 1) hx hb hr (fun t ht hW => ⟨⟨1, (S, fo), rfl, ⟨hxx.symm, fun _ => rfl, fun h => absurd (hxx.symm.trans h) (by decide)⟩, endW hP2 hK hD2 ht hW⟩, hS1.F ht⟩) hS1.2.2 dL_phase_13
  · obtain ⟨hx0, hu, hrr⟩ := hw
    subst u; subst r
    obtain ⟨hP1, -, -⟩ := hB
    rw [ht] at hP1
    obtain ⟨hP2, hD2⟩ := joinW (as := adP a) hPw hDw rfl rfl hk1 hP1
    refine lv_i2l (v := Int32.toInt64 (r_X10_phase S)) hx hb dL_phase_6 rfl ?_
    replace hP2 : va_P D vwCl (wPo a cZ cI o cJ (S) fo) H1 := hP2
    replace hD2 : va_D A (wPo a cZ cI o cJ (S) fo) := hD2
    refine va_last (D := D) hx hb hK hP2 hD2 hS1 13 2 rfl rfl (vp_in_nI (n := 0) (by decide) (by decide)) dL_phase_7 (fun H2 L2 hP3 hD3 hS2 => ?_)
    have hP2 : va_P D vwCl (wPo a cZ cI o cJ (S) (vp_updL fo (0 : Int32).toNatClampNeg (Int32.toInt64 (r_X10_phase S)))) H2 := hP3
    have hD2 : va_D A (wPo a cZ cI o cJ (S) (vp_updL fo (0 : Int32).toNatClampNeg (Int32.toInt64 (r_X10_phase S)))) := hD3
    refine lv_goto (tgt := 14) hx hb dL_phase_8 (by decide) ?_
    refine lv_iconst (v := 0) hx hb dL_phase_14 (by decide) ?_
    exact W.iret (v := 0) hx hb hr (fun t ht hW => ⟨⟨0, (S, vp_updL fo (0 : Int32).toNatClampNeg (Int32.toInt64 (r_X10_phase S))), rfl, ⟨hx0.symm, fun h => absurd (hx0.symm.trans h) (by decide), fun _ => ⟨rfl, rfl⟩⟩, endW hP2 hK hD2 ht hW⟩, hS2.F ht⟩) hS2.2.2 dL_phase_15
def rm_L_cost : Room := { frames := 7, cells := 1, slots := 6, locals := 103 }
set_option maxRecDepth 100000 in
set_option maxHeartbeats 4000000 in
theorem k_L_cost (l : Launch) (hfl : l.stackTraces = false) (D : va_G) (a : Nat → Nat) (cZ cI : ClassId) (o : Nat) (cJ : ClassId) (S : St) (fo : Nat → Int64) (sz : Nat) (p0 : Int32) : Met l yL_cost wsL_cost rm_L_cost (va_Pc [.ref (a 0), .int p0, .ref o] (pY D (tyZIJ cZ cI cJ) (wPo a cZ cI o cJ S fo) sz (adPo a o))) (va_Qi (fun (r : Int32) (u : St × (Nat → Int64)) => r = x_X10_cost S p0 ∧ (x_X10_cost S p0 = 1 → u.1 = S) ∧ (x_X10_cost S p0 = 0 → u.1 = S ∧ u.2 0 = Int32.toInt64 (r_X10_cost S p0))) (fun u t => oW D (tyZIJ cZ cI cJ) (wPo a cZ cI o cJ u.1 u.2) (aA (adPo a o) sz) t) (aA (adPo a o) sz)) 1 6 (aA (adPo a o) sz) := by
  refine va_MetW (cc := cL_cost) (maxL := 4) (ret := (some .int)) (by decide +kernel) rfl ?_
  intro p e s m args below meth c s₁ B hml hv
  obtain ⟨rfl, ⟨hsz, hP0, hK, hD9, hNY⟩, hZ⟩ := hv
  have hx := B.exec
  have hb := B.bytes
  have hr := B.returns
  have hts := atoms_spec (ws := wsL_cost) B.pre
  have hown : s.vm.findClass RL = some m.cls := findClass_of_methodNamed B.named
  have hlocks := B.notSynchronized
  have htab := vx_table (x := yL_cost) B (hts _ List.mem_cons_self)
  subst hsz
  have hD0 := aA_self (sz := s.heap.size) (as := adPo a o) hD9 rfl
  generalize hAe : aA (adPo a o) s.heap.size = A at hD0 hZ ⊢
  have hA : ∀ q : Nat, s.heap.size ≤ q → A q := fun q h => by rw [← hAe]; exact Or.inr h
  have hAc : ∀ q : Nat, q ∈ adP a → A q := fun q h => by rw [← hAe]; exact Or.inl (List.mem_append_left [o] h)
  have hS0 : va_S A s.heap s.heap [] := va_S.rf
  have hl0 := lv_entry ([.ref (a 0), .int p0, .ref o]) (n := 4) (Nat.le_of_ble_eq_true rfl)
  rw [lg_entry_eq]
  generalize (lg_sl ([.ref (a 0), .int p0, .ref o]) ++ List.replicate (4 - (lg_sl ([.ref (a 0), .int p0, .ref o])).length) Slot.unset).toArray = ls0 at hl0 ⊢
  have hl0 : lv_has ls0 4 [(0, .ref (a 0)), (1, .int p0), (2, .ref o)] := hl0
  clear hD9
  have hPw : va_P D vwCl ([] ++ (wP a cZ cI S ++ wO o cJ fo)) s.heap := hP0
  have hDw : va_D A ([] ++ (wP a cZ cI S ++ wO o cJ fo)) := hD0
  have hPc := subP hPw
  have hDc := subD hDw
  have hKc := hK.sub (tys' := tyZI cZ cI) [0, 1] rfl
  refine lv_aload_n hx hb dL_cost_0 rfl (lv_at hl0 2 rfl) ?_
  refine lv_iconst (v := 0) hx hb dL_cost_1 (by decide) ?_
  refine lv_aload_n hx hb dL_cost_2 rfl (lv_at hl0 0 rfl) ?_
  refine lv_iload_n hx hb dL_cost_3 rfl (lv_at hl0 1 rfl) ?_
  refine vx_calli (vx_runV (As := [.int p0]) (rest := [.int 0, .ref o]) ⟨hx, hb, hml, hown, hts⟩ (k_X10_cost l hfl D a cZ cI S s.heap.size p0) (cwV 1 hts gL_cost_X10_cost rfl rfl rfl (by decide +kernel) ⟨Nat.le_of_ble_eq_true rfl, Nat.le_of_ble_eq_true rfl⟩) ⟨blY, va_recv hKc hPc (ci := 10) (q0 := 0) rfl rfl, preY hPc hKc hDc hNY hZ hS0 (aA_free hAc hA hS0)⟩ rfl rfl hl0.1 rfl (lv_room (Nat.le_of_ble_eq_true rfl)) dL_cost_4 ⟨Nat.le_of_ble_eq_true rfl, Nat.le_of_ble_eq_true rfl⟩) hS0 (aA_in hAc) (aA_free hAc hA hS0) (aA_in hAc) (fun E ce q9 u t H1 L1 ht hvm hw hB hz hk1 hS1 hce hcv hcl => ?_) (fun r u t H1 L1 ht hvm hw hB hz hk1 hS1 => ?_)
  · obtain ⟨hu, hxx⟩ := hw
    obtain ⟨rfl, hB⟩ := hB
    subst u
    obtain ⟨hP1, -, -⟩ := hB
    rw [ht] at hP1
    obtain ⟨hP2, hD2⟩ := joinW (as := adP a) hPw hDw rfl rfl hk1 hP1
    refine vx_catch hown (name := "java/lang/IllegalArgumentException") [] ⟨0, 9, 12, 13⟩ [] htab (fun _ h => nomatch h) (by decide) (by decide) (hts (.classLink RL 13 "java/lang/IllegalArgumentException") (List.mem_cons_of_mem _ (List.mem_append_left _ (List.mem_append_left _ (List.mem_append_left _ (List.mem_append_left _ (List.mem_of_getElem? (i := 0) rfl))))))) (va_Nw.use rfl hNY.2.1) hce hcv hcl ?_
    refine lv_astore_n (lv' := [(3, .ref q9), (0, .ref (a 0)), (1, .int p0), (2, .ref o)]) hx hb dL_cost_12 rfl hl0 (by decide) rfl (fun ls1 hl1 => ?_)
    refine lv_iconst (v := 1) hx hb dL_cost_13 (by decide) ?_
    exact W.iret (v := 1) hx hb hr (fun t ht hW => ⟨⟨1, (S, fo), rfl, ⟨hxx.symm, fun _ => rfl, fun h => absurd (hxx.symm.trans h) (by decide)⟩, endW hP2 hK hD2 ht hW⟩, hS1.F ht⟩) hS1.2.2 dL_cost_14
  · obtain ⟨hx0, hu, hrr⟩ := hw
    subst u; subst r
    obtain ⟨hP1, -, -⟩ := hB
    rw [ht] at hP1
    obtain ⟨hP2, hD2⟩ := joinW (as := adP a) hPw hDw rfl rfl hk1 hP1
    refine lv_i2l (v := Int32.toInt64 (r_X10_cost S p0)) hx hb dL_cost_7 rfl ?_
    replace hP2 : va_P D vwCl (wPo a cZ cI o cJ (S) fo) H1 := hP2
    replace hD2 : va_D A (wPo a cZ cI o cJ (S) fo) := hD2
    refine va_last (D := D) hx hb hK hP2 hD2 hS1 13 2 rfl rfl (vp_in_nI (n := 0) (by decide) (by decide)) dL_cost_8 (fun H2 L2 hP3 hD3 hS2 => ?_)
    have hP2 : va_P D vwCl (wPo a cZ cI o cJ (S) (vp_updL fo (0 : Int32).toNatClampNeg (Int32.toInt64 (r_X10_cost S p0)))) H2 := hP3
    have hD2 : va_D A (wPo a cZ cI o cJ (S) (vp_updL fo (0 : Int32).toNatClampNeg (Int32.toInt64 (r_X10_cost S p0)))) := hD3
    refine lv_goto (tgt := 15) hx hb dL_cost_9 (by decide) ?_
    refine lv_iconst (v := 0) hx hb dL_cost_15 (by decide) ?_
    exact W.iret (v := 0) hx hb hr (fun t ht hW => ⟨⟨0, (S, vp_updL fo (0 : Int32).toNatClampNeg (Int32.toInt64 (r_X10_cost S p0))), rfl, ⟨hx0.symm, fun h => absurd (hx0.symm.trans h) (by decide), fun _ => ⟨rfl, rfl⟩⟩, endW hP2 hK hD2 ht hW⟩, hS2.F ht⟩) hS2.2.2 dL_cost_16