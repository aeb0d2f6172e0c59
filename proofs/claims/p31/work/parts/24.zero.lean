/-! what the class answers while it is as it was made (st0) -/
theorem ev_ticks : r_X10_ticks st0 = 0 := by decide +kernel
theorem ev_sent : r_X10_sent st0 = 0 := by decide +kernel
theorem ev_line : r_X10_line st0 = 1 := by decide +kernel
theorem ev_level : r_X10_level st0 = 8 := by decide +kernel
theorem ev_sender : r_X10_sender st0 = 0 := by decide +kernel
theorem ev_receiver : r_X10_receiver st0 = 0 := by decide +kernel
theorem ev_error : r_X10_error st0 = 0 := by decide +kernel
theorem ev_integral : r_X10_integral st0 = 0 := by decide +kernel
theorem ev_control : r_X10_control st0 = 0 := by decide +kernel
theorem ev_received : r_X10_received st0 = 0 := by decide +kernel
theorem ev_repeated : r_X10_repeated st0 = 0 := by decide +kernel
theorem ev_skipped : r_X10_skipped st0 = 0 := by decide +kernel
theorem ev_isLocked : r_X10_isLocked st0 = 0 := by decide +kernel
theorem ev_wander : r_X10_wander st0 = 0 := by decide +kernel
theorem ev_alignment : r_X10_alignment st0 = 0 := by decide +kernel
theorem ev_frames : r_X10_frames st0 = 0 := by decide +kernel
theorem ev_losses : r_X10_losses st0 = 0 := by decide +kernel
theorem scost0 (p : Int32) : ∀ i, scost st0 p i = 0
  | 0 => rfl
  | i + 1 => (if_pos rfl).trans (scost0 p i)
theorem sum0 (p : Int32) : r_X2_sumCosts st0 p = 0 := scost0 p 256
theorem cost0 (p : Int32) : r_X10_cost st0 p = 0 := by
  unfold r_X10_cost
  split
  · rfl
  · exact sum0 p
theorem lcst0 : ∀ i, lcst st0 i = 0
  | 0 => sum0 0
  | i + 1 => by
    show (if lcst st0 i ≤ r_X2_sumCosts st0 (nI (i + 1)) then lcst st0 i else r_X2_sumCosts st0 (nI (i + 1))) = 0
    rw [lcst0 i, sum0]
    exact ite_self 0
theorem bst0 : ∀ i, bst st0 i = 0
  | 0 => rfl
  | i + 1 => by
    show (if lcst st0 i ≤ r_X2_sumCosts st0 (nI (i + 1)) then bst st0 i else nI (i + 1)) = 0
    rw [lcst0 i, sum0, bst0 i]
    exact if_pos (by decide)
theorem ev_bestPhase : r_X10_bestPhase st0 = 0 := bst0 15
theorem xcost0 {i : Nat} (h : i < 16) : x_X10_cost st0 (nI i) = 0 := by
  have h1 : ¬ nI i < 0 := fun q => by
    have q2 : nI i < nI 0 := q
    have := (nI_ltI (by omega) (by decide)).mp q2
    omega
  have h2 : ¬ 15 < nI i := fun q => by
    have q2 : nI 15 < nI i := q
    have := (nI_ltI (by decide) (by omega)).mp q2
    omega
  show (if (if nI i < 0 then (0 : Int32) else if 15 < nI i then 0 else 1) = 0 then (1 : Int32) else 0) = 0
  rw [if_neg h1, if_neg h2]
  decide
theorem xbit0 (p0 : Int32) : x_X10_bit st0 p0 = 1 := by
  have e : v_X1_remembers_1 st0 p0 = 0 := (if_pos (show st0.1 24 < 32 by decide +kernel)).trans (by decide +kernel)
  show (if (if p0 < 1 then (0 : Int32) else if v_X1_remembers_1 st0 p0 < p0 then 0 else 1) = 0 then (1 : Int32) else 0) = 1
  rw [e]
  by_cases h : p0 < 1
  · rw [if_pos h]; decide
  · have e1 : (1 : Int32).toInt = 1 := by decide +kernel
    have e0 : (0 : Int32).toInt = 0 := by decide +kernel
    have q : ¬ p0.toInt < (1 : Int32).toInt := fun z => h (Int32.lt_iff_toInt_lt.mpr z)
    have h2 : (0 : Int32) < p0 := Int32.lt_iff_toInt_lt.mpr (by rw [e0]; rw [e1] at q; omega)
    rw [if_neg h, if_pos h2]; decide
theorem xphase0 : x_X10_phase st0 = 1 := by decide +kernel
theorem rel0 : s_X10_release st0 = st0 := by
  show (upd (upd st0.1 13 0) 12 0, st0.2.1, st0.2.2.1, st0.2.2.2) = (st0.1, st0.2.1, st0.2.2.1, st0.2.2.2)
  refine congrArg (fun f : Nat → Int32 => (f, st0.2.1, st0.2.2.1, st0.2.2.2)) (funext fun k => ?_)
  show (if k = 12 then (0 : Int32) else if k = 13 then 0 else st0.1 k) = st0.1 k
  by_cases h : k = 12
  · rw [if_pos h, h]; decide +kernel
  · rw [if_neg h]
    by_cases h2 : k = 13
    · rw [if_pos h2, h2]; decide +kernel
    · rw [if_neg h2]
/-! two objects side by side -/
theorem twoO {D : va_G} {C B : va_W} {H : Heap} (h : va_P D vwCl (C ++ B) H) : va_P D vwCl C H := subP (X := []) (Y := B) h
theorem twoOD {A : Nat → Prop} {C B : va_W} (h : va_D A (C ++ B)) : va_D A C := subD (X := []) (Y := B) h
theorem twoP {D : va_G} {C B : va_W} {H : Heap} (h : va_P D vwCl (C ++ B) H) : va_P D vwCl B H := subP (X := C) (Y := []) (by rw [List.append_nil]; exact h)
theorem twoPD {A : Nat → Prop} {C B : va_W} (h : va_D A (C ++ B)) : va_D A B := subD (X := C) (Y := []) (by rw [List.append_nil]; exact h)
theorem backO {D : va_G} {A0 : Nat → Prop} {C B : va_W} {as : List Nat} {H H1 : Heap} (hP : va_P D vwCl (C ++ B) H) (hD : va_D A0 (C ++ B)) (eC : C.map (fun q => q.1) = as) (hk : ∀ q : Nat, q < H.size → ¬ aA as H.size q → H1[q]? = H[q]?) (hP1 : va_P D vwCl C H1) : va_P D vwCl (C ++ B) H1 :=
  (joinW (X := []) (C := C) (C1 := C) (Y := B) hP hD eC eC hk hP1).1
theorem backP {D : va_G} {A0 : Nat → Prop} {C B : va_W} {as : List Nat} {H H1 : Heap} (hP : va_P D vwCl (C ++ B) H) (hD : va_D A0 (C ++ B)) (eC : B.map (fun q => q.1) = as) (hk : ∀ q : Nat, q < H.size → ¬ aA as H.size q → H1[q]? = H[q]?) (hP1 : va_P D vwCl B H1) : va_P D vwCl (C ++ B) H1 := by
  have h := (joinW (X := C) (C := B) (C1 := B) (Y := []) (by rw [List.append_nil]; exact hP) (by rw [List.append_nil]; exact hD) eC eC hk hP1).1
  rw [List.append_nil] at h
  exact h
