def r_X11_thrown (S : St) : Int32 := (S.1 0)
def rm_X11_thrown : Room := { frames := 0, cells := 0, slots := 0, locals := 0 }
set_option maxRecDepth 100000 in
set_option maxHeartbeats 4000000 in
theorem k_X11_thrown (l : Launch) (D : va_G) (a : Nat → Nat) (cZ cI : ClassId) (S : St) (sz : Nat) : Met l yX11_thrown wsX11_thrown rm_X11_thrown (va_Pc [.ref (a 0)] (pW D (tyZI cZ cI) (wM a cZ cI S) sz nT)) (va_Qi (fun (r : Int32) (u : St) => u = S ∧ r = r_X11_thrown S) (fun u t => oW D (tyZI cZ cI) (wM a cZ cI u) (aA (adM a) sz) t) (aA (adM a) sz)) 0 0 (aA (adM a) sz) := by
  refine Met.ofW (cc := cX11_thrown) (maxL := 1) (ret := (some .int)) (by decide +kernel) rfl ?_
  intro p e s m args below meth c s₁ B hml hv
  obtain ⟨rfl, hsz, hP0, hK, hD9, hN⟩ := hv
  have hx := B.exec
  have hb := B.bytes
  have hr := B.returns
  have hts := atoms_spec (ws := wsX11_thrown) B.pre
  have hown : s.vm.findClass RX11 = some m.cls := findClass_of_methodNamed B.named
  have hlocks := B.notSynchronized
  subst hsz
  have hD0 := aA_self (sz := s.heap.size) (as := adM a) hD9 rfl
  generalize hAe : aA (adM a) s.heap.size = A at hD0 ⊢
  have hA : ∀ q : Nat, s.heap.size ≤ q → A q := fun q h => by rw [← hAe]; exact Or.inr h
  have hAc : ∀ q : Nat, q ∈ adM a → A q := fun q h => by rw [← hAe]; exact Or.inl h
  have hS0 : va_S A s.heap s.heap [] := va_S.rf
  have hl0 := lv_entry ([.ref (a 0)]) (n := 1) (Nat.le_of_ble_eq_true rfl)
  rw [lg_entry_eq]
  generalize (lg_sl ([.ref (a 0)]) ++ List.replicate (1 - (lg_sl ([.ref (a 0)])).length) Slot.unset).toArray = ls0 at hl0 ⊢
  have hl0 : lv_has ls0 1 [(0, .ref (a 0))] := hl0
  generalize hQ : MQ below _ _ s _ _ _ = Q
  clear hD9 B
  refine lv_aload_n hx hb dX11_thrown_0 rfl (lv_at hl0 0 rfl) ?_
  refine va_get (D := D) (ci := 11) (v := .int (S.1 0)) (C := RX11) (T := TX11) (N := 37) hx hb hts (fun _ h => List.mem_cons_of_mem _ (List.mem_append_right _ (h))) hown hK hP0 0 rfl rfl 0 (by decide) (hts (.fieldLink RX11 41 "PhaselockModel" "thrown" "I") (List.mem_cons_of_mem _ (List.mem_append_left _ (List.mem_of_getElem? (i := 0) rfl)))) (fun _ h9 => h9) rfl dX11_thrown_1 ?_
  subst hQ; exact W.iret (v := (S.1 0)) hx hb hr (fun t ht hW => ⟨⟨(S.1 0), S, rfl, ⟨rfl, (show (S.1 0) = r_X11_thrown S from rfl)⟩, endW hP0 hK hD0 ht hW⟩, hS0.F ht⟩) hS0.2.2 dX11_thrown_4

def s_X11_ticks_1 (S : St) : St := si S 0 0
def s_X11_ticks (S : St) : St := (s_X11_ticks_1 S)
def r_X11_ticks (S : St) : Int32 := ((s_X11_ticks_1 S).1 9)
def rm_X11_ticks : Room := { frames := 0, cells := 0, slots := 0, locals := 0 }
set_option maxRecDepth 100000 in
set_option maxHeartbeats 4000000 in
theorem k_X11_ticks (l : Launch) (D : va_G) (a : Nat → Nat) (cZ cI : ClassId) (S : St) (sz : Nat) : Met l yX11_ticks wsX11_ticks rm_X11_ticks (va_Pc [.ref (a 0)] (pW D (tyZI cZ cI) (wM a cZ cI S) sz nT)) (va_Qi (fun (r : Int32) (u : St) => u = s_X11_ticks S ∧ r = r_X11_ticks S) (fun u t => oW D (tyZI cZ cI) (wM a cZ cI u) (aA (adM a) sz) t) (aA (adM a) sz)) 0 0 (aA (adM a) sz) := by
  refine Met.ofW (cc := cX11_ticks) (maxL := 1) (ret := (some .int)) (by decide +kernel) rfl ?_
  intro p e s m args below meth c s₁ B hml hv
  obtain ⟨rfl, hsz, hP0, hK, hD9, hN⟩ := hv
  have hx := B.exec
  have hb := B.bytes
  have hr := B.returns
  have hts := atoms_spec (ws := wsX11_ticks) B.pre
  have hown : s.vm.findClass RX11 = some m.cls := findClass_of_methodNamed B.named
  have hlocks := B.notSynchronized
  subst hsz
  have hD0 := aA_self (sz := s.heap.size) (as := adM a) hD9 rfl
  generalize hAe : aA (adM a) s.heap.size = A at hD0 ⊢
  have hA : ∀ q : Nat, s.heap.size ≤ q → A q := fun q h => by rw [← hAe]; exact Or.inr h
  have hAc : ∀ q : Nat, q ∈ adM a → A q := fun q h => by rw [← hAe]; exact Or.inl h
  have hS0 : va_S A s.heap s.heap [] := va_S.rf
  have hl0 := lv_entry ([.ref (a 0)]) (n := 1) (Nat.le_of_ble_eq_true rfl)
  rw [lg_entry_eq]
  generalize (lg_sl ([.ref (a 0)]) ++ List.replicate (1 - (lg_sl ([.ref (a 0)])).length) Slot.unset).toArray = ls0 at hl0 ⊢
  have hl0 : lv_has ls0 1 [(0, .ref (a 0))] := hl0
  generalize hQ : MQ below _ _ s _ _ _ = Q
  clear hD9 B
  refine lv_aload_n hx hb dX11_ticks_0 rfl (lv_at hl0 0 rfl) ?_
  refine lv_iconst (v := 0) hx hb dX11_ticks_1 (by decide) ?_
  refine va_put (D := D) (ci := 11) (v := .int 0) (ty := .int) (C := RX11) (T := TX11) (N := 37) hx hb hts (fun _ h => List.mem_cons_of_mem _ (List.mem_append_right _ (h))) tyX11 tyX11_ok nmX11 hown hK hP0 hD0 hS0 0 rfl rfl 0 (by decide) (hts (.fieldLink RX11 41 "PhaselockModel" "thrown" "I") (List.mem_cons_of_mem _ (List.mem_append_left _ (List.mem_of_getElem? (i := 0) rfl)))) (fun _ h9 => h9) rfl (by decide +kernel) rfl rfl (Nat.le_of_ble_eq_true rfl) dX11_ticks_2 (fun H1 L1 hP1 hD1 hS1 => ?_)
  replace hP1 : va_P D vwCl (wM a cZ cI (s_X11_ticks_1 S)) H1 := cvP (wM_s0 a cZ cI S 0) hP1
  replace hD1 : va_D A (wM a cZ cI (s_X11_ticks_1 S)) := cvD (wM_s0 a cZ cI S 0) hD1
  clear hP0 hD0 hS0
  refine lv_aload_n hx hb dX11_ticks_5 rfl (lv_at hl0 0 rfl) ?_
  refine va_get (D := D) (ci := 11) (v := .int ((s_X11_ticks_1 S).1 9)) (C := RX11) (T := TX11) (N := 37) hx hb hts (fun _ h => List.mem_cons_of_mem _ (List.mem_append_right _ (h))) hown hK hP1 0 rfl rfl 9 (by decide) (hts (.fieldLink RX11 93 "PhaselockModel" "ticks" "I") (List.mem_cons_of_mem _ (List.mem_append_left _ (List.mem_of_getElem? (i := 1) rfl)))) (fun _ h9 => h9) rfl dX11_ticks_6 ?_
  subst hQ; exact W.iret (v := ((s_X11_ticks_1 S).1 9)) hx hb hr (fun t ht hW => ⟨⟨((s_X11_ticks_1 S).1 9), (s_X11_ticks_1 S), rfl, ⟨(show (s_X11_ticks_1 S) = s_X11_ticks S from rfl), (show ((s_X11_ticks_1 S).1 9) = r_X11_ticks S from rfl)⟩, endW hP1 hK hD1 ht hW⟩, hS1.F ht⟩) hS1.2.2 dX11_ticks_9

def s_X11_sent_1 (S : St) : St := si S 0 0
def s_X11_sent (S : St) : St := (s_X11_sent_1 S)
def r_X11_sent (S : St) : Int32 := ((s_X11_sent_1 S).1 5)
def rm_X11_sent : Room := { frames := 0, cells := 0, slots := 0, locals := 0 }
set_option maxRecDepth 100000 in
set_option maxHeartbeats 4000000 in
theorem k_X11_sent (l : Launch) (D : va_G) (a : Nat → Nat) (cZ cI : ClassId) (S : St) (sz : Nat) : Met l yX11_sent wsX11_sent rm_X11_sent (va_Pc [.ref (a 0)] (pW D (tyZI cZ cI) (wM a cZ cI S) sz nT)) (va_Qi (fun (r : Int32) (u : St) => u = s_X11_sent S ∧ r = r_X11_sent S) (fun u t => oW D (tyZI cZ cI) (wM a cZ cI u) (aA (adM a) sz) t) (aA (adM a) sz)) 0 0 (aA (adM a) sz) := by
  refine Met.ofW (cc := cX11_sent) (maxL := 1) (ret := (some .int)) (by decide +kernel) rfl ?_
  intro p e s m args below meth c s₁ B hml hv
  obtain ⟨rfl, hsz, hP0, hK, hD9, hN⟩ := hv
  have hx := B.exec
  have hb := B.bytes
  have hr := B.returns
  have hts := atoms_spec (ws := wsX11_sent) B.pre
  have hown : s.vm.findClass RX11 = some m.cls := findClass_of_methodNamed B.named
  have hlocks := B.notSynchronized
  subst hsz
  have hD0 := aA_self (sz := s.heap.size) (as := adM a) hD9 rfl
  generalize hAe : aA (adM a) s.heap.size = A at hD0 ⊢
  have hA : ∀ q : Nat, s.heap.size ≤ q → A q := fun q h => by rw [← hAe]; exact Or.inr h
  have hAc : ∀ q : Nat, q ∈ adM a → A q := fun q h => by rw [← hAe]; exact Or.inl h
  have hS0 : va_S A s.heap s.heap [] := va_S.rf
  have hl0 := lv_entry ([.ref (a 0)]) (n := 1) (Nat.le_of_ble_eq_true rfl)
  rw [lg_entry_eq]
  generalize (lg_sl ([.ref (a 0)]) ++ List.replicate (1 - (lg_sl ([.ref (a 0)])).length) Slot.unset).toArray = ls0 at hl0 ⊢
  have hl0 : lv_has ls0 1 [(0, .ref (a 0))] := hl0
  generalize hQ : MQ below _ _ s _ _ _ = Q
  clear hD9 B
  refine lv_aload_n hx hb dX11_sent_0 rfl (lv_at hl0 0 rfl) ?_
  refine lv_iconst (v := 0) hx hb dX11_sent_1 (by decide) ?_
  refine va_put (D := D) (ci := 11) (v := .int 0) (ty := .int) (C := RX11) (T := TX11) (N := 37) hx hb hts (fun _ h => List.mem_cons_of_mem _ (List.mem_append_right _ (h))) tyX11 tyX11_ok nmX11 hown hK hP0 hD0 hS0 0 rfl rfl 0 (by decide) (hts (.fieldLink RX11 41 "PhaselockModel" "thrown" "I") (List.mem_cons_of_mem _ (List.mem_append_left _ (List.mem_of_getElem? (i := 0) rfl)))) (fun _ h9 => h9) rfl (by decide +kernel) rfl rfl (Nat.le_of_ble_eq_true rfl) dX11_sent_2 (fun H1 L1 hP1 hD1 hS1 => ?_)
  replace hP1 : va_P D vwCl (wM a cZ cI (s_X11_sent_1 S)) H1 := cvP (wM_s0 a cZ cI S 0) hP1
  replace hD1 : va_D A (wM a cZ cI (s_X11_sent_1 S)) := cvD (wM_s0 a cZ cI S 0) hD1
  clear hP0 hD0 hS0
  refine lv_aload_n hx hb dX11_sent_5 rfl (lv_at hl0 0 rfl) ?_
  refine va_get (D := D) (ci := 11) (v := .int ((s_X11_sent_1 S).1 5)) (C := RX11) (T := TX11) (N := 37) hx hb hts (fun _ h => List.mem_cons_of_mem _ (List.mem_append_right _ (h))) hown hK hP1 0 rfl rfl 5 (by decide) (hts (.fieldLink RX11 75 "PhaselockModel" "sent" "I") (List.mem_cons_of_mem _ (List.mem_append_left _ (List.mem_of_getElem? (i := 1) rfl)))) (fun _ h9 => h9) rfl dX11_sent_6 ?_
  subst hQ; exact W.iret (v := ((s_X11_sent_1 S).1 5)) hx hb hr (fun t ht hW => ⟨⟨((s_X11_sent_1 S).1 5), (s_X11_sent_1 S), rfl, ⟨(show (s_X11_sent_1 S) = s_X11_sent S from rfl), (show ((s_X11_sent_1 S).1 5) = r_X11_sent S from rfl)⟩, endW hP1 hK hD1 ht hW⟩, hS1.F ht⟩) hS1.2.2 dX11_sent_9

def s_X11_line_1 (S : St) : St := si S 0 0
def s_X11_line (S : St) : St := (s_X11_line_1 S)
def r_X11_line (S : St) : Int32 := ((s_X11_line_1 S).1 7)
def rm_X11_line : Room := { frames := 0, cells := 0, slots := 0, locals := 0 }
set_option maxRecDepth 100000 in
set_option maxHeartbeats 4000000 in
theorem k_X11_line (l : Launch) (D : va_G) (a : Nat → Nat) (cZ cI : ClassId) (S : St) (sz : Nat) : Met l yX11_line wsX11_line rm_X11_line (va_Pc [.ref (a 0)] (pW D (tyZI cZ cI) (wM a cZ cI S) sz nT)) (va_Qi (fun (r : Int32) (u : St) => u = s_X11_line S ∧ r = r_X11_line S) (fun u t => oW D (tyZI cZ cI) (wM a cZ cI u) (aA (adM a) sz) t) (aA (adM a) sz)) 0 0 (aA (adM a) sz) := by
  refine Met.ofW (cc := cX11_line) (maxL := 1) (ret := (some .int)) (by decide +kernel) rfl ?_
  intro p e s m args below meth c s₁ B hml hv
  obtain ⟨rfl, hsz, hP0, hK, hD9, hN⟩ := hv
  have hx := B.exec
  have hb := B.bytes
  have hr := B.returns
  have hts := atoms_spec (ws := wsX11_line) B.pre
  have hown : s.vm.findClass RX11 = some m.cls := findClass_of_methodNamed B.named
  have hlocks := B.notSynchronized
  subst hsz
  have hD0 := aA_self (sz := s.heap.size) (as := adM a) hD9 rfl
  generalize hAe : aA (adM a) s.heap.size = A at hD0 ⊢
  have hA : ∀ q : Nat, s.heap.size ≤ q → A q := fun q h => by rw [← hAe]; exact Or.inr h
  have hAc : ∀ q : Nat, q ∈ adM a → A q := fun q h => by rw [← hAe]; exact Or.inl h
  have hS0 : va_S A s.heap s.heap [] := va_S.rf
  have hl0 := lv_entry ([.ref (a 0)]) (n := 1) (Nat.le_of_ble_eq_true rfl)
  rw [lg_entry_eq]
  generalize (lg_sl ([.ref (a 0)]) ++ List.replicate (1 - (lg_sl ([.ref (a 0)])).length) Slot.unset).toArray = ls0 at hl0 ⊢
  have hl0 : lv_has ls0 1 [(0, .ref (a 0))] := hl0
  generalize hQ : MQ below _ _ s _ _ _ = Q
  clear hD9 B
  refine lv_aload_n hx hb dX11_line_0 rfl (lv_at hl0 0 rfl) ?_
  refine lv_iconst (v := 0) hx hb dX11_line_1 (by decide) ?_
  refine va_put (D := D) (ci := 11) (v := .int 0) (ty := .int) (C := RX11) (T := TX11) (N := 37) hx hb hts (fun _ h => List.mem_cons_of_mem _ (List.mem_append_right _ (h))) tyX11 tyX11_ok nmX11 hown hK hP0 hD0 hS0 0 rfl rfl 0 (by decide) (hts (.fieldLink RX11 41 "PhaselockModel" "thrown" "I") (List.mem_cons_of_mem _ (List.mem_append_left _ (List.mem_of_getElem? (i := 0) rfl)))) (fun _ h9 => h9) rfl (by decide +kernel) rfl rfl (Nat.le_of_ble_eq_true rfl) dX11_line_2 (fun H1 L1 hP1 hD1 hS1 => ?_)
  replace hP1 : va_P D vwCl (wM a cZ cI (s_X11_line_1 S)) H1 := cvP (wM_s0 a cZ cI S 0) hP1
  replace hD1 : va_D A (wM a cZ cI (s_X11_line_1 S)) := cvD (wM_s0 a cZ cI S 0) hD1
  clear hP0 hD0 hS0
  refine lv_aload_n hx hb dX11_line_5 rfl (lv_at hl0 0 rfl) ?_
  refine va_get (D := D) (ci := 11) (v := .int ((s_X11_line_1 S).1 7)) (C := RX11) (T := TX11) (N := 37) hx hb hts (fun _ h => List.mem_cons_of_mem _ (List.mem_append_right _ (h))) hown hK hP1 0 rfl rfl 7 (by decide) (hts (.fieldLink RX11 20 "PhaselockModel" "value" "I") (List.mem_cons_of_mem _ (List.mem_append_left _ (List.mem_of_getElem? (i := 1) rfl)))) (fun _ h9 => h9) rfl dX11_line_6 ?_
  subst hQ; exact W.iret (v := ((s_X11_line_1 S).1 7)) hx hb hr (fun t ht hW => ⟨⟨((s_X11_line_1 S).1 7), (s_X11_line_1 S), rfl, ⟨(show (s_X11_line_1 S) = s_X11_line S from rfl), (show ((s_X11_line_1 S).1 7) = r_X11_line S from rfl)⟩, endW hP1 hK hD1 ht hW⟩, hS1.F ht⟩) hS1.2.2 dX11_line_9

def s_X11_sender_1 (S : St) : St := si S 0 0
def s_X11_sender (S : St) : St := (s_X11_sender_1 S)
def r_X11_sender (S : St) : Int32 := ((s_X11_sender_1 S).1 1)
def rm_X11_sender : Room := { frames := 0, cells := 0, slots := 0, locals := 0 }
set_option maxRecDepth 100000 in
set_option maxHeartbeats 4000000 in
theorem k_X11_sender (l : Launch) (D : va_G) (a : Nat → Nat) (cZ cI : ClassId) (S : St) (sz : Nat) : Met l yX11_sender wsX11_sender rm_X11_sender (va_Pc [.ref (a 0)] (pW D (tyZI cZ cI) (wM a cZ cI S) sz nT)) (va_Qi (fun (r : Int32) (u : St) => u = s_X11_sender S ∧ r = r_X11_sender S) (fun u t => oW D (tyZI cZ cI) (wM a cZ cI u) (aA (adM a) sz) t) (aA (adM a) sz)) 0 0 (aA (adM a) sz) := by
  refine Met.ofW (cc := cX11_sender) (maxL := 1) (ret := (some .int)) (by decide +kernel) rfl ?_
  intro p e s m args below meth c s₁ B hml hv
  obtain ⟨rfl, hsz, hP0, hK, hD9, hN⟩ := hv
  have hx := B.exec
  have hb := B.bytes
  have hr := B.returns
  have hts := atoms_spec (ws := wsX11_sender) B.pre
  have hown : s.vm.findClass RX11 = some m.cls := findClass_of_methodNamed B.named
  have hlocks := B.notSynchronized
  subst hsz
  have hD0 := aA_self (sz := s.heap.size) (as := adM a) hD9 rfl
  generalize hAe : aA (adM a) s.heap.size = A at hD0 ⊢
  have hA : ∀ q : Nat, s.heap.size ≤ q → A q := fun q h => by rw [← hAe]; exact Or.inr h
  have hAc : ∀ q : Nat, q ∈ adM a → A q := fun q h => by rw [← hAe]; exact Or.inl h
  have hS0 : va_S A s.heap s.heap [] := va_S.rf
  have hl0 := lv_entry ([.ref (a 0)]) (n := 1) (Nat.le_of_ble_eq_true rfl)
  rw [lg_entry_eq]
  generalize (lg_sl ([.ref (a 0)]) ++ List.replicate (1 - (lg_sl ([.ref (a 0)])).length) Slot.unset).toArray = ls0 at hl0 ⊢
  have hl0 : lv_has ls0 1 [(0, .ref (a 0))] := hl0
  generalize hQ : MQ below _ _ s _ _ _ = Q
  clear hD9 B
  refine lv_aload_n hx hb dX11_sender_0 rfl (lv_at hl0 0 rfl) ?_
  refine lv_iconst (v := 0) hx hb dX11_sender_1 (by decide) ?_
  refine va_put (D := D) (ci := 11) (v := .int 0) (ty := .int) (C := RX11) (T := TX11) (N := 37) hx hb hts (fun _ h => List.mem_cons_of_mem _ (List.mem_append_right _ (h))) tyX11 tyX11_ok nmX11 hown hK hP0 hD0 hS0 0 rfl rfl 0 (by decide) (hts (.fieldLink RX11 41 "PhaselockModel" "thrown" "I") (List.mem_cons_of_mem _ (List.mem_append_left _ (List.mem_of_getElem? (i := 0) rfl)))) (fun _ h9 => h9) rfl (by decide +kernel) rfl rfl (Nat.le_of_ble_eq_true rfl) dX11_sender_2 (fun H1 L1 hP1 hD1 hS1 => ?_)
  replace hP1 : va_P D vwCl (wM a cZ cI (s_X11_sender_1 S)) H1 := cvP (wM_s0 a cZ cI S 0) hP1
  replace hD1 : va_D A (wM a cZ cI (s_X11_sender_1 S)) := cvD (wM_s0 a cZ cI S 0) hD1
  clear hP0 hD0 hS0
  refine lv_aload_n hx hb dX11_sender_5 rfl (lv_at hl0 0 rfl) ?_
  refine va_get (D := D) (ci := 11) (v := .int ((s_X11_sender_1 S).1 1)) (C := RX11) (T := TX11) (N := 37) hx hb hts (fun _ h => List.mem_cons_of_mem _ (List.mem_append_right _ (h))) hown hK hP1 0 rfl rfl 1 (by decide) (hts (.fieldLink RX11 86 "PhaselockModel" "senderPhase" "I") (List.mem_cons_of_mem _ (List.mem_append_left _ (List.mem_of_getElem? (i := 1) rfl)))) (fun _ h9 => h9) rfl dX11_sender_6 ?_
  subst hQ; exact W.iret (v := ((s_X11_sender_1 S).1 1)) hx hb hr (fun t ht hW => ⟨⟨((s_X11_sender_1 S).1 1), (s_X11_sender_1 S), rfl, ⟨(show (s_X11_sender_1 S) = s_X11_sender S from rfl), (show ((s_X11_sender_1 S).1 1) = r_X11_sender S from rfl)⟩, endW hP1 hK hD1 ht hW⟩, hS1.F ht⟩) hS1.2.2 dX11_sender_9

def s_X11_receiver_1 (S : St) : St := si S 0 0
def s_X11_receiver (S : St) : St := (s_X11_receiver_1 S)
def r_X11_receiver (S : St) : Int32 := ((s_X11_receiver_1 S).1 11)
def rm_X11_receiver : Room := { frames := 0, cells := 0, slots := 0, locals := 0 }
set_option maxRecDepth 100000 in
set_option maxHeartbeats 4000000 in
theorem k_X11_receiver (l : Launch) (D : va_G) (a : Nat → Nat) (cZ cI : ClassId) (S : St) (sz : Nat) : Met l yX11_receiver wsX11_receiver rm_X11_receiver (va_Pc [.ref (a 0)] (pW D (tyZI cZ cI) (wM a cZ cI S) sz nT)) (va_Qi (fun (r : Int32) (u : St) => u = s_X11_receiver S ∧ r = r_X11_receiver S) (fun u t => oW D (tyZI cZ cI) (wM a cZ cI u) (aA (adM a) sz) t) (aA (adM a) sz)) 0 0 (aA (adM a) sz) := by
  refine Met.ofW (cc := cX11_receiver) (maxL := 1) (ret := (some .int)) (by decide +kernel) rfl ?_
  intro p e s m args below meth c s₁ B hml hv
  obtain ⟨rfl, hsz, hP0, hK, hD9, hN⟩ := hv
  have hx := B.exec
  have hb := B.bytes
  have hr := B.returns
  have hts := atoms_spec (ws := wsX11_receiver) B.pre
  have hown : s.vm.findClass RX11 = some m.cls := findClass_of_methodNamed B.named
  have hlocks := B.notSynchronized
  subst hsz
  have hD0 := aA_self (sz := s.heap.size) (as := adM a) hD9 rfl
  generalize hAe : aA (adM a) s.heap.size = A at hD0 ⊢
  have hA : ∀ q : Nat, s.heap.size ≤ q → A q := fun q h => by rw [← hAe]; exact Or.inr h
  have hAc : ∀ q : Nat, q ∈ adM a → A q := fun q h => by rw [← hAe]; exact Or.inl h
  have hS0 : va_S A s.heap s.heap [] := va_S.rf
  have hl0 := lv_entry ([.ref (a 0)]) (n := 1) (Nat.le_of_ble_eq_true rfl)
  rw [lg_entry_eq]
  generalize (lg_sl ([.ref (a 0)]) ++ List.replicate (1 - (lg_sl ([.ref (a 0)])).length) Slot.unset).toArray = ls0 at hl0 ⊢
  have hl0 : lv_has ls0 1 [(0, .ref (a 0))] := hl0
  generalize hQ : MQ below _ _ s _ _ _ = Q
  clear hD9 B
  refine lv_aload_n hx hb dX11_receiver_0 rfl (lv_at hl0 0 rfl) ?_
  refine lv_iconst (v := 0) hx hb dX11_receiver_1 (by decide) ?_
  refine va_put (D := D) (ci := 11) (v := .int 0) (ty := .int) (C := RX11) (T := TX11) (N := 37) hx hb hts (fun _ h => List.mem_cons_of_mem _ (List.mem_append_right _ (h))) tyX11 tyX11_ok nmX11 hown hK hP0 hD0 hS0 0 rfl rfl 0 (by decide) (hts (.fieldLink RX11 41 "PhaselockModel" "thrown" "I") (List.mem_cons_of_mem _ (List.mem_append_left _ (List.mem_of_getElem? (i := 0) rfl)))) (fun _ h9 => h9) rfl (by decide +kernel) rfl rfl (Nat.le_of_ble_eq_true rfl) dX11_receiver_2 (fun H1 L1 hP1 hD1 hS1 => ?_)
  replace hP1 : va_P D vwCl (wM a cZ cI (s_X11_receiver_1 S)) H1 := cvP (wM_s0 a cZ cI S 0) hP1
  replace hD1 : va_D A (wM a cZ cI (s_X11_receiver_1 S)) := cvD (wM_s0 a cZ cI S 0) hD1
  clear hP0 hD0 hS0
  refine lv_aload_n hx hb dX11_receiver_5 rfl (lv_at hl0 0 rfl) ?_
  refine va_get (D := D) (ci := 11) (v := .int ((s_X11_receiver_1 S).1 11)) (C := RX11) (T := TX11) (N := 37) hx hb hts (fun _ h => List.mem_cons_of_mem _ (List.mem_append_right _ (h))) hown hK hP1 0 rfl rfl 11 (by decide) (hts (.fieldLink RX11 58 "PhaselockModel" "phase" "I") (List.mem_cons_of_mem _ (List.mem_append_left _ (List.mem_of_getElem? (i := 1) rfl)))) (fun _ h9 => h9) rfl dX11_receiver_6 ?_
  subst hQ; exact W.iret (v := ((s_X11_receiver_1 S).1 11)) hx hb hr (fun t ht hW => ⟨⟨((s_X11_receiver_1 S).1 11), (s_X11_receiver_1 S), rfl, ⟨(show (s_X11_receiver_1 S) = s_X11_receiver S from rfl), (show ((s_X11_receiver_1 S).1 11) = r_X11_receiver S from rfl)⟩, endW hP1 hK hD1 ht hW⟩, hS1.F ht⟩) hS1.2.2 dX11_receiver_9

def s_X11_error_1 (S : St) : St := si S 0 0
def s_X11_error (S : St) : St := (s_X11_error_1 S)
def r_X11_error (S : St) : Int32 := ((s_X11_error_1 S).1 14)
def rm_X11_error : Room := { frames := 0, cells := 0, slots := 0, locals := 0 }
set_option maxRecDepth 100000 in
set_option maxHeartbeats 4000000 in
theorem k_X11_error (l : Launch) (D : va_G) (a : Nat → Nat) (cZ cI : ClassId) (S : St) (sz : Nat) : Met l yX11_error wsX11_error rm_X11_error (va_Pc [.ref (a 0)] (pW D (tyZI cZ cI) (wM a cZ cI S) sz nT)) (va_Qi (fun (r : Int32) (u : St) => u = s_X11_error S ∧ r = r_X11_error S) (fun u t => oW D (tyZI cZ cI) (wM a cZ cI u) (aA (adM a) sz) t) (aA (adM a) sz)) 0 0 (aA (adM a) sz) := by
  refine Met.ofW (cc := cX11_error) (maxL := 1) (ret := (some .int)) (by decide +kernel) rfl ?_
  intro p e s m args below meth c s₁ B hml hv
  obtain ⟨rfl, hsz, hP0, hK, hD9, hN⟩ := hv
  have hx := B.exec
  have hb := B.bytes
  have hr := B.returns
  have hts := atoms_spec (ws := wsX11_error) B.pre
  have hown : s.vm.findClass RX11 = some m.cls := findClass_of_methodNamed B.named
  have hlocks := B.notSynchronized
  subst hsz
  have hD0 := aA_self (sz := s.heap.size) (as := adM a) hD9 rfl
  generalize hAe : aA (adM a) s.heap.size = A at hD0 ⊢
  have hA : ∀ q : Nat, s.heap.size ≤ q → A q := fun q h => by rw [← hAe]; exact Or.inr h
  have hAc : ∀ q : Nat, q ∈ adM a → A q := fun q h => by rw [← hAe]; exact Or.inl h
  have hS0 : va_S A s.heap s.heap [] := va_S.rf
  have hl0 := lv_entry ([.ref (a 0)]) (n := 1) (Nat.le_of_ble_eq_true rfl)
  rw [lg_entry_eq]
  generalize (lg_sl ([.ref (a 0)]) ++ List.replicate (1 - (lg_sl ([.ref (a 0)])).length) Slot.unset).toArray = ls0 at hl0 ⊢
  have hl0 : lv_has ls0 1 [(0, .ref (a 0))] := hl0
  generalize hQ : MQ below _ _ s _ _ _ = Q
  clear hD9 B
  refine lv_aload_n hx hb dX11_error_0 rfl (lv_at hl0 0 rfl) ?_
  refine lv_iconst (v := 0) hx hb dX11_error_1 (by decide) ?_
  refine va_put (D := D) (ci := 11) (v := .int 0) (ty := .int) (C := RX11) (T := TX11) (N := 37) hx hb hts (fun _ h => List.mem_cons_of_mem _ (List.mem_append_right _ (h))) tyX11 tyX11_ok nmX11 hown hK hP0 hD0 hS0 0 rfl rfl 0 (by decide) (hts (.fieldLink RX11 41 "PhaselockModel" "thrown" "I") (List.mem_cons_of_mem _ (List.mem_append_left _ (List.mem_of_getElem? (i := 0) rfl)))) (fun _ h9 => h9) rfl (by decide +kernel) rfl rfl (Nat.le_of_ble_eq_true rfl) dX11_error_2 (fun H1 L1 hP1 hD1 hS1 => ?_)
  replace hP1 : va_P D vwCl (wM a cZ cI (s_X11_error_1 S)) H1 := cvP (wM_s0 a cZ cI S 0) hP1
  replace hD1 : va_D A (wM a cZ cI (s_X11_error_1 S)) := cvD (wM_s0 a cZ cI S 0) hD1
  clear hP0 hD0 hS0
  refine lv_aload_n hx hb dX11_error_5 rfl (lv_at hl0 0 rfl) ?_
  refine va_get (D := D) (ci := 11) (v := .int ((s_X11_error_1 S).1 14)) (C := RX11) (T := TX11) (N := 37) hx hb hts (fun _ h => List.mem_cons_of_mem _ (List.mem_append_right _ (h))) hown hK hP1 0 rfl rfl 14 (by decide) (hts (.fieldLink RX11 67 "PhaselockModel" "error" "I") (List.mem_cons_of_mem _ (List.mem_append_left _ (List.mem_of_getElem? (i := 1) rfl)))) (fun _ h9 => h9) rfl dX11_error_6 ?_
  subst hQ; exact W.iret (v := ((s_X11_error_1 S).1 14)) hx hb hr (fun t ht hW => ⟨⟨((s_X11_error_1 S).1 14), (s_X11_error_1 S), rfl, ⟨(show (s_X11_error_1 S) = s_X11_error S from rfl), (show ((s_X11_error_1 S).1 14) = r_X11_error S from rfl)⟩, endW hP1 hK hD1 ht hW⟩, hS1.F ht⟩) hS1.2.2 dX11_error_9

def s_X11_integral_1 (S : St) : St := si S 0 0
def s_X11_integral (S : St) : St := (s_X11_integral_1 S)
def r_X11_integral (S : St) : Int32 := ((s_X11_integral_1 S).1 13)
def rm_X11_integral : Room := { frames := 0, cells := 0, slots := 0, locals := 0 }
set_option maxRecDepth 100000 in
set_option maxHeartbeats 4000000 in
theorem k_X11_integral (l : Launch) (D : va_G) (a : Nat → Nat) (cZ cI : ClassId) (S : St) (sz : Nat) : Met l yX11_integral wsX11_integral rm_X11_integral (va_Pc [.ref (a 0)] (pW D (tyZI cZ cI) (wM a cZ cI S) sz nT)) (va_Qi (fun (r : Int32) (u : St) => u = s_X11_integral S ∧ r = r_X11_integral S) (fun u t => oW D (tyZI cZ cI) (wM a cZ cI u) (aA (adM a) sz) t) (aA (adM a) sz)) 0 0 (aA (adM a) sz) := by
  refine Met.ofW (cc := cX11_integral) (maxL := 1) (ret := (some .int)) (by decide +kernel) rfl ?_
  intro p e s m args below meth c s₁ B hml hv
  obtain ⟨rfl, hsz, hP0, hK, hD9, hN⟩ := hv
  have hx := B.exec
  have hb := B.bytes
  have hr := B.returns
  have hts := atoms_spec (ws := wsX11_integral) B.pre
  have hown : s.vm.findClass RX11 = some m.cls := findClass_of_methodNamed B.named
  have hlocks := B.notSynchronized
  subst hsz
  have hD0 := aA_self (sz := s.heap.size) (as := adM a) hD9 rfl
  generalize hAe : aA (adM a) s.heap.size = A at hD0 ⊢
  have hA : ∀ q : Nat, s.heap.size ≤ q → A q := fun q h => by rw [← hAe]; exact Or.inr h
  have hAc : ∀ q : Nat, q ∈ adM a → A q := fun q h => by rw [← hAe]; exact Or.inl h
  have hS0 : va_S A s.heap s.heap [] := va_S.rf
  have hl0 := lv_entry ([.ref (a 0)]) (n := 1) (Nat.le_of_ble_eq_true rfl)
  rw [lg_entry_eq]
  generalize (lg_sl ([.ref (a 0)]) ++ List.replicate (1 - (lg_sl ([.ref (a 0)])).length) Slot.unset).toArray = ls0 at hl0 ⊢
  have hl0 : lv_has ls0 1 [(0, .ref (a 0))] := hl0
  generalize hQ : MQ below _ _ s _ _ _ = Q
  clear hD9 B
  refine lv_aload_n hx hb dX11_integral_0 rfl (lv_at hl0 0 rfl) ?_
  refine lv_iconst (v := 0) hx hb dX11_integral_1 (by decide) ?_
  refine va_put (D := D) (ci := 11) (v := .int 0) (ty := .int) (C := RX11) (T := TX11) (N := 37) hx hb hts (fun _ h => List.mem_cons_of_mem _ (List.mem_append_right _ (h))) tyX11 tyX11_ok nmX11 hown hK hP0 hD0 hS0 0 rfl rfl 0 (by decide) (hts (.fieldLink RX11 41 "PhaselockModel" "thrown" "I") (List.mem_cons_of_mem _ (List.mem_append_left _ (List.mem_of_getElem? (i := 0) rfl)))) (fun _ h9 => h9) rfl (by decide +kernel) rfl rfl (Nat.le_of_ble_eq_true rfl) dX11_integral_2 (fun H1 L1 hP1 hD1 hS1 => ?_)
  replace hP1 : va_P D vwCl (wM a cZ cI (s_X11_integral_1 S)) H1 := cvP (wM_s0 a cZ cI S 0) hP1
  replace hD1 : va_D A (wM a cZ cI (s_X11_integral_1 S)) := cvD (wM_s0 a cZ cI S 0) hD1
  clear hP0 hD0 hS0
  refine lv_aload_n hx hb dX11_integral_5 rfl (lv_at hl0 0 rfl) ?_
  refine va_get (D := D) (ci := 11) (v := .int ((s_X11_integral_1 S).1 13)) (C := RX11) (T := TX11) (N := 37) hx hb hts (fun _ h => List.mem_cons_of_mem _ (List.mem_append_right _ (h))) hown hK hP1 0 rfl rfl 13 (by decide) (hts (.fieldLink RX11 61 "PhaselockModel" "integral" "I") (List.mem_cons_of_mem _ (List.mem_append_left _ (List.mem_of_getElem? (i := 1) rfl)))) (fun _ h9 => h9) rfl dX11_integral_6 ?_
  subst hQ; exact W.iret (v := ((s_X11_integral_1 S).1 13)) hx hb hr (fun t ht hW => ⟨⟨((s_X11_integral_1 S).1 13), (s_X11_integral_1 S), rfl, ⟨(show (s_X11_integral_1 S) = s_X11_integral S from rfl), (show ((s_X11_integral_1 S).1 13) = r_X11_integral S from rfl)⟩, endW hP1 hK hD1 ht hW⟩, hS1.F ht⟩) hS1.2.2 dX11_integral_9

def s_X11_control_1 (S : St) : St := si S 0 0
def s_X11_control (S : St) : St := (s_X11_control_1 S)
def r_X11_control (S : St) : Int32 := ((s_X11_control_1 S).1 12)
def rm_X11_control : Room := { frames := 0, cells := 0, slots := 0, locals := 0 }
set_option maxRecDepth 100000 in
set_option maxHeartbeats 4000000 in
theorem k_X11_control (l : Launch) (D : va_G) (a : Nat → Nat) (cZ cI : ClassId) (S : St) (sz : Nat) : Met l yX11_control wsX11_control rm_X11_control (va_Pc [.ref (a 0)] (pW D (tyZI cZ cI) (wM a cZ cI S) sz nT)) (va_Qi (fun (r : Int32) (u : St) => u = s_X11_control S ∧ r = r_X11_control S) (fun u t => oW D (tyZI cZ cI) (wM a cZ cI u) (aA (adM a) sz) t) (aA (adM a) sz)) 0 0 (aA (adM a) sz) := by
  refine Met.ofW (cc := cX11_control) (maxL := 1) (ret := (some .int)) (by decide +kernel) rfl ?_
  intro p e s m args below meth c s₁ B hml hv
  obtain ⟨rfl, hsz, hP0, hK, hD9, hN⟩ := hv
  have hx := B.exec
  have hb := B.bytes
  have hr := B.returns
  have hts := atoms_spec (ws := wsX11_control) B.pre
  have hown : s.vm.findClass RX11 = some m.cls := findClass_of_methodNamed B.named
  have hlocks := B.notSynchronized
  subst hsz
  have hD0 := aA_self (sz := s.heap.size) (as := adM a) hD9 rfl
  generalize hAe : aA (adM a) s.heap.size = A at hD0 ⊢
  have hA : ∀ q : Nat, s.heap.size ≤ q → A q := fun q h => by rw [← hAe]; exact Or.inr h
  have hAc : ∀ q : Nat, q ∈ adM a → A q := fun q h => by rw [← hAe]; exact Or.inl h
  have hS0 : va_S A s.heap s.heap [] := va_S.rf
  have hl0 := lv_entry ([.ref (a 0)]) (n := 1) (Nat.le_of_ble_eq_true rfl)
  rw [lg_entry_eq]
  generalize (lg_sl ([.ref (a 0)]) ++ List.replicate (1 - (lg_sl ([.ref (a 0)])).length) Slot.unset).toArray = ls0 at hl0 ⊢
  have hl0 : lv_has ls0 1 [(0, .ref (a 0))] := hl0
  generalize hQ : MQ below _ _ s _ _ _ = Q
  clear hD9 B
  refine lv_aload_n hx hb dX11_control_0 rfl (lv_at hl0 0 rfl) ?_
  refine lv_iconst (v := 0) hx hb dX11_control_1 (by decide) ?_
  refine va_put (D := D) (ci := 11) (v := .int 0) (ty := .int) (C := RX11) (T := TX11) (N := 37) hx hb hts (fun _ h => List.mem_cons_of_mem _ (List.mem_append_right _ (h))) tyX11 tyX11_ok nmX11 hown hK hP0 hD0 hS0 0 rfl rfl 0 (by decide) (hts (.fieldLink RX11 41 "PhaselockModel" "thrown" "I") (List.mem_cons_of_mem _ (List.mem_append_left _ (List.mem_of_getElem? (i := 0) rfl)))) (fun _ h9 => h9) rfl (by decide +kernel) rfl rfl (Nat.le_of_ble_eq_true rfl) dX11_control_2 (fun H1 L1 hP1 hD1 hS1 => ?_)
  replace hP1 : va_P D vwCl (wM a cZ cI (s_X11_control_1 S)) H1 := cvP (wM_s0 a cZ cI S 0) hP1
  replace hD1 : va_D A (wM a cZ cI (s_X11_control_1 S)) := cvD (wM_s0 a cZ cI S 0) hD1
  clear hP0 hD0 hS0
  refine lv_aload_n hx hb dX11_control_5 rfl (lv_at hl0 0 rfl) ?_
  refine va_get (D := D) (ci := 11) (v := .int ((s_X11_control_1 S).1 12)) (C := RX11) (T := TX11) (N := 37) hx hb hts (fun _ h => List.mem_cons_of_mem _ (List.mem_append_right _ (h))) hown hK hP1 0 rfl rfl 12 (by decide) (hts (.fieldLink RX11 64 "PhaselockModel" "control" "I") (List.mem_cons_of_mem _ (List.mem_append_left _ (List.mem_of_getElem? (i := 1) rfl)))) (fun _ h9 => h9) rfl dX11_control_6 ?_
  subst hQ; exact W.iret (v := ((s_X11_control_1 S).1 12)) hx hb hr (fun t ht hW => ⟨⟨((s_X11_control_1 S).1 12), (s_X11_control_1 S), rfl, ⟨(show (s_X11_control_1 S) = s_X11_control S from rfl), (show ((s_X11_control_1 S).1 12) = r_X11_control S from rfl)⟩, endW hP1 hK hD1 ht hW⟩, hS1.F ht⟩) hS1.2.2 dX11_control_9

def s_X11_received_1 (S : St) : St := si S 0 0
def s_X11_received (S : St) : St := (s_X11_received_1 S)
def r_X11_received (S : St) : Int32 := ((s_X11_received_1 S).1 24)
def rm_X11_received : Room := { frames := 0, cells := 0, slots := 0, locals := 0 }
set_option maxRecDepth 100000 in
set_option maxHeartbeats 4000000 in
theorem k_X11_received (l : Launch) (D : va_G) (a : Nat → Nat) (cZ cI : ClassId) (S : St) (sz : Nat) : Met l yX11_received wsX11_received rm_X11_received (va_Pc [.ref (a 0)] (pW D (tyZI cZ cI) (wM a cZ cI S) sz nT)) (va_Qi (fun (r : Int32) (u : St) => u = s_X11_received S ∧ r = r_X11_received S) (fun u t => oW D (tyZI cZ cI) (wM a cZ cI u) (aA (adM a) sz) t) (aA (adM a) sz)) 0 0 (aA (adM a) sz) := by
  refine Met.ofW (cc := cX11_received) (maxL := 1) (ret := (some .int)) (by decide +kernel) rfl ?_
  intro p e s m args below meth c s₁ B hml hv
  obtain ⟨rfl, hsz, hP0, hK, hD9, hN⟩ := hv
  have hx := B.exec
  have hb := B.bytes
  have hr := B.returns
  have hts := atoms_spec (ws := wsX11_received) B.pre
  have hown : s.vm.findClass RX11 = some m.cls := findClass_of_methodNamed B.named
  have hlocks := B.notSynchronized
  subst hsz
  have hD0 := aA_self (sz := s.heap.size) (as := adM a) hD9 rfl
  generalize hAe : aA (adM a) s.heap.size = A at hD0 ⊢
  have hA : ∀ q : Nat, s.heap.size ≤ q → A q := fun q h => by rw [← hAe]; exact Or.inr h
  have hAc : ∀ q : Nat, q ∈ adM a → A q := fun q h => by rw [← hAe]; exact Or.inl h
  have hS0 : va_S A s.heap s.heap [] := va_S.rf
  have hl0 := lv_entry ([.ref (a 0)]) (n := 1) (Nat.le_of_ble_eq_true rfl)
  rw [lg_entry_eq]
  generalize (lg_sl ([.ref (a 0)]) ++ List.replicate (1 - (lg_sl ([.ref (a 0)])).length) Slot.unset).toArray = ls0 at hl0 ⊢
  have hl0 : lv_has ls0 1 [(0, .ref (a 0))] := hl0
  generalize hQ : MQ below _ _ s _ _ _ = Q
  clear hD9 B
  refine lv_aload_n hx hb dX11_received_0 rfl (lv_at hl0 0 rfl) ?_
  refine lv_iconst (v := 0) hx hb dX11_received_1 (by decide) ?_
  refine va_put (D := D) (ci := 11) (v := .int 0) (ty := .int) (C := RX11) (T := TX11) (N := 37) hx hb hts (fun _ h => List.mem_cons_of_mem _ (List.mem_append_right _ (h))) tyX11 tyX11_ok nmX11 hown hK hP0 hD0 hS0 0 rfl rfl 0 (by decide) (hts (.fieldLink RX11 41 "PhaselockModel" "thrown" "I") (List.mem_cons_of_mem _ (List.mem_append_left _ (List.mem_of_getElem? (i := 0) rfl)))) (fun _ h9 => h9) rfl (by decide +kernel) rfl rfl (Nat.le_of_ble_eq_true rfl) dX11_received_2 (fun H1 L1 hP1 hD1 hS1 => ?_)
  replace hP1 : va_P D vwCl (wM a cZ cI (s_X11_received_1 S)) H1 := cvP (wM_s0 a cZ cI S 0) hP1
  replace hD1 : va_D A (wM a cZ cI (s_X11_received_1 S)) := cvD (wM_s0 a cZ cI S 0) hD1
  clear hP0 hD0 hS0
  refine lv_aload_n hx hb dX11_received_5 rfl (lv_at hl0 0 rfl) ?_
  refine va_get (D := D) (ci := 11) (v := .int ((s_X11_received_1 S).1 24)) (C := RX11) (T := TX11) (N := 37) hx hb hts (fun _ h => List.mem_cons_of_mem _ (List.mem_append_right _ (h))) hown hK hP1 0 rfl rfl 24 (by decide) (hts (.fieldLink RX11 99 "PhaselockModel" "received" "I") (List.mem_cons_of_mem _ (List.mem_append_left _ (List.mem_of_getElem? (i := 1) rfl)))) (fun _ h9 => h9) rfl dX11_received_6 ?_
  subst hQ; exact W.iret (v := ((s_X11_received_1 S).1 24)) hx hb hr (fun t ht hW => ⟨⟨((s_X11_received_1 S).1 24), (s_X11_received_1 S), rfl, ⟨(show (s_X11_received_1 S) = s_X11_received S from rfl), (show ((s_X11_received_1 S).1 24) = r_X11_received S from rfl)⟩, endW hP1 hK hD1 ht hW⟩, hS1.F ht⟩) hS1.2.2 dX11_received_9

def s_X11_repeated_1 (S : St) : St := si S 0 0
def s_X11_repeated (S : St) : St := (s_X11_repeated_1 S)
def r_X11_repeated (S : St) : Int32 := ((s_X11_repeated_1 S).1 27)
def rm_X11_repeated : Room := { frames := 0, cells := 0, slots := 0, locals := 0 }
set_option maxRecDepth 100000 in
set_option maxHeartbeats 4000000 in
theorem k_X11_repeated (l : Launch) (D : va_G) (a : Nat → Nat) (cZ cI : ClassId) (S : St) (sz : Nat) : Met l yX11_repeated wsX11_repeated rm_X11_repeated (va_Pc [.ref (a 0)] (pW D (tyZI cZ cI) (wM a cZ cI S) sz nT)) (va_Qi (fun (r : Int32) (u : St) => u = s_X11_repeated S ∧ r = r_X11_repeated S) (fun u t => oW D (tyZI cZ cI) (wM a cZ cI u) (aA (adM a) sz) t) (aA (adM a) sz)) 0 0 (aA (adM a) sz) := by
  refine Met.ofW (cc := cX11_repeated) (maxL := 1) (ret := (some .int)) (by decide +kernel) rfl ?_
  intro p e s m args below meth c s₁ B hml hv
  obtain ⟨rfl, hsz, hP0, hK, hD9, hN⟩ := hv
  have hx := B.exec
  have hb := B.bytes
  have hr := B.returns
  have hts := atoms_spec (ws := wsX11_repeated) B.pre
  have hown : s.vm.findClass RX11 = some m.cls := findClass_of_methodNamed B.named
  have hlocks := B.notSynchronized
  subst hsz
  have hD0 := aA_self (sz := s.heap.size) (as := adM a) hD9 rfl
  generalize hAe : aA (adM a) s.heap.size = A at hD0 ⊢
  have hA : ∀ q : Nat, s.heap.size ≤ q → A q := fun q h => by rw [← hAe]; exact Or.inr h
  have hAc : ∀ q : Nat, q ∈ adM a → A q := fun q h => by rw [← hAe]; exact Or.inl h
  have hS0 : va_S A s.heap s.heap [] := va_S.rf
  have hl0 := lv_entry ([.ref (a 0)]) (n := 1) (Nat.le_of_ble_eq_true rfl)
  rw [lg_entry_eq]
  generalize (lg_sl ([.ref (a 0)]) ++ List.replicate (1 - (lg_sl ([.ref (a 0)])).length) Slot.unset).toArray = ls0 at hl0 ⊢
  have hl0 : lv_has ls0 1 [(0, .ref (a 0))] := hl0
  generalize hQ : MQ below _ _ s _ _ _ = Q
  clear hD9 B
  refine lv_aload_n hx hb dX11_repeated_0 rfl (lv_at hl0 0 rfl) ?_
  refine lv_iconst (v := 0) hx hb dX11_repeated_1 (by decide) ?_
  refine va_put (D := D) (ci := 11) (v := .int 0) (ty := .int) (C := RX11) (T := TX11) (N := 37) hx hb hts (fun _ h => List.mem_cons_of_mem _ (List.mem_append_right _ (h))) tyX11 tyX11_ok nmX11 hown hK hP0 hD0 hS0 0 rfl rfl 0 (by decide) (hts (.fieldLink RX11 41 "PhaselockModel" "thrown" "I") (List.mem_cons_of_mem _ (List.mem_append_left _ (List.mem_of_getElem? (i := 0) rfl)))) (fun _ h9 => h9) rfl (by decide +kernel) rfl rfl (Nat.le_of_ble_eq_true rfl) dX11_repeated_2 (fun H1 L1 hP1 hD1 hS1 => ?_)
  replace hP1 : va_P D vwCl (wM a cZ cI (s_X11_repeated_1 S)) H1 := cvP (wM_s0 a cZ cI S 0) hP1
  replace hD1 : va_D A (wM a cZ cI (s_X11_repeated_1 S)) := cvD (wM_s0 a cZ cI S 0) hD1
  clear hP0 hD0 hS0
  refine lv_aload_n hx hb dX11_repeated_5 rfl (lv_at hl0 0 rfl) ?_
  refine va_get (D := D) (ci := 11) (v := .int ((s_X11_repeated_1 S).1 27)) (C := RX11) (T := TX11) (N := 37) hx hb hts (fun _ h => List.mem_cons_of_mem _ (List.mem_append_right _ (h))) hown hK hP1 0 rfl rfl 27 (by decide) (hts (.fieldLink RX11 124 "PhaselockModel" "repeated" "I") (List.mem_cons_of_mem _ (List.mem_append_left _ (List.mem_of_getElem? (i := 1) rfl)))) (fun _ h9 => h9) rfl dX11_repeated_6 ?_
  subst hQ; exact W.iret (v := ((s_X11_repeated_1 S).1 27)) hx hb hr (fun t ht hW => ⟨⟨((s_X11_repeated_1 S).1 27), (s_X11_repeated_1 S), rfl, ⟨(show (s_X11_repeated_1 S) = s_X11_repeated S from rfl), (show ((s_X11_repeated_1 S).1 27) = r_X11_repeated S from rfl)⟩, endW hP1 hK hD1 ht hW⟩, hS1.F ht⟩) hS1.2.2 dX11_repeated_9

def s_X11_skipped_1 (S : St) : St := si S 0 0
def s_X11_skipped (S : St) : St := (s_X11_skipped_1 S)
def r_X11_skipped (S : St) : Int32 := ((s_X11_skipped_1 S).1 28)
def rm_X11_skipped : Room := { frames := 0, cells := 0, slots := 0, locals := 0 }
set_option maxRecDepth 100000 in
set_option maxHeartbeats 4000000 in
theorem k_X11_skipped (l : Launch) (D : va_G) (a : Nat → Nat) (cZ cI : ClassId) (S : St) (sz : Nat) : Met l yX11_skipped wsX11_skipped rm_X11_skipped (va_Pc [.ref (a 0)] (pW D (tyZI cZ cI) (wM a cZ cI S) sz nT)) (va_Qi (fun (r : Int32) (u : St) => u = s_X11_skipped S ∧ r = r_X11_skipped S) (fun u t => oW D (tyZI cZ cI) (wM a cZ cI u) (aA (adM a) sz) t) (aA (adM a) sz)) 0 0 (aA (adM a) sz) := by
  refine Met.ofW (cc := cX11_skipped) (maxL := 1) (ret := (some .int)) (by decide +kernel) rfl ?_
  intro p e s m args below meth c s₁ B hml hv
  obtain ⟨rfl, hsz, hP0, hK, hD9, hN⟩ := hv
  have hx := B.exec
  have hb := B.bytes
  have hr := B.returns
  have hts := atoms_spec (ws := wsX11_skipped) B.pre
  have hown : s.vm.findClass RX11 = some m.cls := findClass_of_methodNamed B.named
  have hlocks := B.notSynchronized
  subst hsz
  have hD0 := aA_self (sz := s.heap.size) (as := adM a) hD9 rfl
  generalize hAe : aA (adM a) s.heap.size = A at hD0 ⊢
  have hA : ∀ q : Nat, s.heap.size ≤ q → A q := fun q h => by rw [← hAe]; exact Or.inr h
  have hAc : ∀ q : Nat, q ∈ adM a → A q := fun q h => by rw [← hAe]; exact Or.inl h
  have hS0 : va_S A s.heap s.heap [] := va_S.rf
  have hl0 := lv_entry ([.ref (a 0)]) (n := 1) (Nat.le_of_ble_eq_true rfl)
  rw [lg_entry_eq]
  generalize (lg_sl ([.ref (a 0)]) ++ List.replicate (1 - (lg_sl ([.ref (a 0)])).length) Slot.unset).toArray = ls0 at hl0 ⊢
  have hl0 : lv_has ls0 1 [(0, .ref (a 0))] := hl0
  generalize hQ : MQ below _ _ s _ _ _ = Q
  clear hD9 B
  refine lv_aload_n hx hb dX11_skipped_0 rfl (lv_at hl0 0 rfl) ?_
  refine lv_iconst (v := 0) hx hb dX11_skipped_1 (by decide) ?_
  refine va_put (D := D) (ci := 11) (v := .int 0) (ty := .int) (C := RX11) (T := TX11) (N := 37) hx hb hts (fun _ h => List.mem_cons_of_mem _ (List.mem_append_right _ (h))) tyX11 tyX11_ok nmX11 hown hK hP0 hD0 hS0 0 rfl rfl 0 (by decide) (hts (.fieldLink RX11 41 "PhaselockModel" "thrown" "I") (List.mem_cons_of_mem _ (List.mem_append_left _ (List.mem_of_getElem? (i := 0) rfl)))) (fun _ h9 => h9) rfl (by decide +kernel) rfl rfl (Nat.le_of_ble_eq_true rfl) dX11_skipped_2 (fun H1 L1 hP1 hD1 hS1 => ?_)
  replace hP1 : va_P D vwCl (wM a cZ cI (s_X11_skipped_1 S)) H1 := cvP (wM_s0 a cZ cI S 0) hP1
  replace hD1 : va_D A (wM a cZ cI (s_X11_skipped_1 S)) := cvD (wM_s0 a cZ cI S 0) hD1
  clear hP0 hD0 hS0
  refine lv_aload_n hx hb dX11_skipped_5 rfl (lv_at hl0 0 rfl) ?_
  refine va_get (D := D) (ci := 11) (v := .int ((s_X11_skipped_1 S).1 28)) (C := RX11) (T := TX11) (N := 37) hx hb hts (fun _ h => List.mem_cons_of_mem _ (List.mem_append_right _ (h))) hown hK hP1 0 rfl rfl 28 (by decide) (hts (.fieldLink RX11 127 "PhaselockModel" "skipped" "I") (List.mem_cons_of_mem _ (List.mem_append_left _ (List.mem_of_getElem? (i := 1) rfl)))) (fun _ h9 => h9) rfl dX11_skipped_6 ?_
  subst hQ; exact W.iret (v := ((s_X11_skipped_1 S).1 28)) hx hb hr (fun t ht hW => ⟨⟨((s_X11_skipped_1 S).1 28), (s_X11_skipped_1 S), rfl, ⟨(show (s_X11_skipped_1 S) = s_X11_skipped S from rfl), (show ((s_X11_skipped_1 S).1 28) = r_X11_skipped S from rfl)⟩, endW hP1 hK hD1 ht hW⟩, hS1.F ht⟩) hS1.2.2 dX11_skipped_9

def s_X11_alignment_1 (S : St) : St := si S 0 0
def s_X11_alignment (S : St) : St := (s_X11_alignment_1 S)
def r_X11_alignment (S : St) : Int32 := ((s_X11_alignment_1 S).1 31)
def rm_X11_alignment : Room := { frames := 0, cells := 0, slots := 0, locals := 0 }
set_option maxRecDepth 100000 in
set_option maxHeartbeats 4000000 in
theorem k_X11_alignment (l : Launch) (D : va_G) (a : Nat → Nat) (cZ cI : ClassId) (S : St) (sz : Nat) : Met l yX11_alignment wsX11_alignment rm_X11_alignment (va_Pc [.ref (a 0)] (pW D (tyZI cZ cI) (wM a cZ cI S) sz nT)) (va_Qi (fun (r : Int32) (u : St) => u = s_X11_alignment S ∧ r = r_X11_alignment S) (fun u t => oW D (tyZI cZ cI) (wM a cZ cI u) (aA (adM a) sz) t) (aA (adM a) sz)) 0 0 (aA (adM a) sz) := by
  refine Met.ofW (cc := cX11_alignment) (maxL := 1) (ret := (some .int)) (by decide +kernel) rfl ?_
  intro p e s m args below meth c s₁ B hml hv
  obtain ⟨rfl, hsz, hP0, hK, hD9, hN⟩ := hv
  have hx := B.exec
  have hb := B.bytes
  have hr := B.returns
  have hts := atoms_spec (ws := wsX11_alignment) B.pre
  have hown : s.vm.findClass RX11 = some m.cls := findClass_of_methodNamed B.named
  have hlocks := B.notSynchronized
  subst hsz
  have hD0 := aA_self (sz := s.heap.size) (as := adM a) hD9 rfl
  generalize hAe : aA (adM a) s.heap.size = A at hD0 ⊢
  have hA : ∀ q : Nat, s.heap.size ≤ q → A q := fun q h => by rw [← hAe]; exact Or.inr h
  have hAc : ∀ q : Nat, q ∈ adM a → A q := fun q h => by rw [← hAe]; exact Or.inl h
  have hS0 : va_S A s.heap s.heap [] := va_S.rf
  have hl0 := lv_entry ([.ref (a 0)]) (n := 1) (Nat.le_of_ble_eq_true rfl)
  rw [lg_entry_eq]
  generalize (lg_sl ([.ref (a 0)]) ++ List.replicate (1 - (lg_sl ([.ref (a 0)])).length) Slot.unset).toArray = ls0 at hl0 ⊢
  have hl0 : lv_has ls0 1 [(0, .ref (a 0))] := hl0
  generalize hQ : MQ below _ _ s _ _ _ = Q
  clear hD9 B
  refine lv_aload_n hx hb dX11_alignment_0 rfl (lv_at hl0 0 rfl) ?_
  refine lv_iconst (v := 0) hx hb dX11_alignment_1 (by decide) ?_
  refine va_put (D := D) (ci := 11) (v := .int 0) (ty := .int) (C := RX11) (T := TX11) (N := 37) hx hb hts (fun _ h => List.mem_cons_of_mem _ (List.mem_append_right _ (h))) tyX11 tyX11_ok nmX11 hown hK hP0 hD0 hS0 0 rfl rfl 0 (by decide) (hts (.fieldLink RX11 41 "PhaselockModel" "thrown" "I") (List.mem_cons_of_mem _ (List.mem_append_left _ (List.mem_of_getElem? (i := 0) rfl)))) (fun _ h9 => h9) rfl (by decide +kernel) rfl rfl (Nat.le_of_ble_eq_true rfl) dX11_alignment_2 (fun H1 L1 hP1 hD1 hS1 => ?_)
  replace hP1 : va_P D vwCl (wM a cZ cI (s_X11_alignment_1 S)) H1 := cvP (wM_s0 a cZ cI S 0) hP1
  replace hD1 : va_D A (wM a cZ cI (s_X11_alignment_1 S)) := cvD (wM_s0 a cZ cI S 0) hD1
  clear hP0 hD0 hS0
  refine lv_aload_n hx hb dX11_alignment_5 rfl (lv_at hl0 0 rfl) ?_
  refine va_get (D := D) (ci := 11) (v := .int ((s_X11_alignment_1 S).1 31)) (C := RX11) (T := TX11) (N := 37) hx hb hts (fun _ h => List.mem_cons_of_mem _ (List.mem_append_right _ (h))) hown hK hP1 0 rfl rfl 31 (by decide) (hts (.fieldLink RX11 147 "PhaselockModel" "alignment" "I") (List.mem_cons_of_mem _ (List.mem_append_left _ (List.mem_of_getElem? (i := 1) rfl)))) (fun _ h9 => h9) rfl dX11_alignment_6 ?_
  subst hQ; exact W.iret (v := ((s_X11_alignment_1 S).1 31)) hx hb hr (fun t ht hW => ⟨⟨((s_X11_alignment_1 S).1 31), (s_X11_alignment_1 S), rfl, ⟨(show (s_X11_alignment_1 S) = s_X11_alignment S from rfl), (show ((s_X11_alignment_1 S).1 31) = r_X11_alignment S from rfl)⟩, endW hP1 hK hD1 ht hW⟩, hS1.F ht⟩) hS1.2.2 dX11_alignment_9

def s_X11_frames_1 (S : St) : St := si S 0 0
def s_X11_frames (S : St) : St := (s_X11_frames_1 S)
def r_X11_frames (S : St) : Int32 := ((s_X11_frames_1 S).1 35)
def rm_X11_frames : Room := { frames := 0, cells := 0, slots := 0, locals := 0 }
set_option maxRecDepth 100000 in
set_option maxHeartbeats 4000000 in
theorem k_X11_frames (l : Launch) (D : va_G) (a : Nat → Nat) (cZ cI : ClassId) (S : St) (sz : Nat) : Met l yX11_frames wsX11_frames rm_X11_frames (va_Pc [.ref (a 0)] (pW D (tyZI cZ cI) (wM a cZ cI S) sz nT)) (va_Qi (fun (r : Int32) (u : St) => u = s_X11_frames S ∧ r = r_X11_frames S) (fun u t => oW D (tyZI cZ cI) (wM a cZ cI u) (aA (adM a) sz) t) (aA (adM a) sz)) 0 0 (aA (adM a) sz) := by
  refine Met.ofW (cc := cX11_frames) (maxL := 1) (ret := (some .int)) (by decide +kernel) rfl ?_
  intro p e s m args below meth c s₁ B hml hv
  obtain ⟨rfl, hsz, hP0, hK, hD9, hN⟩ := hv
  have hx := B.exec
  have hb := B.bytes
  have hr := B.returns
  have hts := atoms_spec (ws := wsX11_frames) B.pre
  have hown : s.vm.findClass RX11 = some m.cls := findClass_of_methodNamed B.named
  have hlocks := B.notSynchronized
  subst hsz
  have hD0 := aA_self (sz := s.heap.size) (as := adM a) hD9 rfl
  generalize hAe : aA (adM a) s.heap.size = A at hD0 ⊢
  have hA : ∀ q : Nat, s.heap.size ≤ q → A q := fun q h => by rw [← hAe]; exact Or.inr h
  have hAc : ∀ q : Nat, q ∈ adM a → A q := fun q h => by rw [← hAe]; exact Or.inl h
  have hS0 : va_S A s.heap s.heap [] := va_S.rf
  have hl0 := lv_entry ([.ref (a 0)]) (n := 1) (Nat.le_of_ble_eq_true rfl)
  rw [lg_entry_eq]
  generalize (lg_sl ([.ref (a 0)]) ++ List.replicate (1 - (lg_sl ([.ref (a 0)])).length) Slot.unset).toArray = ls0 at hl0 ⊢
  have hl0 : lv_has ls0 1 [(0, .ref (a 0))] := hl0
  generalize hQ : MQ below _ _ s _ _ _ = Q
  clear hD9 B
  refine lv_aload_n hx hb dX11_frames_0 rfl (lv_at hl0 0 rfl) ?_
  refine lv_iconst (v := 0) hx hb dX11_frames_1 (by decide) ?_
  refine va_put (D := D) (ci := 11) (v := .int 0) (ty := .int) (C := RX11) (T := TX11) (N := 37) hx hb hts (fun _ h => List.mem_cons_of_mem _ (List.mem_append_right _ (h))) tyX11 tyX11_ok nmX11 hown hK hP0 hD0 hS0 0 rfl rfl 0 (by decide) (hts (.fieldLink RX11 41 "PhaselockModel" "thrown" "I") (List.mem_cons_of_mem _ (List.mem_append_left _ (List.mem_of_getElem? (i := 0) rfl)))) (fun _ h9 => h9) rfl (by decide +kernel) rfl rfl (Nat.le_of_ble_eq_true rfl) dX11_frames_2 (fun H1 L1 hP1 hD1 hS1 => ?_)
  replace hP1 : va_P D vwCl (wM a cZ cI (s_X11_frames_1 S)) H1 := cvP (wM_s0 a cZ cI S 0) hP1
  replace hD1 : va_D A (wM a cZ cI (s_X11_frames_1 S)) := cvD (wM_s0 a cZ cI S 0) hD1
  clear hP0 hD0 hS0
  refine lv_aload_n hx hb dX11_frames_5 rfl (lv_at hl0 0 rfl) ?_
  refine va_get (D := D) (ci := 11) (v := .int ((s_X11_frames_1 S).1 35)) (C := RX11) (T := TX11) (N := 37) hx hb hts (fun _ h => List.mem_cons_of_mem _ (List.mem_append_right _ (h))) hown hK hP1 0 rfl rfl 35 (by decide) (hts (.fieldLink RX11 156 "PhaselockModel" "frames" "I") (List.mem_cons_of_mem _ (List.mem_append_left _ (List.mem_of_getElem? (i := 1) rfl)))) (fun _ h9 => h9) rfl dX11_frames_6 ?_
  subst hQ; exact W.iret (v := ((s_X11_frames_1 S).1 35)) hx hb hr (fun t ht hW => ⟨⟨((s_X11_frames_1 S).1 35), (s_X11_frames_1 S), rfl, ⟨(show (s_X11_frames_1 S) = s_X11_frames S from rfl), (show ((s_X11_frames_1 S).1 35) = r_X11_frames S from rfl)⟩, endW hP1 hK hD1 ht hW⟩, hS1.F ht⟩) hS1.2.2 dX11_frames_9

def s_X11_losses_1 (S : St) : St := si S 0 0
def s_X11_losses (S : St) : St := (s_X11_losses_1 S)
def r_X11_losses (S : St) : Int32 := ((s_X11_losses_1 S).1 36)
def rm_X11_losses : Room := { frames := 0, cells := 0, slots := 0, locals := 0 }
set_option maxRecDepth 100000 in
set_option maxHeartbeats 4000000 in
theorem k_X11_losses (l : Launch) (D : va_G) (a : Nat → Nat) (cZ cI : ClassId) (S : St) (sz : Nat) : Met l yX11_losses wsX11_losses rm_X11_losses (va_Pc [.ref (a 0)] (pW D (tyZI cZ cI) (wM a cZ cI S) sz nT)) (va_Qi (fun (r : Int32) (u : St) => u = s_X11_losses S ∧ r = r_X11_losses S) (fun u t => oW D (tyZI cZ cI) (wM a cZ cI u) (aA (adM a) sz) t) (aA (adM a) sz)) 0 0 (aA (adM a) sz) := by
  refine Met.ofW (cc := cX11_losses) (maxL := 1) (ret := (some .int)) (by decide +kernel) rfl ?_
  intro p e s m args below meth c s₁ B hml hv
  obtain ⟨rfl, hsz, hP0, hK, hD9, hN⟩ := hv
  have hx := B.exec
  have hb := B.bytes
  have hr := B.returns
  have hts := atoms_spec (ws := wsX11_losses) B.pre
  have hown : s.vm.findClass RX11 = some m.cls := findClass_of_methodNamed B.named
  have hlocks := B.notSynchronized
  subst hsz
  have hD0 := aA_self (sz := s.heap.size) (as := adM a) hD9 rfl
  generalize hAe : aA (adM a) s.heap.size = A at hD0 ⊢
  have hA : ∀ q : Nat, s.heap.size ≤ q → A q := fun q h => by rw [← hAe]; exact Or.inr h
  have hAc : ∀ q : Nat, q ∈ adM a → A q := fun q h => by rw [← hAe]; exact Or.inl h
  have hS0 : va_S A s.heap s.heap [] := va_S.rf
  have hl0 := lv_entry ([.ref (a 0)]) (n := 1) (Nat.le_of_ble_eq_true rfl)
  rw [lg_entry_eq]
  generalize (lg_sl ([.ref (a 0)]) ++ List.replicate (1 - (lg_sl ([.ref (a 0)])).length) Slot.unset).toArray = ls0 at hl0 ⊢
  have hl0 : lv_has ls0 1 [(0, .ref (a 0))] := hl0
  generalize hQ : MQ below _ _ s _ _ _ = Q
  clear hD9 B
  refine lv_aload_n hx hb dX11_losses_0 rfl (lv_at hl0 0 rfl) ?_
  refine lv_iconst (v := 0) hx hb dX11_losses_1 (by decide) ?_
  refine va_put (D := D) (ci := 11) (v := .int 0) (ty := .int) (C := RX11) (T := TX11) (N := 37) hx hb hts (fun _ h => List.mem_cons_of_mem _ (List.mem_append_right _ (h))) tyX11 tyX11_ok nmX11 hown hK hP0 hD0 hS0 0 rfl rfl 0 (by decide) (hts (.fieldLink RX11 41 "PhaselockModel" "thrown" "I") (List.mem_cons_of_mem _ (List.mem_append_left _ (List.mem_of_getElem? (i := 0) rfl)))) (fun _ h9 => h9) rfl (by decide +kernel) rfl rfl (Nat.le_of_ble_eq_true rfl) dX11_losses_2 (fun H1 L1 hP1 hD1 hS1 => ?_)
  replace hP1 : va_P D vwCl (wM a cZ cI (s_X11_losses_1 S)) H1 := cvP (wM_s0 a cZ cI S 0) hP1
  replace hD1 : va_D A (wM a cZ cI (s_X11_losses_1 S)) := cvD (wM_s0 a cZ cI S 0) hD1
  clear hP0 hD0 hS0
  refine lv_aload_n hx hb dX11_losses_5 rfl (lv_at hl0 0 rfl) ?_
  refine va_get (D := D) (ci := 11) (v := .int ((s_X11_losses_1 S).1 36)) (C := RX11) (T := TX11) (N := 37) hx hb hts (fun _ h => List.mem_cons_of_mem _ (List.mem_append_right _ (h))) hown hK hP1 0 rfl rfl 36 (by decide) (hts (.fieldLink RX11 159 "PhaselockModel" "losses" "I") (List.mem_cons_of_mem _ (List.mem_append_left _ (List.mem_of_getElem? (i := 1) rfl)))) (fun _ h9 => h9) rfl dX11_losses_6 ?_
  subst hQ; exact W.iret (v := ((s_X11_losses_1 S).1 36)) hx hb hr (fun t ht hW => ⟨⟨((s_X11_losses_1 S).1 36), (s_X11_losses_1 S), rfl, ⟨(show (s_X11_losses_1 S) = s_X11_losses S from rfl), (show ((s_X11_losses_1 S).1 36) = r_X11_losses S from rfl)⟩, endW hP1 hK hD1 ht hW⟩, hS1.F ht⟩) hS1.2.2 dX11_losses_9

def v_X11_recent_1 (S : St) : Int32 := if 32 ≤ (S.1 24) then 32 else (S.1 24)
def r_X11_recent (S : St) : Int32 := (v_X11_recent_1 S)
def rm_X11_recent : Room := { frames := 0, cells := 0, slots := 0, locals := 0 }
set_option maxRecDepth 100000 in
set_option maxHeartbeats 4000000 in
theorem k_X11_recent (l : Launch) (D : va_G) (a : Nat → Nat) (cZ cI : ClassId) (S : St) (sz : Nat) : Met l yX11_recent wsX11_recent rm_X11_recent (va_Pc [.ref (a 0)] (pW D (tyZI cZ cI) (wM a cZ cI S) sz nT)) (va_Qi (fun (r : Int32) (u : St) => u = S ∧ r = r_X11_recent S) (fun u t => oW D (tyZI cZ cI) (wM a cZ cI u) (aA (adM a) sz) t) (aA (adM a) sz)) 0 0 (aA (adM a) sz) := by
  refine Met.ofW (cc := cX11_recent) (maxL := 1) (ret := (some .int)) (by decide +kernel) rfl ?_
  intro p e s m args below meth c s₁ B hml hv
  obtain ⟨rfl, hsz, hP0, hK, hD9, hN⟩ := hv
  have hx := B.exec
  have hb := B.bytes
  have hr := B.returns
  have hts := atoms_spec (ws := wsX11_recent) B.pre
  have hown : s.vm.findClass RX11 = some m.cls := findClass_of_methodNamed B.named
  have hlocks := B.notSynchronized
  subst hsz
  have hD0 := aA_self (sz := s.heap.size) (as := adM a) hD9 rfl
  generalize hAe : aA (adM a) s.heap.size = A at hD0 ⊢
  have hA : ∀ q : Nat, s.heap.size ≤ q → A q := fun q h => by rw [← hAe]; exact Or.inr h
  have hAc : ∀ q : Nat, q ∈ adM a → A q := fun q h => by rw [← hAe]; exact Or.inl h
  have hS0 : va_S A s.heap s.heap [] := va_S.rf
  have hl0 := lv_entry ([.ref (a 0)]) (n := 1) (Nat.le_of_ble_eq_true rfl)
  rw [lg_entry_eq]
  generalize (lg_sl ([.ref (a 0)]) ++ List.replicate (1 - (lg_sl ([.ref (a 0)])).length) Slot.unset).toArray = ls0 at hl0 ⊢
  have hl0 : lv_has ls0 1 [(0, .ref (a 0))] := hl0
  generalize hQ : MQ below _ _ s _ _ _ = Q
  clear hD9 B
  refine lv_aload_n hx hb dX11_recent_0 rfl (lv_at hl0 0 rfl) ?_
  refine va_get (D := D) (ci := 11) (v := .int (S.1 24)) (C := RX11) (T := TX11) (N := 37) hx hb hts (fun _ h => List.mem_cons_of_mem _ (List.mem_append_right _ (h))) hown hK hP0 0 rfl rfl 24 (by decide) (hts (.fieldLink RX11 99 "PhaselockModel" "received" "I") (List.mem_cons_of_mem _ (List.mem_append_left _ (List.mem_of_getElem? (i := 0) rfl)))) (fun _ h9 => h9) rfl dX11_recent_1 ?_
  refine lv_bipush (v := 32) hx hb dX11_recent_4 (by decide) ?_
  have J1_6 : W p l e (headSpec wsX11_recent rm_X11_recent).room s m ([.ref (a 0)] : List Value).toArray below meth c s.heap [] 0 0 Q (F0 m 18 ls0 [.int (v_X11_recent_1 S)]) := by
    subst hQ; exact W.iret (v := (v_X11_recent_1 S)) hx hb hr (fun t ht hW => ⟨⟨(v_X11_recent_1 S), S, rfl, ⟨rfl, (show (v_X11_recent_1 S) = r_X11_recent S from rfl)⟩, endW hP0 hK hD0 ht hW⟩, hS0.F ht⟩) hS0.2.2 dX11_recent_18
  refine lv_icmp_ge (tgt := 16) hx hb dX11_recent_6 (by decide) (fun c1_6 => ?_) (fun c1_6 => ?_)
  · refine lv_bipush (v := 32) hx hb dX11_recent_16 (by decide) ?_
    refine lv_asi (y := (v_X11_recent_1 S)) (show (v_X11_recent_1 S) = 32 from (if_pos c1_6)).symm ?_
    exact J1_6
  · refine lv_aload_n hx hb dX11_recent_9 rfl (lv_at hl0 0 rfl) ?_
    refine va_get (D := D) (ci := 11) (v := .int (S.1 24)) (C := RX11) (T := TX11) (N := 37) hx hb hts (fun _ h => List.mem_cons_of_mem _ (List.mem_append_right _ (h))) hown hK hP0 0 rfl rfl 24 (by decide) (hts (.fieldLink RX11 99 "PhaselockModel" "received" "I") (List.mem_cons_of_mem _ (List.mem_append_left _ (List.mem_of_getElem? (i := 0) rfl)))) (fun _ h9 => h9) rfl dX11_recent_10 ?_
    refine lv_goto (tgt := 18) hx hb dX11_recent_13 (by decide) ?_
    refine lv_asi (y := (v_X11_recent_1 S)) (show (v_X11_recent_1 S) = (S.1 24) from (if_neg c1_6)).symm ?_
    exact J1_6

def s_X11_release_1 (S : St) : St := si S 0 0
def s_X11_release_2 (S : St) : St := si (s_X11_release_1 S) 13 0
def s_X11_release_3 (S : St) : St := si (s_X11_release_2 S) 12 0
def s_X11_release (S : St) : St := (s_X11_release_3 S)
def rm_X11_release : Room := { frames := 0, cells := 0, slots := 0, locals := 0 }
set_option maxRecDepth 100000 in
set_option maxHeartbeats 4000000 in
theorem k_X11_release (l : Launch) (D : va_G) (a : Nat → Nat) (cZ cI : ClassId) (S : St) (sz : Nat) : Met l yX11_release wsX11_release rm_X11_release (va_Pc [.ref (a 0)] (pW D (tyZI cZ cI) (wM a cZ cI S) sz nT)) (va_Qv (fun u : St => u = s_X11_release S) (fun u t => oW D (tyZI cZ cI) (wM a cZ cI u) (aA (adM a) sz) t) (aA (adM a) sz)) 0 0 (aA (adM a) sz) := by
  refine Met.ofW (cc := cX11_release) (maxL := 1) (ret := none) (by decide +kernel) rfl ?_
  intro p e s m args below meth c s₁ B hml hv
  obtain ⟨rfl, hsz, hP0, hK, hD9, hN⟩ := hv
  have hx := B.exec
  have hb := B.bytes
  have hr := B.returns
  have hts := atoms_spec (ws := wsX11_release) B.pre
  have hown : s.vm.findClass RX11 = some m.cls := findClass_of_methodNamed B.named
  have hlocks := B.notSynchronized
  subst hsz
  have hD0 := aA_self (sz := s.heap.size) (as := adM a) hD9 rfl
  generalize hAe : aA (adM a) s.heap.size = A at hD0 ⊢
  have hA : ∀ q : Nat, s.heap.size ≤ q → A q := fun q h => by rw [← hAe]; exact Or.inr h
  have hAc : ∀ q : Nat, q ∈ adM a → A q := fun q h => by rw [← hAe]; exact Or.inl h
  have hS0 : va_S A s.heap s.heap [] := va_S.rf
  have hl0 := lv_entry ([.ref (a 0)]) (n := 1) (Nat.le_of_ble_eq_true rfl)
  rw [lg_entry_eq]
  generalize (lg_sl ([.ref (a 0)]) ++ List.replicate (1 - (lg_sl ([.ref (a 0)])).length) Slot.unset).toArray = ls0 at hl0 ⊢
  have hl0 : lv_has ls0 1 [(0, .ref (a 0))] := hl0
  generalize hQ : MQ below _ _ s _ _ _ = Q
  clear hD9 B
  refine lv_aload_n hx hb dX11_release_0 rfl (lv_at hl0 0 rfl) ?_
  refine lv_iconst (v := 0) hx hb dX11_release_1 (by decide) ?_
  refine va_put (D := D) (ci := 11) (v := .int 0) (ty := .int) (C := RX11) (T := TX11) (N := 37) hx hb hts (fun _ h => List.mem_cons_of_mem _ (List.mem_append_right _ (h))) tyX11 tyX11_ok nmX11 hown hK hP0 hD0 hS0 0 rfl rfl 0 (by decide) (hts (.fieldLink RX11 41 "PhaselockModel" "thrown" "I") (List.mem_cons_of_mem _ (List.mem_append_left _ (List.mem_of_getElem? (i := 0) rfl)))) (fun _ h9 => h9) rfl (by decide +kernel) rfl rfl (Nat.le_of_ble_eq_true rfl) dX11_release_2 (fun H1 L1 hP1 hD1 hS1 => ?_)
  replace hP1 : va_P D vwCl (wM a cZ cI (s_X11_release_1 S)) H1 := cvP (wM_s0 a cZ cI S 0) hP1
  replace hD1 : va_D A (wM a cZ cI (s_X11_release_1 S)) := cvD (wM_s0 a cZ cI S 0) hD1
  clear hP0 hD0 hS0
  refine lv_aload_n hx hb dX11_release_5 rfl (lv_at hl0 0 rfl) ?_
  refine lv_iconst (v := 0) hx hb dX11_release_6 (by decide) ?_
  refine va_put (D := D) (ci := 11) (v := .int 0) (ty := .int) (C := RX11) (T := TX11) (N := 37) hx hb hts (fun _ h => List.mem_cons_of_mem _ (List.mem_append_right _ (h))) tyX11 tyX11_ok nmX11 hown hK hP1 hD1 hS1 0 rfl rfl 13 (by decide) (hts (.fieldLink RX11 61 "PhaselockModel" "integral" "I") (List.mem_cons_of_mem _ (List.mem_append_left _ (List.mem_of_getElem? (i := 1) rfl)))) (fun _ h9 => h9) rfl (by decide +kernel) rfl rfl (Nat.le_of_ble_eq_true rfl) dX11_release_7 (fun H2 L2 hP2 hD2 hS2 => ?_)
  replace hP2 : va_P D vwCl (wM a cZ cI (s_X11_release_2 S)) H2 := cvP (wM_s13 a cZ cI (s_X11_release_1 S) 0) hP2
  replace hD2 : va_D A (wM a cZ cI (s_X11_release_2 S)) := cvD (wM_s13 a cZ cI (s_X11_release_1 S) 0) hD2
  clear hP1 hD1 hS1
  refine lv_aload_n hx hb dX11_release_10 rfl (lv_at hl0 0 rfl) ?_
  refine lv_iconst (v := 0) hx hb dX11_release_11 (by decide) ?_
  refine va_put (D := D) (ci := 11) (v := .int 0) (ty := .int) (C := RX11) (T := TX11) (N := 37) hx hb hts (fun _ h => List.mem_cons_of_mem _ (List.mem_append_right _ (h))) tyX11 tyX11_ok nmX11 hown hK hP2 hD2 hS2 0 rfl rfl 12 (by decide) (hts (.fieldLink RX11 64 "PhaselockModel" "control" "I") (List.mem_cons_of_mem _ (List.mem_append_left _ (List.mem_of_getElem? (i := 2) rfl)))) (fun _ h9 => h9) rfl (by decide +kernel) rfl rfl (Nat.le_of_ble_eq_true rfl) dX11_release_12 (fun H3 L3 hP3 hD3 hS3 => ?_)
  replace hP3 : va_P D vwCl (wM a cZ cI (s_X11_release_3 S)) H3 := cvP (wM_s12 a cZ cI (s_X11_release_2 S) 0) hP3
  replace hD3 : va_D A (wM a cZ cI (s_X11_release_3 S)) := cvD (wM_s12 a cZ cI (s_X11_release_2 S) 0) hD3
  clear hP2 hD2 hS2
  subst hQ; exact W.vret hx hb hr (fun t ht hW => ⟨⟨(s_X11_release_3 S), rfl, (show (s_X11_release_3 S) = s_X11_release S from rfl), endW hP3 hK hD3 ht hW⟩, hS3.F ht⟩) hS3.2.2 dX11_release_15

def s_X11_holds_1 (S : St) (p0 : Int32) : St := si S 0 p0
def v_X11_holds_2 (S : St) (p0 : Int32) : Int32 := if p0 = 0 then 1 else 0
def s_X11_holds (S : St) (p0 : Int32) : St := (s_X11_holds_1 S p0)
def r_X11_holds (S : St) (p0 : Int32) : Int32 := (v_X11_holds_2 S p0)
def rm_X11_holds : Room := { frames := 0, cells := 0, slots := 0, locals := 0 }
set_option maxRecDepth 100000 in
set_option maxHeartbeats 4000000 in
theorem k_X11_holds (l : Launch) (D : va_G) (a : Nat → Nat) (cZ cI : ClassId) (S : St) (sz : Nat) (p0 : Int32) : Met l yX11_holds wsX11_holds rm_X11_holds (va_Pc [.ref (a 0), .int p0] (pW D (tyZI cZ cI) (wM a cZ cI S) sz nT)) (va_Qi (fun (r : Int32) (u : St) => u = s_X11_holds S p0 ∧ r = r_X11_holds S p0) (fun u t => oW D (tyZI cZ cI) (wM a cZ cI u) (aA (adM a) sz) t) (aA (adM a) sz)) 0 0 (aA (adM a) sz) := by
  refine Met.ofW (cc := cX11_holds) (maxL := 2) (ret := (some .boolean)) (by decide +kernel) rfl ?_
  intro p e s m args below meth c s₁ B hml hv
  obtain ⟨rfl, hsz, hP0, hK, hD9, hN⟩ := hv
  have hx := B.exec
  have hb := B.bytes
  have hr := B.returns
  have hts := atoms_spec (ws := wsX11_holds) B.pre
  have hown : s.vm.findClass RX11 = some m.cls := findClass_of_methodNamed B.named
  have hlocks := B.notSynchronized
  subst hsz
  have hD0 := aA_self (sz := s.heap.size) (as := adM a) hD9 rfl
  generalize hAe : aA (adM a) s.heap.size = A at hD0 ⊢
  have hA : ∀ q : Nat, s.heap.size ≤ q → A q := fun q h => by rw [← hAe]; exact Or.inr h
  have hAc : ∀ q : Nat, q ∈ adM a → A q := fun q h => by rw [← hAe]; exact Or.inl h
  have hS0 : va_S A s.heap s.heap [] := va_S.rf
  have hl0 := lv_entry ([.ref (a 0), .int p0]) (n := 2) (Nat.le_of_ble_eq_true rfl)
  rw [lg_entry_eq]
  generalize (lg_sl ([.ref (a 0), .int p0]) ++ List.replicate (2 - (lg_sl ([.ref (a 0), .int p0])).length) Slot.unset).toArray = ls0 at hl0 ⊢
  have hl0 : lv_has ls0 2 [(0, .ref (a 0)), (1, .int p0)] := hl0
  generalize hQ : MQ below _ _ s _ _ _ = Q
  clear hD9 B
  refine lv_aload_n hx hb dX11_holds_0 rfl (lv_at hl0 0 rfl) ?_
  refine lv_iload_n hx hb dX11_holds_1 rfl (lv_at hl0 1 rfl) ?_
  refine va_put (D := D) (ci := 11) (v := .int p0) (ty := .int) (C := RX11) (T := TX11) (N := 37) hx hb hts (fun _ h => List.mem_cons_of_mem _ (List.mem_append_right _ (h))) tyX11 tyX11_ok nmX11 hown hK hP0 hD0 hS0 0 rfl rfl 0 (by decide) (hts (.fieldLink RX11 41 "PhaselockModel" "thrown" "I") (List.mem_cons_of_mem _ (List.mem_append_left _ (List.mem_of_getElem? (i := 0) rfl)))) (fun _ h9 => h9) rfl (by decide +kernel) rfl rfl (Nat.le_of_ble_eq_true rfl) dX11_holds_2 (fun H1 L1 hP1 hD1 hS1 => ?_)
  replace hP1 : va_P D vwCl (wM a cZ cI (s_X11_holds_1 S p0)) H1 := cvP (wM_s0 a cZ cI S p0) hP1
  replace hD1 : va_D A (wM a cZ cI (s_X11_holds_1 S p0)) := cvD (wM_s0 a cZ cI S p0) hD1
  clear hP0 hD0 hS0
  refine lv_iload_n hx hb dX11_holds_5 rfl (lv_at hl0 1 rfl) ?_
  have J1_6 : W p l e (headSpec wsX11_holds rm_X11_holds).room s m ([.ref (a 0), .int p0] : List Value).toArray below meth c H1 L1 0 0 Q (F0 m 14 ls0 [.int (v_X11_holds_2 S p0)]) := by
    subst hQ; exact W.zret (v := (v_X11_holds_2 S p0)) hx hb hr (by unfold v_X11_holds_2; (repeat' split) <;> decide) (fun t ht hW => ⟨⟨(v_X11_holds_2 S p0), (s_X11_holds_1 S p0), rfl, ⟨(show (s_X11_holds_1 S p0) = s_X11_holds S p0 from rfl), (show (v_X11_holds_2 S p0) = r_X11_holds S p0 from rfl)⟩, endW hP1 hK hD1 ht hW⟩, hS1.F ht⟩) hS1.2.2 dX11_holds_14
  refine lv_if_ne (tgt := 13) hx hb dX11_holds_6 (by decide) (fun c1_6 => ?_) (fun c1_6 => ?_)
  · refine lv_iconst (v := 0) hx hb dX11_holds_13 (by decide) ?_
    refine lv_asi (y := (v_X11_holds_2 S p0)) (show (v_X11_holds_2 S p0) = 0 from (if_neg c1_6)).symm ?_
    exact J1_6
  · refine lv_iconst (v := 1) hx hb dX11_holds_9 (by decide) ?_
    refine lv_goto (tgt := 14) hx hb dX11_holds_10 (by decide) ?_
    refine lv_asi (y := (v_X11_holds_2 S p0)) (show (v_X11_holds_2 S p0) = 1 from (if_pos c1_6)).symm ?_
    exact J1_6
theorem z_X11_holds (S : St) (p0 : Int32) : narrow .boolean (.int (r_X11_holds S p0)) = .int (r_X11_holds S p0) := by
  unfold r_X11_holds
  first
    | ((repeat' split) <;> decide)
    | (simp only [v_X11_holds_2]; (repeat' split) <;> decide)

def v_X11_in_1 (S : St) (p0 : Int32) (p1 : Int32) (p2 : Int32) : Int32 := if p0 < p1 then 0 else if p2 < p0 then 0 else 1
def r_X11_in (S : St) (p0 : Int32) (p1 : Int32) (p2 : Int32) : Int32 := (v_X11_in_1 S p0 p1 p2)
def rm_X11_in : Room := { frames := 0, cells := 0, slots := 0, locals := 0 }
set_option maxRecDepth 100000 in
set_option maxHeartbeats 4000000 in
theorem k_X11_in (l : Launch) (D : va_G) (a : Nat → Nat) (cZ cI : ClassId) (S : St) (sz : Nat) (p0 : Int32) (p1 : Int32) (p2 : Int32) : Met l yX11_in wsX11_in rm_X11_in (va_Pc [.int p0, .int p1, .int p2] (pW D (tyZI cZ cI) (wM a cZ cI S) sz nT)) (va_Qi (fun (r : Int32) (u : St) => u = S ∧ r = r_X11_in S p0 p1 p2) (fun u t => oW D (tyZI cZ cI) (wM a cZ cI u) (aA (adM a) sz) t) (aA (adM a) sz)) 0 0 (aA (adM a) sz) := by
  refine Met.ofW (cc := cX11_in) (maxL := 3) (ret := (some .boolean)) (by decide +kernel) rfl ?_
  intro p e s m args below meth c s₁ B hml hv
  obtain ⟨rfl, hsz, hP0, hK, hD9, hN⟩ := hv
  have hx := B.exec
  have hb := B.bytes
  have hr := B.returns
  have hts := atoms_spec (ws := wsX11_in) B.pre
  have hown : s.vm.findClass RX11 = some m.cls := findClass_of_methodNamed B.named
  have hlocks := B.notSynchronized
  subst hsz
  have hD0 := aA_self (sz := s.heap.size) (as := adM a) hD9 rfl
  generalize hAe : aA (adM a) s.heap.size = A at hD0 ⊢
  have hA : ∀ q : Nat, s.heap.size ≤ q → A q := fun q h => by rw [← hAe]; exact Or.inr h
  have hAc : ∀ q : Nat, q ∈ adM a → A q := fun q h => by rw [← hAe]; exact Or.inl h
  have hS0 : va_S A s.heap s.heap [] := va_S.rf
  have hl0 := lv_entry ([.int p0, .int p1, .int p2]) (n := 3) (Nat.le_of_ble_eq_true rfl)
  rw [lg_entry_eq]
  generalize (lg_sl ([.int p0, .int p1, .int p2]) ++ List.replicate (3 - (lg_sl ([.int p0, .int p1, .int p2])).length) Slot.unset).toArray = ls0 at hl0 ⊢
  have hl0 : lv_has ls0 3 [(0, .int p0), (1, .int p1), (2, .int p2)] := hl0
  generalize hQ : MQ below _ _ s _ _ _ = Q
  clear hD9 B
  refine lv_iload_n hx hb dX11_in_0 rfl (lv_at hl0 0 rfl) ?_
  refine lv_iload_n hx hb dX11_in_1 rfl (lv_at hl0 1 rfl) ?_
  have J1_2 : W p l e (headSpec wsX11_in rm_X11_in).room s m ([.int p0, .int p1, .int p2] : List Value).toArray below meth c s.heap [] 0 0 Q (F0 m 15 ls0 [.int (v_X11_in_1 S p0 p1 p2)]) := by
    subst hQ; exact W.zret (v := (v_X11_in_1 S p0 p1 p2)) hx hb hr (by unfold v_X11_in_1; (repeat' split) <;> decide) (fun t ht hW => ⟨⟨(v_X11_in_1 S p0 p1 p2), S, rfl, ⟨rfl, (show (v_X11_in_1 S p0 p1 p2) = r_X11_in S p0 p1 p2 from rfl)⟩, endW hP0 hK hD0 ht hW⟩, hS0.F ht⟩) hS0.2.2 dX11_in_15
  refine lv_icmp_lt (tgt := 14) hx hb dX11_in_2 (by decide) (fun c1_2 => ?_) (fun c1_2 => ?_)
  · refine lv_iconst (v := 0) hx hb dX11_in_14 (by decide) ?_
    refine lv_asi (y := (v_X11_in_1 S p0 p1 p2)) (show (v_X11_in_1 S p0 p1 p2) = 0 from (if_pos c1_2)).symm ?_
    exact J1_2
  · refine lv_iload_n hx hb dX11_in_5 rfl (lv_at hl0 0 rfl) ?_
    refine lv_iload_n hx hb dX11_in_6 rfl (lv_at hl0 2 rfl) ?_
    refine lv_icmp_gt (tgt := 14) hx hb dX11_in_7 (by decide) (fun c2_7 => ?_) (fun c2_7 => ?_)
    · refine lv_iconst (v := 0) hx hb dX11_in_14 (by decide) ?_
      refine lv_asi (y := (v_X11_in_1 S p0 p1 p2)) (show (v_X11_in_1 S p0 p1 p2) = 0 from ((if_neg c1_2).trans (if_pos c2_7))).symm ?_
      exact J1_2
    · refine lv_iconst (v := 1) hx hb dX11_in_10 (by decide) ?_
      refine lv_goto (tgt := 15) hx hb dX11_in_11 (by decide) ?_
      refine lv_asi (y := (v_X11_in_1 S p0 p1 p2)) (show (v_X11_in_1 S p0 p1 p2) = 1 from ((if_neg c1_2).trans (if_neg c2_7))).symm ?_
      exact J1_2
theorem z_X11_in (S : St) (p0 : Int32) (p1 : Int32) (p2 : Int32) : narrow .boolean (.int (r_X11_in S p0 p1 p2)) = .int (r_X11_in S p0 p1 p2) := by
  unfold r_X11_in
  first
    | ((repeat' split) <;> decide)
    | (simp only [v_X11_in_1]; (repeat' split) <;> decide)

def v_X11_setOffset_1 (S : St) (p0 : Int32) : Int32 := r_X11_in S p0 (-300) 300
def v_X11_setOffset_2 (S : St) (p0 : Int32) : Int32 := if (v_X11_setOffset_1 S p0) = 0 then 1 else 0
def s_X11_setOffset_3 (S : St) (p0 : Int32) : St := s_X11_holds S (v_X11_setOffset_2 S p0)
def v_X11_setOffset_4 (S : St) (p0 : Int32) : Int32 := r_X11_holds S (v_X11_setOffset_2 S p0)
def v_X11_setOffset_5 (S : St) (p0 : Int32) : Int32 := 4096 + p0
def s_X11_setOffset_6 (S : St) (p0 : Int32) : St := si (s_X11_setOffset_3 S p0) 2 (v_X11_setOffset_5 S p0)
def s_X11_setOffset (S : St) (p0 : Int32) : St := if (v_X11_setOffset_4 S p0) = 0 then (s_X11_setOffset_3 S p0) else (s_X11_setOffset_6 S p0)
def r_X11_setOffset (S : St) (p0 : Int32) : Int32 := if (v_X11_setOffset_4 S p0) = 0 then 0 else ((s_X11_setOffset_6 S p0).1 2)
def rm_X11_setOffset : Room := { frames := 1, cells := 0, slots := 0, locals := 22 }
set_option maxRecDepth 100000 in
set_option maxHeartbeats 4000000 in
theorem k_X11_setOffset (l : Launch) (D : va_G) (a : Nat → Nat) (cZ cI : ClassId) (S : St) (sz : Nat) (p0 : Int32) : Met l yX11_setOffset wsX11_setOffset rm_X11_setOffset (va_Pc [.ref (a 0), .int p0] (pW D (tyZI cZ cI) (wM a cZ cI S) sz nT)) (va_Qi (fun (r : Int32) (u : St) => u = s_X11_setOffset S p0 ∧ r = r_X11_setOffset S p0) (fun u t => oW D (tyZI cZ cI) (wM a cZ cI u) (aA (adM a) sz) t) (aA (adM a) sz)) 0 0 (aA (adM a) sz) := by
  refine Met.ofW (cc := cX11_setOffset) (maxL := 2) (ret := (some .int)) (by decide +kernel) rfl ?_
  intro p e s m args below meth c s₁ B hml hv
  obtain ⟨rfl, hsz, hP0, hK, hD9, hN⟩ := hv
  have hx := B.exec
  have hb := B.bytes
  have hr := B.returns
  have hts := atoms_spec (ws := wsX11_setOffset) B.pre
  have hown : s.vm.findClass RX11 = some m.cls := findClass_of_methodNamed B.named
  have hlocks := B.notSynchronized
  subst hsz
  have hD0 := aA_self (sz := s.heap.size) (as := adM a) hD9 rfl
  generalize hAe : aA (adM a) s.heap.size = A at hD0 ⊢
  have hA : ∀ q : Nat, s.heap.size ≤ q → A q := fun q h => by rw [← hAe]; exact Or.inr h
  have hAc : ∀ q : Nat, q ∈ adM a → A q := fun q h => by rw [← hAe]; exact Or.inl h
  have hS0 : va_S A s.heap s.heap [] := va_S.rf
  have hl0 := lv_entry ([.ref (a 0), .int p0]) (n := 2) (Nat.le_of_ble_eq_true rfl)
  rw [lg_entry_eq]
  generalize (lg_sl ([.ref (a 0), .int p0]) ++ List.replicate (2 - (lg_sl ([.ref (a 0), .int p0])).length) Slot.unset).toArray = ls0 at hl0 ⊢
  have hl0 : lv_has ls0 2 [(0, .ref (a 0)), (1, .int p0)] := hl0
  generalize hQ : MQ below _ _ s _ _ _ = Q
  clear hD9 B
  refine lv_aload_n hx hb dX11_setOffset_0 rfl (lv_at hl0 0 rfl) ?_
  refine lv_iload_n hx hb dX11_setOffset_1 rfl (lv_at hl0 1 rfl) ?_
  refine lv_sipush (v := (-300)) hx hb dX11_setOffset_2 (by decide) ?_
  refine lv_sipush (v := 300) hx hb dX11_setOffset_5 (by decide) ?_
  refine va_calli (va_runS (As := [.int p0, .int (-300), .int 300]) (rest := [.ref (a 0)]) ⟨hx, hb, hml, hown, hts⟩ (k_X11_in l D a cZ cI S s.heap.size p0 (-300) 300) (va_cwS 3 hts gX11_setOffset_X11_in rfl rfl rfl (by decide +kernel) ⟨Nat.le_of_ble_eq_true rfl, Nat.le_of_ble_eq_true rfl⟩) ⟨blW okN_T, preW hP0 hK hD0 okN_T hN⟩ rfl rfl hl0.1 rfl (lv_room (Nat.le_of_ble_eq_true rfl)) dX11_setOffset_8 ⟨Nat.zero_le _, Nat.zero_le _⟩) hS0 (aA_in hAc) (aA_free hAc hA hS0) (fun r1 u1 t1 H1 L1 ht1 hvm1 hw1 hB1 _ _ hS1 => ?_)
  obtain ⟨hP1, hD1⟩ := backW hB1 ht1 (aA_free hAc hA hS0)
  clear hB1 ht1 hvm1 t1
  obtain ⟨hu1, hr1⟩ := hw1
  subst u1; subst r1
  clear hP0 hD0 hS0
  refine lv_asi (y := (v_X11_setOffset_1 S p0)) rfl ?_
  have J1_11 : W p l e (headSpec wsX11_setOffset rm_X11_setOffset).room s m ([.ref (a 0), .int p0] : List Value).toArray below meth c H1 L1 0 0 Q (F0 m 19 ls0 [.int (v_X11_setOffset_2 S p0), .ref (a 0)]) := by
    refine va_calli (va_runV (As := [.int (v_X11_setOffset_2 S p0)]) (rest := []) ⟨hx, hb, hml, hown, hts⟩ (k_X11_holds l D a cZ cI S H1.size (v_X11_setOffset_2 S p0)) (cwV 1 hts gX11_setOffset_X11_holds rfl rfl rfl (by decide +kernel) ⟨Nat.le_of_ble_eq_true rfl, Nat.le_of_ble_eq_true rfl⟩) ⟨blW okN_T, va_recv hK hP1 (ci := 11) (q0 := 0) rfl rfl, preW hP1 hK hD1 okN_T hN⟩ rfl rfl hl0.1 rfl (lv_room (Nat.le_of_ble_eq_true rfl)) dX11_setOffset_19 ⟨Nat.zero_le _, Nat.zero_le _⟩) hS1 (aA_in hAc) (aA_free hAc hA hS1) (fun r2 u2 t2 H2 L2 ht2 hvm2 hw2 hB2 _ _ hS2 => ?_)
    obtain ⟨hP2, hD2⟩ := backW hB2 ht2 (aA_free hAc hA hS1)
    clear hB2 ht2 hvm2 t2
    obtain ⟨hu2, hr2⟩ := hw2
    subst u2; subst r2
    replace hP2 : va_P D vwCl (wM a cZ cI (s_X11_setOffset_3 S p0)) H2 := hP2
    replace hD2 : va_D A (wM a cZ cI (s_X11_setOffset_3 S p0)) := hD2
    clear hP1 hD1 hS1
    refine lv_asi (y := (v_X11_setOffset_4 S p0)) rfl ?_
    refine lv_if_ne (tgt := 27) hx hb dX11_setOffset_22 (by decide) (fun c2_22 => ?_) (fun c2_22 => ?_)
    · refine lv_aload_n hx hb dX11_setOffset_27 rfl (lv_at hl0 0 rfl) ?_
      refine lv_sipush (v := 4096) hx hb dX11_setOffset_28 (by decide) ?_
      refine lv_iload_n hx hb dX11_setOffset_31 rfl (lv_at hl0 1 rfl) ?_
      refine lv_iadd hx hb dX11_setOffset_32 ?_
      refine lv_asi (y := (v_X11_setOffset_5 S p0)) rfl ?_
      refine va_put (D := D) (ci := 11) (v := .int (v_X11_setOffset_5 S p0)) (ty := .int) (C := RX11) (T := TX11) (N := 37) hx hb hts (fun _ h => List.mem_cons_of_mem _ (List.mem_append_right _ (h))) tyX11 tyX11_ok nmX11 hown hK hP2 hD2 hS2 0 rfl rfl 2 (by decide) (hts (.fieldLink RX11 9 "PhaselockModel" "step" "I") (List.mem_cons_of_mem _ (List.mem_append_left _ (List.mem_of_getElem? (i := 0) rfl)))) (fun _ h9 => h9) rfl (by decide +kernel) rfl rfl (Nat.le_of_ble_eq_true rfl) dX11_setOffset_33 (fun H3 L3 hP3 hD3 hS3 => ?_)
      replace hP3 : va_P D vwCl (wM a cZ cI (s_X11_setOffset_6 S p0)) H3 := cvP (wM_s2 a cZ cI (s_X11_setOffset_3 S p0) (v_X11_setOffset_5 S p0)) hP3
      replace hD3 : va_D A (wM a cZ cI (s_X11_setOffset_6 S p0)) := cvD (wM_s2 a cZ cI (s_X11_setOffset_3 S p0) (v_X11_setOffset_5 S p0)) hD3
      clear hP2 hD2 hS2
      refine lv_aload_n hx hb dX11_setOffset_36 rfl (lv_at hl0 0 rfl) ?_
      refine va_get (D := D) (ci := 11) (v := .int ((s_X11_setOffset_6 S p0).1 2)) (C := RX11) (T := TX11) (N := 37) hx hb hts (fun _ h => List.mem_cons_of_mem _ (List.mem_append_right _ (h))) hown hK hP3 0 rfl rfl 2 (by decide) (hts (.fieldLink RX11 9 "PhaselockModel" "step" "I") (List.mem_cons_of_mem _ (List.mem_append_left _ (List.mem_of_getElem? (i := 0) rfl)))) (fun _ h9 => h9) rfl dX11_setOffset_37 ?_
      subst hQ; exact W.iret (v := ((s_X11_setOffset_6 S p0).1 2)) hx hb hr (fun t ht hW => ⟨⟨((s_X11_setOffset_6 S p0).1 2), (s_X11_setOffset_6 S p0), rfl, ⟨(show (s_X11_setOffset_6 S p0) = s_X11_setOffset S p0 from (if_neg c2_22).symm), (show ((s_X11_setOffset_6 S p0).1 2) = r_X11_setOffset S p0 from (if_neg c2_22).symm)⟩, endW hP3 hK hD3 ht hW⟩, hS3.F ht⟩) hS3.2.2 dX11_setOffset_40
    · refine lv_iconst (v := 0) hx hb dX11_setOffset_25 (by decide) ?_
      subst hQ; exact W.iret (v := 0) hx hb hr (fun t ht hW => ⟨⟨0, (s_X11_setOffset_3 S p0), rfl, ⟨(show (s_X11_setOffset_3 S p0) = s_X11_setOffset S p0 from (if_pos c2_22).symm), (show 0 = r_X11_setOffset S p0 from (if_pos c2_22).symm)⟩, endW hP2 hK hD2 ht hW⟩, hS2.F ht⟩) hS2.2.2 dX11_setOffset_26
  refine lv_if_eq (tgt := 18) hx hb dX11_setOffset_11 (by decide) (fun c1_11 => ?_) (fun c1_11 => ?_)
  · refine lv_iconst (v := 1) hx hb dX11_setOffset_18 (by decide) ?_
    refine lv_asi (y := (v_X11_setOffset_2 S p0)) (show (v_X11_setOffset_2 S p0) = 1 from (if_pos c1_11)).symm ?_
    exact J1_11
  · refine lv_iconst (v := 0) hx hb dX11_setOffset_14 (by decide) ?_
    refine lv_goto (tgt := 19) hx hb dX11_setOffset_15 (by decide) ?_
    refine lv_asi (y := (v_X11_setOffset_2 S p0)) (show (v_X11_setOffset_2 S p0) = 0 from (if_neg c1_11)).symm ?_
    exact J1_11

def v_X11_setJitter_1 (S : St) (p0 : Int32) (p1 : Int32) : Int32 := r_X11_in S p0 0 2000
def v_X11_setJitter_2 (S : St) (p0 : Int32) (p1 : Int32) : Int32 := if (v_X11_setJitter_1 S p0 p1) = 0 then 1 else if p1 < 0 then 1 else 0
def s_X11_setJitter_3 (S : St) (p0 : Int32) (p1 : Int32) : St := s_X11_holds S (v_X11_setJitter_2 S p0 p1)
def v_X11_setJitter_4 (S : St) (p0 : Int32) (p1 : Int32) : Int32 := r_X11_holds S (v_X11_setJitter_2 S p0 p1)
def s_X11_setJitter_5 (S : St) (p0 : Int32) (p1 : Int32) : St := si (s_X11_setJitter_3 S p0 p1) 3 p0
def v_X11_setJitter_6 (S : St) (p0 : Int32) (p1 : Int32) : Int64 := Int32.toInt64 p1
def s_X11_setJitter_7 (S : St) (p0 : Int32) (p1 : Int32) : St := sr (s_X11_setJitter_5 S p0 p1) (v_X11_setJitter_6 S p0 p1)
def s_X11_setJitter_8 (S : St) (p0 : Int32) (p1 : Int32) : St := if (v_X11_setJitter_4 S p0 p1) = 0 then (s_X11_setJitter_3 S p0 p1) else (s_X11_setJitter_7 S p0 p1)
def s_X11_setJitter (S : St) (p0 : Int32) (p1 : Int32) : St := (s_X11_setJitter_8 S p0 p1)
def rm_X11_setJitter : Room := { frames := 1, cells := 0, slots := 0, locals := 22 }
set_option maxRecDepth 100000 in
set_option maxHeartbeats 4000000 in
theorem k_X11_setJitter (l : Launch) (D : va_G) (a : Nat → Nat) (cZ cI : ClassId) (S : St) (sz : Nat) (p0 : Int32) (p1 : Int32) : Met l yX11_setJitter wsX11_setJitter rm_X11_setJitter (va_Pc [.ref (a 0), .int p0, .int p1] (pW D (tyZI cZ cI) (wM a cZ cI S) sz nT)) (va_Qv (fun u : St => u = s_X11_setJitter S p0 p1) (fun u t => oW D (tyZI cZ cI) (wM a cZ cI u) (aA (adM a) sz) t) (aA (adM a) sz)) 0 0 (aA (adM a) sz) := by
  refine Met.ofW (cc := cX11_setJitter) (maxL := 3) (ret := none) (by decide +kernel) rfl ?_
  intro p e s m args below meth c s₁ B hml hv
  obtain ⟨rfl, hsz, hP0, hK, hD9, hN⟩ := hv
  have hx := B.exec
  have hb := B.bytes
  have hr := B.returns
  have hts := atoms_spec (ws := wsX11_setJitter) B.pre
  have hown : s.vm.findClass RX11 = some m.cls := findClass_of_methodNamed B.named
  have hlocks := B.notSynchronized
  subst hsz
  have hD0 := aA_self (sz := s.heap.size) (as := adM a) hD9 rfl
  generalize hAe : aA (adM a) s.heap.size = A at hD0 ⊢
  have hA : ∀ q : Nat, s.heap.size ≤ q → A q := fun q h => by rw [← hAe]; exact Or.inr h
  have hAc : ∀ q : Nat, q ∈ adM a → A q := fun q h => by rw [← hAe]; exact Or.inl h
  have hS0 : va_S A s.heap s.heap [] := va_S.rf
  have hl0 := lv_entry ([.ref (a 0), .int p0, .int p1]) (n := 3) (Nat.le_of_ble_eq_true rfl)
  rw [lg_entry_eq]
  generalize (lg_sl ([.ref (a 0), .int p0, .int p1]) ++ List.replicate (3 - (lg_sl ([.ref (a 0), .int p0, .int p1])).length) Slot.unset).toArray = ls0 at hl0 ⊢
  have hl0 : lv_has ls0 3 [(0, .ref (a 0)), (1, .int p0), (2, .int p1)] := hl0
  generalize hQ : MQ below _ _ s _ _ _ = Q
  clear hD9 B
  refine lv_aload_n hx hb dX11_setJitter_0 rfl (lv_at hl0 0 rfl) ?_
  refine lv_iload_n hx hb dX11_setJitter_1 rfl (lv_at hl0 1 rfl) ?_
  refine lv_iconst (v := 0) hx hb dX11_setJitter_2 (by decide) ?_
  refine lv_sipush (v := 2000) hx hb dX11_setJitter_3 (by decide) ?_
  refine va_calli (va_runS (As := [.int p0, .int 0, .int 2000]) (rest := [.ref (a 0)]) ⟨hx, hb, hml, hown, hts⟩ (k_X11_in l D a cZ cI S s.heap.size p0 0 2000) (va_cwS 3 hts gX11_setJitter_X11_in rfl rfl rfl (by decide +kernel) ⟨Nat.le_of_ble_eq_true rfl, Nat.le_of_ble_eq_true rfl⟩) ⟨blW okN_T, preW hP0 hK hD0 okN_T hN⟩ rfl rfl hl0.1 rfl (lv_room (Nat.le_of_ble_eq_true rfl)) dX11_setJitter_6 ⟨Nat.zero_le _, Nat.zero_le _⟩) hS0 (aA_in hAc) (aA_free hAc hA hS0) (fun r1 u1 t1 H1 L1 ht1 hvm1 hw1 hB1 _ _ hS1 => ?_)
  obtain ⟨hP1, hD1⟩ := backW hB1 ht1 (aA_free hAc hA hS0)
  clear hB1 ht1 hvm1 t1
  obtain ⟨hu1, hr1⟩ := hw1
  subst u1; subst r1
  clear hP0 hD0 hS0
  refine lv_asi (y := (v_X11_setJitter_1 S p0 p1)) rfl ?_
  have J1_9 : W p l e (headSpec wsX11_setJitter rm_X11_setJitter).room s m ([.ref (a 0), .int p0, .int p1] : List Value).toArray below meth c H1 L1 0 0 Q (F0 m 21 ls0 [.int (v_X11_setJitter_2 S p0 p1), .ref (a 0)]) := by
    refine va_calli (va_runV (As := [.int (v_X11_setJitter_2 S p0 p1)]) (rest := []) ⟨hx, hb, hml, hown, hts⟩ (k_X11_holds l D a cZ cI S H1.size (v_X11_setJitter_2 S p0 p1)) (cwV 1 hts gX11_setJitter_X11_holds rfl rfl rfl (by decide +kernel) ⟨Nat.le_of_ble_eq_true rfl, Nat.le_of_ble_eq_true rfl⟩) ⟨blW okN_T, va_recv hK hP1 (ci := 11) (q0 := 0) rfl rfl, preW hP1 hK hD1 okN_T hN⟩ rfl rfl hl0.1 rfl (lv_room (Nat.le_of_ble_eq_true rfl)) dX11_setJitter_21 ⟨Nat.zero_le _, Nat.zero_le _⟩) hS1 (aA_in hAc) (aA_free hAc hA hS1) (fun r2 u2 t2 H2 L2 ht2 hvm2 hw2 hB2 _ _ hS2 => ?_)
    obtain ⟨hP2, hD2⟩ := backW hB2 ht2 (aA_free hAc hA hS1)
    clear hB2 ht2 hvm2 t2
    obtain ⟨hu2, hr2⟩ := hw2
    subst u2; subst r2
    replace hP2 : va_P D vwCl (wM a cZ cI (s_X11_setJitter_3 S p0 p1)) H2 := hP2
    replace hD2 : va_D A (wM a cZ cI (s_X11_setJitter_3 S p0 p1)) := hD2
    clear hP1 hD1 hS1
    refine lv_asi (y := (v_X11_setJitter_4 S p0 p1)) rfl ?_
    have J2_24 : ∀ (H5 : Heap) (L5 : List Loc), va_P D vwCl (wM a cZ cI (s_X11_setJitter_8 S p0 p1)) H5 → va_D A (wM a cZ cI (s_X11_setJitter_8 S p0 p1)) → va_S A s.heap H5 L5 → W p l e (headSpec wsX11_setJitter rm_X11_setJitter).room s m ([.ref (a 0), .int p0, .int p1] : List Value).toArray below meth c H5 L5 0 0 Q (F0 m 38 ls0 []) := by
      intro H5 L5 hP5 hD5 hS5
      clear hP2 hD2 hS2
      subst hQ; exact W.vret hx hb hr (fun t ht hW => ⟨⟨(s_X11_setJitter_8 S p0 p1), rfl, (show (s_X11_setJitter_8 S p0 p1) = s_X11_setJitter S p0 p1 from rfl), endW hP5 hK hD5 ht hW⟩, hS5.F ht⟩) hS5.2.2 dX11_setJitter_38
    refine lv_if_eq (tgt := 38) hx hb dX11_setJitter_24 (by decide) (fun c3_24 => ?_) (fun c3_24 => ?_)
    · exact J2_24 _ _ (va_asS (P := fun u => va_P D vwCl (wM a cZ cI u) H2) (show (s_X11_setJitter_8 S p0 p1) = (s_X11_setJitter_3 S p0 p1) from (if_pos c3_24)) hP2) (va_asS (P := fun u => va_D A (wM a cZ cI u)) (show (s_X11_setJitter_8 S p0 p1) = (s_X11_setJitter_3 S p0 p1) from (if_pos c3_24)) hD2) hS2
    · refine lv_aload_n hx hb dX11_setJitter_27 rfl (lv_at hl0 0 rfl) ?_
      refine lv_iload_n hx hb dX11_setJitter_28 rfl (lv_at hl0 1 rfl) ?_
      refine va_put (D := D) (ci := 11) (v := .int p0) (ty := .int) (C := RX11) (T := TX11) (N := 37) hx hb hts (fun _ h => List.mem_cons_of_mem _ (List.mem_append_right _ (h))) tyX11 tyX11_ok nmX11 hown hK hP2 hD2 hS2 0 rfl rfl 3 (by decide) (hts (.fieldLink RX11 52 "PhaselockModel" "jitter" "I") (List.mem_cons_of_mem _ (List.mem_append_left _ (List.mem_of_getElem? (i := 0) rfl)))) (fun _ h9 => h9) rfl (by decide +kernel) rfl rfl (Nat.le_of_ble_eq_true rfl) dX11_setJitter_29 (fun H3 L3 hP3 hD3 hS3 => ?_)
      replace hP3 : va_P D vwCl (wM a cZ cI (s_X11_setJitter_5 S p0 p1)) H3 := cvP (wM_s3 a cZ cI (s_X11_setJitter_3 S p0 p1) p0) hP3
      replace hD3 : va_D A (wM a cZ cI (s_X11_setJitter_5 S p0 p1)) := cvD (wM_s3 a cZ cI (s_X11_setJitter_3 S p0 p1) p0) hD3
      clear hP2 hD2 hS2
      refine lv_aload_n hx hb dX11_setJitter_32 rfl (lv_at hl0 0 rfl) ?_
      refine lv_iload_n hx hb dX11_setJitter_33 rfl (lv_at hl0 2 rfl) ?_
      refine lv_i2l (v := (v_X11_setJitter_6 S p0 p1)) hx hb dX11_setJitter_34 rfl ?_
      refine va_put (D := D) (ci := 11) (v := .long (v_X11_setJitter_6 S p0 p1)) (ty := .long) (C := RX11) (T := TX11) (N := 37) hx hb hts (fun _ h => List.mem_cons_of_mem _ (List.mem_append_right _ (h))) tyX11 tyX11_ok nmX11 hown hK hP3 hD3 hS3 0 rfl rfl 4 (by decide) (hts (.fieldLink RX11 13 "PhaselockModel" "random" "J") (List.mem_cons_of_mem _ (List.mem_append_left _ (List.mem_of_getElem? (i := 1) rfl)))) (fun _ h9 => h9) rfl (by decide +kernel) rfl rfl (Nat.le_of_ble_eq_true rfl) dX11_setJitter_35 (fun H4 L4 hP4 hD4 hS4 => ?_)
      replace hP4 : va_P D vwCl (wM a cZ cI (s_X11_setJitter_7 S p0 p1)) H4 := cvP (wM_sR a cZ cI (s_X11_setJitter_5 S p0 p1) (v_X11_setJitter_6 S p0 p1)) hP4
      replace hD4 : va_D A (wM a cZ cI (s_X11_setJitter_7 S p0 p1)) := cvD (wM_sR a cZ cI (s_X11_setJitter_5 S p0 p1) (v_X11_setJitter_6 S p0 p1)) hD4
      clear hP3 hD3 hS3
      exact J2_24 _ _ (va_asS (P := fun u => va_P D vwCl (wM a cZ cI u) H4) (show (s_X11_setJitter_8 S p0 p1) = (s_X11_setJitter_7 S p0 p1) from (if_neg c3_24)) hP4) (va_asS (P := fun u => va_D A (wM a cZ cI u)) (show (s_X11_setJitter_8 S p0 p1) = (s_X11_setJitter_7 S p0 p1) from (if_neg c3_24)) hD4) hS4
  refine lv_if_eq (tgt := 20) hx hb dX11_setJitter_9 (by decide) (fun c1_9 => ?_) (fun c1_9 => ?_)
  · refine lv_iconst (v := 1) hx hb dX11_setJitter_20 (by decide) ?_
    refine lv_asi (y := (v_X11_setJitter_2 S p0 p1)) (show (v_X11_setJitter_2 S p0 p1) = 1 from (if_pos c1_9)).symm ?_
    exact J1_9
  · refine lv_iload_n hx hb dX11_setJitter_12 rfl (lv_at hl0 2 rfl) ?_
    refine lv_if_lt (tgt := 20) hx hb dX11_setJitter_13 (by decide) (fun c2_13 => ?_) (fun c2_13 => ?_)
    · refine lv_iconst (v := 1) hx hb dX11_setJitter_20 (by decide) ?_
      refine lv_asi (y := (v_X11_setJitter_2 S p0 p1)) (show (v_X11_setJitter_2 S p0 p1) = 1 from ((if_neg c1_9).trans (if_pos c2_13))).symm ?_
      exact J1_9
    · refine lv_iconst (v := 0) hx hb dX11_setJitter_16 (by decide) ?_
      refine lv_goto (tgt := 21) hx hb dX11_setJitter_17 (by decide) ?_
      refine lv_asi (y := (v_X11_setJitter_2 S p0 p1)) (show (v_X11_setJitter_2 S p0 p1) = 0 from ((if_neg c1_9).trans (if_neg c2_13))).symm ?_
      exact J1_9

def v_X11_setDetector_1 (S : St) (p0 : Int32) : Int32 := r_X11_in S p0 0 4
def v_X11_setDetector_2 (S : St) (p0 : Int32) : Int32 := if (v_X11_setDetector_1 S p0) = 0 then 1 else 0
def s_X11_setDetector_3 (S : St) (p0 : Int32) : St := s_X11_holds S (v_X11_setDetector_2 S p0)
def v_X11_setDetector_4 (S : St) (p0 : Int32) : Int32 := r_X11_holds S (v_X11_setDetector_2 S p0)
def s_X11_setDetector_5 (S : St) (p0 : Int32) : St := si (s_X11_setDetector_3 S p0) 15 p0
def s_X11_setDetector (S : St) (p0 : Int32) : St := if (v_X11_setDetector_4 S p0) = 0 then (s_X11_setDetector_3 S p0) else (s_X11_setDetector_5 S p0)
def r_X11_setDetector (S : St) (p0 : Int32) : Int32 := if (v_X11_setDetector_4 S p0) = 0 then 0 else ((s_X11_setDetector_3 S p0).1 15)
def rm_X11_setDetector : Room := { frames := 1, cells := 0, slots := 0, locals := 22 }
set_option maxRecDepth 100000 in
set_option maxHeartbeats 4000000 in
theorem k_X11_setDetector (l : Launch) (D : va_G) (a : Nat → Nat) (cZ cI : ClassId) (S : St) (sz : Nat) (p0 : Int32) : Met l yX11_setDetector wsX11_setDetector rm_X11_setDetector (va_Pc [.ref (a 0), .int p0] (pW D (tyZI cZ cI) (wM a cZ cI S) sz nT)) (va_Qi (fun (r : Int32) (u : St) => u = s_X11_setDetector S p0 ∧ r = r_X11_setDetector S p0) (fun u t => oW D (tyZI cZ cI) (wM a cZ cI u) (aA (adM a) sz) t) (aA (adM a) sz)) 0 0 (aA (adM a) sz) := by
  refine Met.ofW (cc := cX11_setDetector) (maxL := 3) (ret := (some .int)) (by decide +kernel) rfl ?_
  intro p e s m args below meth c s₁ B hml hv
  obtain ⟨rfl, hsz, hP0, hK, hD9, hN⟩ := hv
  have hx := B.exec
  have hb := B.bytes
  have hr := B.returns
  have hts := atoms_spec (ws := wsX11_setDetector) B.pre
  have hown : s.vm.findClass RX11 = some m.cls := findClass_of_methodNamed B.named
  have hlocks := B.notSynchronized
  subst hsz
  have hD0 := aA_self (sz := s.heap.size) (as := adM a) hD9 rfl
  generalize hAe : aA (adM a) s.heap.size = A at hD0 ⊢
  have hA : ∀ q : Nat, s.heap.size ≤ q → A q := fun q h => by rw [← hAe]; exact Or.inr h
  have hAc : ∀ q : Nat, q ∈ adM a → A q := fun q h => by rw [← hAe]; exact Or.inl h
  have hS0 : va_S A s.heap s.heap [] := va_S.rf
  have hl0 := lv_entry ([.ref (a 0), .int p0]) (n := 3) (Nat.le_of_ble_eq_true rfl)
  rw [lg_entry_eq]
  generalize (lg_sl ([.ref (a 0), .int p0]) ++ List.replicate (3 - (lg_sl ([.ref (a 0), .int p0])).length) Slot.unset).toArray = ls0 at hl0 ⊢
  have hl0 : lv_has ls0 3 [(0, .ref (a 0)), (1, .int p0)] := hl0
  generalize hQ : MQ below _ _ s _ _ _ = Q
  clear hD9 B
  refine lv_aload_n hx hb dX11_setDetector_0 rfl (lv_at hl0 0 rfl) ?_
  refine lv_iload_n hx hb dX11_setDetector_1 rfl (lv_at hl0 1 rfl) ?_
  refine lv_iconst (v := 0) hx hb dX11_setDetector_2 (by decide) ?_
  refine lv_iconst (v := 4) hx hb dX11_setDetector_3 (by decide) ?_
  refine va_calli (va_runS (As := [.int p0, .int 0, .int 4]) (rest := [.ref (a 0)]) ⟨hx, hb, hml, hown, hts⟩ (k_X11_in l D a cZ cI S s.heap.size p0 0 4) (va_cwS 3 hts gX11_setDetector_X11_in rfl rfl rfl (by decide +kernel) ⟨Nat.le_of_ble_eq_true rfl, Nat.le_of_ble_eq_true rfl⟩) ⟨blW okN_T, preW hP0 hK hD0 okN_T hN⟩ rfl rfl hl0.1 rfl (lv_room (Nat.le_of_ble_eq_true rfl)) dX11_setDetector_4 ⟨Nat.zero_le _, Nat.zero_le _⟩) hS0 (aA_in hAc) (aA_free hAc hA hS0) (fun r1 u1 t1 H1 L1 ht1 hvm1 hw1 hB1 _ _ hS1 => ?_)
  obtain ⟨hP1, hD1⟩ := backW hB1 ht1 (aA_free hAc hA hS0)
  clear hB1 ht1 hvm1 t1
  obtain ⟨hu1, hr1⟩ := hw1
  subst u1; subst r1
  clear hP0 hD0 hS0
  refine lv_asi (y := (v_X11_setDetector_1 S p0)) rfl ?_
  have J1_7 : W p l e (headSpec wsX11_setDetector rm_X11_setDetector).room s m ([.ref (a 0), .int p0] : List Value).toArray below meth c H1 L1 0 0 Q (F0 m 15 ls0 [.int (v_X11_setDetector_2 S p0), .ref (a 0)]) := by
    refine va_calli (va_runV (As := [.int (v_X11_setDetector_2 S p0)]) (rest := []) ⟨hx, hb, hml, hown, hts⟩ (k_X11_holds l D a cZ cI S H1.size (v_X11_setDetector_2 S p0)) (cwV 1 hts gX11_setDetector_X11_holds rfl rfl rfl (by decide +kernel) ⟨Nat.le_of_ble_eq_true rfl, Nat.le_of_ble_eq_true rfl⟩) ⟨blW okN_T, va_recv hK hP1 (ci := 11) (q0 := 0) rfl rfl, preW hP1 hK hD1 okN_T hN⟩ rfl rfl hl0.1 rfl (lv_room (Nat.le_of_ble_eq_true rfl)) dX11_setDetector_15 ⟨Nat.zero_le _, Nat.zero_le _⟩) hS1 (aA_in hAc) (aA_free hAc hA hS1) (fun r2 u2 t2 H2 L2 ht2 hvm2 hw2 hB2 _ _ hS2 => ?_)
    obtain ⟨hP2, hD2⟩ := backW hB2 ht2 (aA_free hAc hA hS1)
    clear hB2 ht2 hvm2 t2
    obtain ⟨hu2, hr2⟩ := hw2
    subst u2; subst r2
    replace hP2 : va_P D vwCl (wM a cZ cI (s_X11_setDetector_3 S p0)) H2 := hP2
    replace hD2 : va_D A (wM a cZ cI (s_X11_setDetector_3 S p0)) := hD2
    clear hP1 hD1 hS1
    refine lv_asi (y := (v_X11_setDetector_4 S p0)) rfl ?_
    refine lv_if_ne (tgt := 23) hx hb dX11_setDetector_18 (by decide) (fun c2_18 => ?_) (fun c2_18 => ?_)
    · refine lv_aload_n hx hb dX11_setDetector_23 rfl (lv_at hl0 0 rfl) ?_
      refine va_get (D := D) (ci := 11) (v := .int ((s_X11_setDetector_3 S p0).1 15)) (C := RX11) (T := TX11) (N := 37) hx hb hts (fun _ h => List.mem_cons_of_mem _ (List.mem_append_right _ (h))) hown hK hP2 0 rfl rfl 15 (by decide) (hts (.fieldLink RX11 55 "PhaselockModel" "detector" "I") (List.mem_cons_of_mem _ (List.mem_append_left _ (List.mem_of_getElem? (i := 0) rfl)))) (fun _ h9 => h9) rfl dX11_setDetector_24 ?_
      refine lv_istore_n (lv' := [(2, .int ((s_X11_setDetector_3 S p0).1 15)), (0, .ref (a 0)), (1, .int p0)]) hx hb dX11_setDetector_27 rfl hl0 (by decide) rfl (fun ls1 hl1 => ?_)
      clear hl0
      refine lv_aload_n hx hb dX11_setDetector_28 rfl (lv_at hl1 1 rfl) ?_
      refine lv_iload_n hx hb dX11_setDetector_29 rfl (lv_at hl1 2 rfl) ?_
      refine va_put (D := D) (ci := 11) (v := .int p0) (ty := .int) (C := RX11) (T := TX11) (N := 37) hx hb hts (fun _ h => List.mem_cons_of_mem _ (List.mem_append_right _ (h))) tyX11 tyX11_ok nmX11 hown hK hP2 hD2 hS2 0 rfl rfl 15 (by decide) (hts (.fieldLink RX11 55 "PhaselockModel" "detector" "I") (List.mem_cons_of_mem _ (List.mem_append_left _ (List.mem_of_getElem? (i := 0) rfl)))) (fun _ h9 => h9) rfl (by decide +kernel) rfl rfl (Nat.le_of_ble_eq_true rfl) dX11_setDetector_30 (fun H3 L3 hP3 hD3 hS3 => ?_)
      replace hP3 : va_P D vwCl (wM a cZ cI (s_X11_setDetector_5 S p0)) H3 := cvP (wM_s15 a cZ cI (s_X11_setDetector_3 S p0) p0) hP3
      replace hD3 : va_D A (wM a cZ cI (s_X11_setDetector_5 S p0)) := cvD (wM_s15 a cZ cI (s_X11_setDetector_3 S p0) p0) hD3
      clear hP2 hD2 hS2
      refine lv_iload_n hx hb dX11_setDetector_33 rfl (lv_at hl1 0 rfl) ?_
      subst hQ; exact W.iret (v := ((s_X11_setDetector_3 S p0).1 15)) hx hb hr (fun t ht hW => ⟨⟨((s_X11_setDetector_3 S p0).1 15), (s_X11_setDetector_5 S p0), rfl, ⟨(show (s_X11_setDetector_5 S p0) = s_X11_setDetector S p0 from (if_neg c2_18).symm), (show ((s_X11_setDetector_3 S p0).1 15) = r_X11_setDetector S p0 from (if_neg c2_18).symm)⟩, endW hP3 hK hD3 ht hW⟩, hS3.F ht⟩) hS3.2.2 dX11_setDetector_34
    · refine lv_iconst (v := 0) hx hb dX11_setDetector_21 (by decide) ?_
      subst hQ; exact W.iret (v := 0) hx hb hr (fun t ht hW => ⟨⟨0, (s_X11_setDetector_3 S p0), rfl, ⟨(show (s_X11_setDetector_3 S p0) = s_X11_setDetector S p0 from (if_pos c2_18).symm), (show 0 = r_X11_setDetector S p0 from (if_pos c2_18).symm)⟩, endW hP2 hK hD2 ht hW⟩, hS2.F ht⟩) hS2.2.2 dX11_setDetector_22
  refine lv_if_eq (tgt := 14) hx hb dX11_setDetector_7 (by decide) (fun c1_7 => ?_) (fun c1_7 => ?_)
  · refine lv_iconst (v := 1) hx hb dX11_setDetector_14 (by decide) ?_
    refine lv_asi (y := (v_X11_setDetector_2 S p0)) (show (v_X11_setDetector_2 S p0) = 1 from (if_pos c1_7)).symm ?_
    exact J1_7
  · refine lv_iconst (v := 0) hx hb dX11_setDetector_10 (by decide) ?_
    refine lv_goto (tgt := 15) hx hb dX11_setDetector_11 (by decide) ?_
    refine lv_asi (y := (v_X11_setDetector_2 S p0)) (show (v_X11_setDetector_2 S p0) = 0 from (if_neg c1_7)).symm ?_
    exact J1_7

def v_X11_setGains_1 (S : St) (p0 : Int32) (p1 : Int32) : Int32 := r_X11_in S p0 0 64
def v_X11_setGains_2 (S : St) (p0 : Int32) (p1 : Int32) : Int32 := r_X11_in S p1 0 64
def v_X11_setGains_3 (S : St) (p0 : Int32) (p1 : Int32) : Int32 := if (v_X11_setGains_1 S p0 p1) = 0 then 1 else if (v_X11_setGains_2 S p0 p1) = 0 then 1 else 0
def s_X11_setGains_4 (S : St) (p0 : Int32) (p1 : Int32) : St := s_X11_holds S (v_X11_setGains_3 S p0 p1)
def v_X11_setGains_5 (S : St) (p0 : Int32) (p1 : Int32) : Int32 := r_X11_holds S (v_X11_setGains_3 S p0 p1)
def s_X11_setGains_6 (S : St) (p0 : Int32) (p1 : Int32) : St := si (s_X11_setGains_4 S p0 p1) 16 p0
def s_X11_setGains_7 (S : St) (p0 : Int32) (p1 : Int32) : St := si (s_X11_setGains_6 S p0 p1) 17 p1
def s_X11_setGains_8 (S : St) (p0 : Int32) (p1 : Int32) : St := if (v_X11_setGains_5 S p0 p1) = 0 then (s_X11_setGains_4 S p0 p1) else (s_X11_setGains_7 S p0 p1)
def s_X11_setGains (S : St) (p0 : Int32) (p1 : Int32) : St := (s_X11_setGains_8 S p0 p1)
def rm_X11_setGains : Room := { frames := 1, cells := 0, slots := 0, locals := 22 }
set_option maxRecDepth 100000 in
set_option maxHeartbeats 4000000 in
theorem k_X11_setGains (l : Launch) (D : va_G) (a : Nat → Nat) (cZ cI : ClassId) (S : St) (sz : Nat) (p0 : Int32) (p1 : Int32) : Met l yX11_setGains wsX11_setGains rm_X11_setGains (va_Pc [.ref (a 0), .int p0, .int p1] (pW D (tyZI cZ cI) (wM a cZ cI S) sz nT)) (va_Qv (fun u : St => u = s_X11_setGains S p0 p1) (fun u t => oW D (tyZI cZ cI) (wM a cZ cI u) (aA (adM a) sz) t) (aA (adM a) sz)) 0 0 (aA (adM a) sz) := by
  refine Met.ofW (cc := cX11_setGains) (maxL := 3) (ret := none) (by decide +kernel) rfl ?_
  intro p e s m args below meth c s₁ B hml hv
  obtain ⟨rfl, hsz, hP0, hK, hD9, hN⟩ := hv
  have hx := B.exec
  have hb := B.bytes
  have hr := B.returns
  have hts := atoms_spec (ws := wsX11_setGains) B.pre
  have hown : s.vm.findClass RX11 = some m.cls := findClass_of_methodNamed B.named
  have hlocks := B.notSynchronized
  subst hsz
  have hD0 := aA_self (sz := s.heap.size) (as := adM a) hD9 rfl
  generalize hAe : aA (adM a) s.heap.size = A at hD0 ⊢
  have hA : ∀ q : Nat, s.heap.size ≤ q → A q := fun q h => by rw [← hAe]; exact Or.inr h
  have hAc : ∀ q : Nat, q ∈ adM a → A q := fun q h => by rw [← hAe]; exact Or.inl h
  have hS0 : va_S A s.heap s.heap [] := va_S.rf
  have hl0 := lv_entry ([.ref (a 0), .int p0, .int p1]) (n := 3) (Nat.le_of_ble_eq_true rfl)
  rw [lg_entry_eq]
  generalize (lg_sl ([.ref (a 0), .int p0, .int p1]) ++ List.replicate (3 - (lg_sl ([.ref (a 0), .int p0, .int p1])).length) Slot.unset).toArray = ls0 at hl0 ⊢
  have hl0 : lv_has ls0 3 [(0, .ref (a 0)), (1, .int p0), (2, .int p1)] := hl0
  generalize hQ : MQ below _ _ s _ _ _ = Q
  clear hD9 B
  refine lv_aload_n hx hb dX11_setGains_0 rfl (lv_at hl0 0 rfl) ?_
  refine lv_iload_n hx hb dX11_setGains_1 rfl (lv_at hl0 1 rfl) ?_
  refine lv_iconst (v := 0) hx hb dX11_setGains_2 (by decide) ?_
  refine lv_bipush (v := 64) hx hb dX11_setGains_3 (by decide) ?_
  refine va_calli (va_runS (As := [.int p0, .int 0, .int 64]) (rest := [.ref (a 0)]) ⟨hx, hb, hml, hown, hts⟩ (k_X11_in l D a cZ cI S s.heap.size p0 0 64) (va_cwS 3 hts gX11_setGains_X11_in rfl rfl rfl (by decide +kernel) ⟨Nat.le_of_ble_eq_true rfl, Nat.le_of_ble_eq_true rfl⟩) ⟨blW okN_T, preW hP0 hK hD0 okN_T hN⟩ rfl rfl hl0.1 rfl (lv_room (Nat.le_of_ble_eq_true rfl)) dX11_setGains_5 ⟨Nat.zero_le _, Nat.zero_le _⟩) hS0 (aA_in hAc) (aA_free hAc hA hS0) (fun r1 u1 t1 H1 L1 ht1 hvm1 hw1 hB1 _ _ hS1 => ?_)
  obtain ⟨hP1, hD1⟩ := backW hB1 ht1 (aA_free hAc hA hS0)
  clear hB1 ht1 hvm1 t1
  obtain ⟨hu1, hr1⟩ := hw1
  subst u1; subst r1
  clear hP0 hD0 hS0
  refine lv_asi (y := (v_X11_setGains_1 S p0 p1)) rfl ?_
  have J1_8 : ∀ (H3 : Heap) (L3 : List Loc), va_P D vwCl (wM a cZ cI S) H3 → va_D A (wM a cZ cI S) → va_S A s.heap H3 L3 → W p l e (headSpec wsX11_setGains rm_X11_setGains).room s m ([.ref (a 0), .int p0, .int p1] : List Value).toArray below meth c H3 L3 0 0 Q (F0 m 26 ls0 [.int (v_X11_setGains_3 S p0 p1), .ref (a 0)]) := by
    intro H3 L3 hP3 hD3 hS3
    clear hP1 hD1 hS1
    refine va_calli (va_runV (As := [.int (v_X11_setGains_3 S p0 p1)]) (rest := []) ⟨hx, hb, hml, hown, hts⟩ (k_X11_holds l D a cZ cI S H3.size (v_X11_setGains_3 S p0 p1)) (cwV 1 hts gX11_setGains_X11_holds rfl rfl rfl (by decide +kernel) ⟨Nat.le_of_ble_eq_true rfl, Nat.le_of_ble_eq_true rfl⟩) ⟨blW okN_T, va_recv hK hP3 (ci := 11) (q0 := 0) rfl rfl, preW hP3 hK hD3 okN_T hN⟩ rfl rfl hl0.1 rfl (lv_room (Nat.le_of_ble_eq_true rfl)) dX11_setGains_26 ⟨Nat.zero_le _, Nat.zero_le _⟩) hS3 (aA_in hAc) (aA_free hAc hA hS3) (fun r4 u4 t4 H4 L4 ht4 hvm4 hw4 hB4 _ _ hS4 => ?_)
    obtain ⟨hP4, hD4⟩ := backW hB4 ht4 (aA_free hAc hA hS3)
    clear hB4 ht4 hvm4 t4
    obtain ⟨hu4, hr4⟩ := hw4
    subst u4; subst r4
    replace hP4 : va_P D vwCl (wM a cZ cI (s_X11_setGains_4 S p0 p1)) H4 := hP4
    replace hD4 : va_D A (wM a cZ cI (s_X11_setGains_4 S p0 p1)) := hD4
    clear hP3 hD3 hS3
    refine lv_asi (y := (v_X11_setGains_5 S p0 p1)) rfl ?_
    have J2_29 : ∀ (H7 : Heap) (L7 : List Loc), va_P D vwCl (wM a cZ cI (s_X11_setGains_8 S p0 p1)) H7 → va_D A (wM a cZ cI (s_X11_setGains_8 S p0 p1)) → va_S A s.heap H7 L7 → W p l e (headSpec wsX11_setGains rm_X11_setGains).room s m ([.ref (a 0), .int p0, .int p1] : List Value).toArray below meth c H7 L7 0 0 Q (F0 m 42 ls0 []) := by
      intro H7 L7 hP7 hD7 hS7
      clear hP4 hD4 hS4
      subst hQ; exact W.vret hx hb hr (fun t ht hW => ⟨⟨(s_X11_setGains_8 S p0 p1), rfl, (show (s_X11_setGains_8 S p0 p1) = s_X11_setGains S p0 p1 from rfl), endW hP7 hK hD7 ht hW⟩, hS7.F ht⟩) hS7.2.2 dX11_setGains_42
    refine lv_if_eq (tgt := 42) hx hb dX11_setGains_29 (by decide) (fun c3_29 => ?_) (fun c3_29 => ?_)
    · exact J2_29 _ _ (va_asS (P := fun u => va_P D vwCl (wM a cZ cI u) H4) (show (s_X11_setGains_8 S p0 p1) = (s_X11_setGains_4 S p0 p1) from (if_pos c3_29)) hP4) (va_asS (P := fun u => va_D A (wM a cZ cI u)) (show (s_X11_setGains_8 S p0 p1) = (s_X11_setGains_4 S p0 p1) from (if_pos c3_29)) hD4) hS4
    · refine lv_aload_n hx hb dX11_setGains_32 rfl (lv_at hl0 0 rfl) ?_
      refine lv_iload_n hx hb dX11_setGains_33 rfl (lv_at hl0 1 rfl) ?_
      refine va_put (D := D) (ci := 11) (v := .int p0) (ty := .int) (C := RX11) (T := TX11) (N := 37) hx hb hts (fun _ h => List.mem_cons_of_mem _ (List.mem_append_right _ (h))) tyX11 tyX11_ok nmX11 hown hK hP4 hD4 hS4 0 rfl rfl 16 (by decide) (hts (.fieldLink RX11 31 "PhaselockModel" "gainP" "I") (List.mem_cons_of_mem _ (List.mem_append_left _ (List.mem_of_getElem? (i := 0) rfl)))) (fun _ h9 => h9) rfl (by decide +kernel) rfl rfl (Nat.le_of_ble_eq_true rfl) dX11_setGains_34 (fun H5 L5 hP5 hD5 hS5 => ?_)
      replace hP5 : va_P D vwCl (wM a cZ cI (s_X11_setGains_6 S p0 p1)) H5 := cvP (wM_s16 a cZ cI (s_X11_setGains_4 S p0 p1) p0) hP5
      replace hD5 : va_D A (wM a cZ cI (s_X11_setGains_6 S p0 p1)) := cvD (wM_s16 a cZ cI (s_X11_setGains_4 S p0 p1) p0) hD5
      clear hP4 hD4 hS4
      refine lv_aload_n hx hb dX11_setGains_37 rfl (lv_at hl0 0 rfl) ?_
      refine lv_iload_n hx hb dX11_setGains_38 rfl (lv_at hl0 2 rfl) ?_
      refine va_put (D := D) (ci := 11) (v := .int p1) (ty := .int) (C := RX11) (T := TX11) (N := 37) hx hb hts (fun _ h => List.mem_cons_of_mem _ (List.mem_append_right _ (h))) tyX11 tyX11_ok nmX11 hown hK hP5 hD5 hS5 0 rfl rfl 17 (by decide) (hts (.fieldLink RX11 34 "PhaselockModel" "gainI" "I") (List.mem_cons_of_mem _ (List.mem_append_left _ (List.mem_of_getElem? (i := 1) rfl)))) (fun _ h9 => h9) rfl (by decide +kernel) rfl rfl (Nat.le_of_ble_eq_true rfl) dX11_setGains_39 (fun H6 L6 hP6 hD6 hS6 => ?_)
      replace hP6 : va_P D vwCl (wM a cZ cI (s_X11_setGains_7 S p0 p1)) H6 := cvP (wM_s17 a cZ cI (s_X11_setGains_6 S p0 p1) p1) hP6
      replace hD6 : va_D A (wM a cZ cI (s_X11_setGains_7 S p0 p1)) := cvD (wM_s17 a cZ cI (s_X11_setGains_6 S p0 p1) p1) hD6
      clear hP5 hD5 hS5
      exact J2_29 _ _ (va_asS (P := fun u => va_P D vwCl (wM a cZ cI u) H6) (show (s_X11_setGains_8 S p0 p1) = (s_X11_setGains_7 S p0 p1) from (if_neg c3_29)) hP6) (va_asS (P := fun u => va_D A (wM a cZ cI u)) (show (s_X11_setGains_8 S p0 p1) = (s_X11_setGains_7 S p0 p1) from (if_neg c3_29)) hD6) hS6
  refine lv_if_eq (tgt := 25) hx hb dX11_setGains_8 (by decide) (fun c1_8 => ?_) (fun c1_8 => ?_)
  · refine lv_iconst (v := 1) hx hb dX11_setGains_25 (by decide) ?_
    refine lv_asi (y := (v_X11_setGains_3 S p0 p1)) (show (v_X11_setGains_3 S p0 p1) = 1 from (if_pos c1_8)).symm ?_
    exact J1_8 _ _ hP1 hD1 hS1
  · refine lv_iload_n hx hb dX11_setGains_11 rfl (lv_at hl0 2 rfl) ?_
    refine lv_iconst (v := 0) hx hb dX11_setGains_12 (by decide) ?_
    refine lv_bipush (v := 64) hx hb dX11_setGains_13 (by decide) ?_
    refine va_calli (va_runS (As := [.int p1, .int 0, .int 64]) (rest := [.ref (a 0)]) ⟨hx, hb, hml, hown, hts⟩ (k_X11_in l D a cZ cI S H1.size p1 0 64) (va_cwS 3 hts gX11_setGains_X11_in rfl rfl rfl (by decide +kernel) ⟨Nat.le_of_ble_eq_true rfl, Nat.le_of_ble_eq_true rfl⟩) ⟨blW okN_T, preW hP1 hK hD1 okN_T hN⟩ rfl rfl hl0.1 rfl (lv_room (Nat.le_of_ble_eq_true rfl)) dX11_setGains_15 ⟨Nat.zero_le _, Nat.zero_le _⟩) hS1 (aA_in hAc) (aA_free hAc hA hS1) (fun r2 u2 t2 H2 L2 ht2 hvm2 hw2 hB2 _ _ hS2 => ?_)
    obtain ⟨hP2, hD2⟩ := backW hB2 ht2 (aA_free hAc hA hS1)
    clear hB2 ht2 hvm2 t2
    obtain ⟨hu2, hr2⟩ := hw2
    subst u2; subst r2
    clear hP1 hD1 hS1
    refine lv_asi (y := (v_X11_setGains_2 S p0 p1)) rfl ?_
    refine lv_if_eq (tgt := 25) hx hb dX11_setGains_18 (by decide) (fun c2_18 => ?_) (fun c2_18 => ?_)
    · refine lv_iconst (v := 1) hx hb dX11_setGains_25 (by decide) ?_
      refine lv_asi (y := (v_X11_setGains_3 S p0 p1)) (show (v_X11_setGains_3 S p0 p1) = 1 from ((if_neg c1_8).trans (if_pos c2_18))).symm ?_
      exact J1_8 _ _ hP2 hD2 hS2
    · refine lv_iconst (v := 0) hx hb dX11_setGains_21 (by decide) ?_
      refine lv_goto (tgt := 26) hx hb dX11_setGains_22 (by decide) ?_
      refine lv_asi (y := (v_X11_setGains_3 S p0 p1)) (show (v_X11_setGains_3 S p0 p1) = 0 from ((if_neg c1_8).trans (if_neg c2_18))).symm ?_
      exact J1_8 _ _ hP2 hD2 hS2

def v_X11_setPhase_1 (S : St) (p0 : Int32) : Int32 := r_X11_in S p0 0 65535
def v_X11_setPhase_2 (S : St) (p0 : Int32) : Int32 := if (v_X11_setPhase_1 S p0) = 0 then 1 else 0
def s_X11_setPhase_3 (S : St) (p0 : Int32) : St := s_X11_holds S (v_X11_setPhase_2 S p0)
def v_X11_setPhase_4 (S : St) (p0 : Int32) : Int32 := r_X11_holds S (v_X11_setPhase_2 S p0)
def s_X11_setPhase_5 (S : St) (p0 : Int32) : St := si (s_X11_setPhase_3 S p0) 11 p0
def s_X11_setPhase (S : St) (p0 : Int32) : St := if (v_X11_setPhase_4 S p0) = 0 then (s_X11_setPhase_3 S p0) else (s_X11_setPhase_5 S p0)
def r_X11_setPhase (S : St) (p0 : Int32) : Int32 := if (v_X11_setPhase_4 S p0) = 0 then 0 else ((s_X11_setPhase_3 S p0).1 11)
def rm_X11_setPhase : Room := { frames := 1, cells := 0, slots := 0, locals := 22 }
set_option maxRecDepth 100000 in
set_option maxHeartbeats 4000000 in
theorem k_X11_setPhase (l : Launch) (D : va_G) (a : Nat → Nat) (cZ cI : ClassId) (S : St) (sz : Nat) (p0 : Int32) : Met l yX11_setPhase wsX11_setPhase rm_X11_setPhase (va_Pc [.ref (a 0), .int p0] (pW D (tyZI cZ cI) (wM a cZ cI S) sz nT)) (va_Qi (fun (r : Int32) (u : St) => u = s_X11_setPhase S p0 ∧ r = r_X11_setPhase S p0) (fun u t => oW D (tyZI cZ cI) (wM a cZ cI u) (aA (adM a) sz) t) (aA (adM a) sz)) 0 0 (aA (adM a) sz) := by
  refine Met.ofW (cc := cX11_setPhase) (maxL := 3) (ret := (some .int)) (by decide +kernel) rfl ?_
  intro p e s m args below meth c s₁ B hml hv
  obtain ⟨rfl, hsz, hP0, hK, hD9, hN⟩ := hv
  have hx := B.exec
  have hb := B.bytes
  have hr := B.returns
  have hts := atoms_spec (ws := wsX11_setPhase) B.pre
  have hown : s.vm.findClass RX11 = some m.cls := findClass_of_methodNamed B.named
  have hlocks := B.notSynchronized
  subst hsz
  have hD0 := aA_self (sz := s.heap.size) (as := adM a) hD9 rfl
  generalize hAe : aA (adM a) s.heap.size = A at hD0 ⊢
  have hA : ∀ q : Nat, s.heap.size ≤ q → A q := fun q h => by rw [← hAe]; exact Or.inr h
  have hAc : ∀ q : Nat, q ∈ adM a → A q := fun q h => by rw [← hAe]; exact Or.inl h
  have hS0 : va_S A s.heap s.heap [] := va_S.rf
  have hl0 := lv_entry ([.ref (a 0), .int p0]) (n := 3) (Nat.le_of_ble_eq_true rfl)
  rw [lg_entry_eq]
  generalize (lg_sl ([.ref (a 0), .int p0]) ++ List.replicate (3 - (lg_sl ([.ref (a 0), .int p0])).length) Slot.unset).toArray = ls0 at hl0 ⊢
  have hl0 : lv_has ls0 3 [(0, .ref (a 0)), (1, .int p0)] := hl0
  generalize hQ : MQ below _ _ s _ _ _ = Q
  clear hD9 B
  refine lv_aload_n hx hb dX11_setPhase_0 rfl (lv_at hl0 0 rfl) ?_
  refine lv_iload_n hx hb dX11_setPhase_1 rfl (lv_at hl0 1 rfl) ?_
  refine lv_iconst (v := 0) hx hb dX11_setPhase_2 (by decide) ?_
  refine lv_ldc (v := 65535) hx hb hown (hts (.constant RX11 23 (65535)) (List.mem_cons_of_mem _ (List.mem_append_left _ (List.mem_of_getElem? (i := 0) rfl)))) dX11_setPhase_3 ?_
  refine va_calli (va_runS (As := [.int p0, .int 0, .int 65535]) (rest := [.ref (a 0)]) ⟨hx, hb, hml, hown, hts⟩ (k_X11_in l D a cZ cI S s.heap.size p0 0 65535) (va_cwS 3 hts gX11_setPhase_X11_in rfl rfl rfl (by decide +kernel) ⟨Nat.le_of_ble_eq_true rfl, Nat.le_of_ble_eq_true rfl⟩) ⟨blW okN_T, preW hP0 hK hD0 okN_T hN⟩ rfl rfl hl0.1 rfl (lv_room (Nat.le_of_ble_eq_true rfl)) dX11_setPhase_5 ⟨Nat.zero_le _, Nat.zero_le _⟩) hS0 (aA_in hAc) (aA_free hAc hA hS0) (fun r1 u1 t1 H1 L1 ht1 hvm1 hw1 hB1 _ _ hS1 => ?_)
  obtain ⟨hP1, hD1⟩ := backW hB1 ht1 (aA_free hAc hA hS0)
  clear hB1 ht1 hvm1 t1
  obtain ⟨hu1, hr1⟩ := hw1
  subst u1; subst r1
  clear hP0 hD0 hS0
  refine lv_asi (y := (v_X11_setPhase_1 S p0)) rfl ?_
  have J1_8 : W p l e (headSpec wsX11_setPhase rm_X11_setPhase).room s m ([.ref (a 0), .int p0] : List Value).toArray below meth c H1 L1 0 0 Q (F0 m 16 ls0 [.int (v_X11_setPhase_2 S p0), .ref (a 0)]) := by
    refine va_calli (va_runV (As := [.int (v_X11_setPhase_2 S p0)]) (rest := []) ⟨hx, hb, hml, hown, hts⟩ (k_X11_holds l D a cZ cI S H1.size (v_X11_setPhase_2 S p0)) (cwV 1 hts gX11_setPhase_X11_holds rfl rfl rfl (by decide +kernel) ⟨Nat.le_of_ble_eq_true rfl, Nat.le_of_ble_eq_true rfl⟩) ⟨blW okN_T, va_recv hK hP1 (ci := 11) (q0 := 0) rfl rfl, preW hP1 hK hD1 okN_T hN⟩ rfl rfl hl0.1 rfl (lv_room (Nat.le_of_ble_eq_true rfl)) dX11_setPhase_16 ⟨Nat.zero_le _, Nat.zero_le _⟩) hS1 (aA_in hAc) (aA_free hAc hA hS1) (fun r2 u2 t2 H2 L2 ht2 hvm2 hw2 hB2 _ _ hS2 => ?_)
    obtain ⟨hP2, hD2⟩ := backW hB2 ht2 (aA_free hAc hA hS1)
    clear hB2 ht2 hvm2 t2
    obtain ⟨hu2, hr2⟩ := hw2
    subst u2; subst r2
    replace hP2 : va_P D vwCl (wM a cZ cI (s_X11_setPhase_3 S p0)) H2 := hP2
    replace hD2 : va_D A (wM a cZ cI (s_X11_setPhase_3 S p0)) := hD2
    clear hP1 hD1 hS1
    refine lv_asi (y := (v_X11_setPhase_4 S p0)) rfl ?_
    refine lv_if_ne (tgt := 24) hx hb dX11_setPhase_19 (by decide) (fun c2_19 => ?_) (fun c2_19 => ?_)
    · refine lv_aload_n hx hb dX11_setPhase_24 rfl (lv_at hl0 0 rfl) ?_
      refine va_get (D := D) (ci := 11) (v := .int ((s_X11_setPhase_3 S p0).1 11)) (C := RX11) (T := TX11) (N := 37) hx hb hts (fun _ h => List.mem_cons_of_mem _ (List.mem_append_right _ (h))) hown hK hP2 0 rfl rfl 11 (by decide) (hts (.fieldLink RX11 58 "PhaselockModel" "phase" "I") (List.mem_cons_of_mem _ (List.mem_append_left _ (List.mem_of_getElem? (i := 1) rfl)))) (fun _ h9 => h9) rfl dX11_setPhase_25 ?_
      refine lv_istore_n (lv' := [(2, .int ((s_X11_setPhase_3 S p0).1 11)), (0, .ref (a 0)), (1, .int p0)]) hx hb dX11_setPhase_28 rfl hl0 (by decide) rfl (fun ls1 hl1 => ?_)
      clear hl0
      refine lv_aload_n hx hb dX11_setPhase_29 rfl (lv_at hl1 1 rfl) ?_
      refine lv_iload_n hx hb dX11_setPhase_30 rfl (lv_at hl1 2 rfl) ?_
      refine va_put (D := D) (ci := 11) (v := .int p0) (ty := .int) (C := RX11) (T := TX11) (N := 37) hx hb hts (fun _ h => List.mem_cons_of_mem _ (List.mem_append_right _ (h))) tyX11 tyX11_ok nmX11 hown hK hP2 hD2 hS2 0 rfl rfl 11 (by decide) (hts (.fieldLink RX11 58 "PhaselockModel" "phase" "I") (List.mem_cons_of_mem _ (List.mem_append_left _ (List.mem_of_getElem? (i := 1) rfl)))) (fun _ h9 => h9) rfl (by decide +kernel) rfl rfl (Nat.le_of_ble_eq_true rfl) dX11_setPhase_31 (fun H3 L3 hP3 hD3 hS3 => ?_)
      replace hP3 : va_P D vwCl (wM a cZ cI (s_X11_setPhase_5 S p0)) H3 := cvP (wM_s11 a cZ cI (s_X11_setPhase_3 S p0) p0) hP3
      replace hD3 : va_D A (wM a cZ cI (s_X11_setPhase_5 S p0)) := cvD (wM_s11 a cZ cI (s_X11_setPhase_3 S p0) p0) hD3
      clear hP2 hD2 hS2
      refine lv_iload_n hx hb dX11_setPhase_34 rfl (lv_at hl1 0 rfl) ?_
      subst hQ; exact W.iret (v := ((s_X11_setPhase_3 S p0).1 11)) hx hb hr (fun t ht hW => ⟨⟨((s_X11_setPhase_3 S p0).1 11), (s_X11_setPhase_5 S p0), rfl, ⟨(show (s_X11_setPhase_5 S p0) = s_X11_setPhase S p0 from (if_neg c2_19).symm), (show ((s_X11_setPhase_3 S p0).1 11) = r_X11_setPhase S p0 from (if_neg c2_19).symm)⟩, endW hP3 hK hD3 ht hW⟩, hS3.F ht⟩) hS3.2.2 dX11_setPhase_35
    · refine lv_iconst (v := 0) hx hb dX11_setPhase_22 (by decide) ?_
      subst hQ; exact W.iret (v := 0) hx hb hr (fun t ht hW => ⟨⟨0, (s_X11_setPhase_3 S p0), rfl, ⟨(show (s_X11_setPhase_3 S p0) = s_X11_setPhase S p0 from (if_pos c2_19).symm), (show 0 = r_X11_setPhase S p0 from (if_pos c2_19).symm)⟩, endW hP2 hK hD2 ht hW⟩, hS2.F ht⟩) hS2.2.2 dX11_setPhase_23
  refine lv_if_eq (tgt := 15) hx hb dX11_setPhase_8 (by decide) (fun c1_8 => ?_) (fun c1_8 => ?_)
  · refine lv_iconst (v := 1) hx hb dX11_setPhase_15 (by decide) ?_
    refine lv_asi (y := (v_X11_setPhase_2 S p0)) (show (v_X11_setPhase_2 S p0) = 1 from (if_pos c1_8)).symm ?_
    exact J1_8
  · refine lv_iconst (v := 0) hx hb dX11_setPhase_11 (by decide) ?_
    refine lv_goto (tgt := 16) hx hb dX11_setPhase_12 (by decide) ?_
    refine lv_asi (y := (v_X11_setPhase_2 S p0)) (show (v_X11_setPhase_2 S p0) = 0 from (if_neg c1_8)).symm ?_
    exact J1_8
