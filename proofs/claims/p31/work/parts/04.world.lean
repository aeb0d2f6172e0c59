/-! the worlds of the class and of its check, by one numbering of the state: S.1 k the ints, S.2.1 the random state, S.2.2.1 the edges, S.2.2.2 the phases -/
abbrev St : Type := (Nat → Int32) × Int64 × (Nat → Int32) × (Nat → Int32)
def si (S : St) (k : Nat) (v : Int32) : St := (upd S.1 k v, S.2.1, S.2.2.1, S.2.2.2)
def sr (S : St) (r : Int64) : St := (S.1, r, S.2.2.1, S.2.2.2)
def sg (S : St) (i : Nat) (v : Int32) : St := (S.1, S.2.1, upd S.2.2.1 i v, S.2.2.2)
def sf (S : St) (i : Nat) (v : Int32) : St := (S.1, S.2.1, S.2.2.1, upd S.2.2.2 i v)
theorem si_at (S : St) (k : Nat) (v : Int32) : (si S k v).1 k = v := if_pos rfl
theorem si_ne {S : St} {k j : Nat} {v : Int32} (h : k ≠ j) : (si S j v).1 k = S.1 k := if_neg h
abbrev tyZI (cZ cI : ClassId) : List (ClassId × FieldType) := [(cZ, .boolean), (cI, .int)]
def wP (a : Nat → Nat) (cZ cI : ClassId) (S : St) : va_W := [(a 0, .inr (10, [.ref (a 1), .ref (a 2), .ref (a 3), .ref (a 4), .ref (a 5), .ref (a 6), .ref (a 7), .ref (a 8), .ref (a 9), .ref (a 10)])), (a 1, .inr (9, [.int (S.1 1), .int (S.1 2), .int (S.1 3), .long S.2.1, .int (S.1 5), .int (S.1 7), .int (S.1 6)])), (a 2, .inr (3, [.int (S.1 8)])), (a 3, .inr (2, [.int (S.1 9), .ref (a 11)])), (a 4, .inr (5, [.int (S.1 11)])), (a 5, .inr (6, [.int (S.1 15), .int (S.1 18), .int (S.1 19), .int (S.1 20), .int (S.1 21), .int (S.1 22), .int (S.1 23)])), (a 6, .inr (4, [.int (S.1 16), .int (S.1 17), .int (S.1 14), .int (S.1 13), .int (S.1 12)])), (a 7, .inr (1, [.int (S.1 24), .int (S.1 25)])), (a 8, .inr (8, [.int (S.1 27), .int (S.1 28), .int (S.1 40), .int (S.1 26)])), (a 9, .inr (7, [.int (S.1 41), .int (S.1 42), .int (S.1 43), .ref (a 12)])), (a 10, .inr (0, [.int (S.1 31), .int (S.1 35), .int (S.1 36), .int (S.1 44), .int (S.1 45), .int (S.1 46)])), (a 11, .inl (cZ, 256, .inl S.2.2.1)), (a 12, .inl (cI, 32, .inl S.2.2.2))]
def adP (a : Nat → Nat) : List Nat := [a 0, a 1, a 2, a 3, a 4, a 5, a 6, a 7, a 8, a 9, a 10, a 11, a 12]
def adM (a : Nat → Nat) : List Nat := [a 0, a 1, a 2]
theorem cvP {D : va_G} {ws ws2 : va_W} {H : Heap} (e : ws = ws2) (h : va_P D vwCl ws H) : va_P D vwCl ws2 H := e ▸ h
theorem cvD {A : Nat → Prop} {ws ws2 : va_W} (e : ws = ws2) (h : va_D A ws) : va_D A ws2 := e ▸ h
theorem wP_s1 (a : Nat → Nat) (cZ cI : ClassId) (S : St) (v : Int32) : (wP a cZ cI S).set 1 (a 1, .inr (9, ([.int (S.1 1), .int (S.1 2), .int (S.1 3), .long S.2.1, .int (S.1 5), .int (S.1 7), .int (S.1 6)] : List Value).set 0 (.int v))) = wP a cZ cI (si S 1 v) := rfl
theorem wP_s2 (a : Nat → Nat) (cZ cI : ClassId) (S : St) (v : Int32) : (wP a cZ cI S).set 1 (a 1, .inr (9, ([.int (S.1 1), .int (S.1 2), .int (S.1 3), .long S.2.1, .int (S.1 5), .int (S.1 7), .int (S.1 6)] : List Value).set 1 (.int v))) = wP a cZ cI (si S 2 v) := rfl
theorem wP_s3 (a : Nat → Nat) (cZ cI : ClassId) (S : St) (v : Int32) : (wP a cZ cI S).set 1 (a 1, .inr (9, ([.int (S.1 1), .int (S.1 2), .int (S.1 3), .long S.2.1, .int (S.1 5), .int (S.1 7), .int (S.1 6)] : List Value).set 2 (.int v))) = wP a cZ cI (si S 3 v) := rfl
theorem wP_sR (a : Nat → Nat) (cZ cI : ClassId) (S : St) (v : Int64) : (wP a cZ cI S).set 1 (a 1, .inr (9, ([.int (S.1 1), .int (S.1 2), .int (S.1 3), .long S.2.1, .int (S.1 5), .int (S.1 7), .int (S.1 6)] : List Value).set 3 (.long v))) = wP a cZ cI (sr S v) := rfl
theorem wP_s5 (a : Nat → Nat) (cZ cI : ClassId) (S : St) (v : Int32) : (wP a cZ cI S).set 1 (a 1, .inr (9, ([.int (S.1 1), .int (S.1 2), .int (S.1 3), .long S.2.1, .int (S.1 5), .int (S.1 7), .int (S.1 6)] : List Value).set 4 (.int v))) = wP a cZ cI (si S 5 v) := rfl
theorem wP_s7 (a : Nat → Nat) (cZ cI : ClassId) (S : St) (v : Int32) : (wP a cZ cI S).set 1 (a 1, .inr (9, ([.int (S.1 1), .int (S.1 2), .int (S.1 3), .long S.2.1, .int (S.1 5), .int (S.1 7), .int (S.1 6)] : List Value).set 5 (.int v))) = wP a cZ cI (si S 7 v) := rfl
theorem wP_s6 (a : Nat → Nat) (cZ cI : ClassId) (S : St) (v : Int32) : (wP a cZ cI S).set 1 (a 1, .inr (9, ([.int (S.1 1), .int (S.1 2), .int (S.1 3), .long S.2.1, .int (S.1 5), .int (S.1 7), .int (S.1 6)] : List Value).set 6 (.int v))) = wP a cZ cI (si S 6 v) := rfl
theorem wP_s8 (a : Nat → Nat) (cZ cI : ClassId) (S : St) (v : Int32) : (wP a cZ cI S).set 2 (a 2, .inr (3, ([.int (S.1 8)] : List Value).set 0 (.int v))) = wP a cZ cI (si S 8 v) := rfl
theorem wP_s9 (a : Nat → Nat) (cZ cI : ClassId) (S : St) (v : Int32) : (wP a cZ cI S).set 3 (a 3, .inr (2, ([.int (S.1 9), .ref (a 11)] : List Value).set 0 (.int v))) = wP a cZ cI (si S 9 v) := rfl
theorem wP_s11 (a : Nat → Nat) (cZ cI : ClassId) (S : St) (v : Int32) : (wP a cZ cI S).set 4 (a 4, .inr (5, ([.int (S.1 11)] : List Value).set 0 (.int v))) = wP a cZ cI (si S 11 v) := rfl
theorem wP_s15 (a : Nat → Nat) (cZ cI : ClassId) (S : St) (v : Int32) : (wP a cZ cI S).set 5 (a 5, .inr (6, ([.int (S.1 15), .int (S.1 18), .int (S.1 19), .int (S.1 20), .int (S.1 21), .int (S.1 22), .int (S.1 23)] : List Value).set 0 (.int v))) = wP a cZ cI (si S 15 v) := rfl
theorem wP_s18 (a : Nat → Nat) (cZ cI : ClassId) (S : St) (v : Int32) : (wP a cZ cI S).set 5 (a 5, .inr (6, ([.int (S.1 15), .int (S.1 18), .int (S.1 19), .int (S.1 20), .int (S.1 21), .int (S.1 22), .int (S.1 23)] : List Value).set 1 (.int v))) = wP a cZ cI (si S 18 v) := rfl
theorem wP_s19 (a : Nat → Nat) (cZ cI : ClassId) (S : St) (v : Int32) : (wP a cZ cI S).set 5 (a 5, .inr (6, ([.int (S.1 15), .int (S.1 18), .int (S.1 19), .int (S.1 20), .int (S.1 21), .int (S.1 22), .int (S.1 23)] : List Value).set 2 (.int v))) = wP a cZ cI (si S 19 v) := rfl
theorem wP_s20 (a : Nat → Nat) (cZ cI : ClassId) (S : St) (v : Int32) : (wP a cZ cI S).set 5 (a 5, .inr (6, ([.int (S.1 15), .int (S.1 18), .int (S.1 19), .int (S.1 20), .int (S.1 21), .int (S.1 22), .int (S.1 23)] : List Value).set 3 (.int v))) = wP a cZ cI (si S 20 v) := rfl
theorem wP_s21 (a : Nat → Nat) (cZ cI : ClassId) (S : St) (v : Int32) : (wP a cZ cI S).set 5 (a 5, .inr (6, ([.int (S.1 15), .int (S.1 18), .int (S.1 19), .int (S.1 20), .int (S.1 21), .int (S.1 22), .int (S.1 23)] : List Value).set 4 (.int v))) = wP a cZ cI (si S 21 v) := rfl
theorem wP_s22 (a : Nat → Nat) (cZ cI : ClassId) (S : St) (v : Int32) : (wP a cZ cI S).set 5 (a 5, .inr (6, ([.int (S.1 15), .int (S.1 18), .int (S.1 19), .int (S.1 20), .int (S.1 21), .int (S.1 22), .int (S.1 23)] : List Value).set 5 (.int v))) = wP a cZ cI (si S 22 v) := rfl
theorem wP_s23 (a : Nat → Nat) (cZ cI : ClassId) (S : St) (v : Int32) : (wP a cZ cI S).set 5 (a 5, .inr (6, ([.int (S.1 15), .int (S.1 18), .int (S.1 19), .int (S.1 20), .int (S.1 21), .int (S.1 22), .int (S.1 23)] : List Value).set 6 (.int v))) = wP a cZ cI (si S 23 v) := rfl
theorem wP_s16 (a : Nat → Nat) (cZ cI : ClassId) (S : St) (v : Int32) : (wP a cZ cI S).set 6 (a 6, .inr (4, ([.int (S.1 16), .int (S.1 17), .int (S.1 14), .int (S.1 13), .int (S.1 12)] : List Value).set 0 (.int v))) = wP a cZ cI (si S 16 v) := rfl
theorem wP_s17 (a : Nat → Nat) (cZ cI : ClassId) (S : St) (v : Int32) : (wP a cZ cI S).set 6 (a 6, .inr (4, ([.int (S.1 16), .int (S.1 17), .int (S.1 14), .int (S.1 13), .int (S.1 12)] : List Value).set 1 (.int v))) = wP a cZ cI (si S 17 v) := rfl
theorem wP_s14 (a : Nat → Nat) (cZ cI : ClassId) (S : St) (v : Int32) : (wP a cZ cI S).set 6 (a 6, .inr (4, ([.int (S.1 16), .int (S.1 17), .int (S.1 14), .int (S.1 13), .int (S.1 12)] : List Value).set 2 (.int v))) = wP a cZ cI (si S 14 v) := rfl
theorem wP_s13 (a : Nat → Nat) (cZ cI : ClassId) (S : St) (v : Int32) : (wP a cZ cI S).set 6 (a 6, .inr (4, ([.int (S.1 16), .int (S.1 17), .int (S.1 14), .int (S.1 13), .int (S.1 12)] : List Value).set 3 (.int v))) = wP a cZ cI (si S 13 v) := rfl
theorem wP_s12 (a : Nat → Nat) (cZ cI : ClassId) (S : St) (v : Int32) : (wP a cZ cI S).set 6 (a 6, .inr (4, ([.int (S.1 16), .int (S.1 17), .int (S.1 14), .int (S.1 13), .int (S.1 12)] : List Value).set 4 (.int v))) = wP a cZ cI (si S 12 v) := rfl
theorem wP_s24 (a : Nat → Nat) (cZ cI : ClassId) (S : St) (v : Int32) : (wP a cZ cI S).set 7 (a 7, .inr (1, ([.int (S.1 24), .int (S.1 25)] : List Value).set 0 (.int v))) = wP a cZ cI (si S 24 v) := rfl
theorem wP_s25 (a : Nat → Nat) (cZ cI : ClassId) (S : St) (v : Int32) : (wP a cZ cI S).set 7 (a 7, .inr (1, ([.int (S.1 24), .int (S.1 25)] : List Value).set 1 (.int v))) = wP a cZ cI (si S 25 v) := rfl
theorem wP_s27 (a : Nat → Nat) (cZ cI : ClassId) (S : St) (v : Int32) : (wP a cZ cI S).set 8 (a 8, .inr (8, ([.int (S.1 27), .int (S.1 28), .int (S.1 40), .int (S.1 26)] : List Value).set 0 (.int v))) = wP a cZ cI (si S 27 v) := rfl
theorem wP_s28 (a : Nat → Nat) (cZ cI : ClassId) (S : St) (v : Int32) : (wP a cZ cI S).set 8 (a 8, .inr (8, ([.int (S.1 27), .int (S.1 28), .int (S.1 40), .int (S.1 26)] : List Value).set 1 (.int v))) = wP a cZ cI (si S 28 v) := rfl
theorem wP_s40 (a : Nat → Nat) (cZ cI : ClassId) (S : St) (v : Int32) : (wP a cZ cI S).set 8 (a 8, .inr (8, ([.int (S.1 27), .int (S.1 28), .int (S.1 40), .int (S.1 26)] : List Value).set 2 (.int v))) = wP a cZ cI (si S 40 v) := rfl
theorem wP_s26 (a : Nat → Nat) (cZ cI : ClassId) (S : St) (v : Int32) : (wP a cZ cI S).set 8 (a 8, .inr (8, ([.int (S.1 27), .int (S.1 28), .int (S.1 40), .int (S.1 26)] : List Value).set 3 (.int v))) = wP a cZ cI (si S 26 v) := rfl
theorem wP_s41 (a : Nat → Nat) (cZ cI : ClassId) (S : St) (v : Int32) : (wP a cZ cI S).set 9 (a 9, .inr (7, ([.int (S.1 41), .int (S.1 42), .int (S.1 43), .ref (a 12)] : List Value).set 0 (.int v))) = wP a cZ cI (si S 41 v) := rfl
theorem wP_s42 (a : Nat → Nat) (cZ cI : ClassId) (S : St) (v : Int32) : (wP a cZ cI S).set 9 (a 9, .inr (7, ([.int (S.1 41), .int (S.1 42), .int (S.1 43), .ref (a 12)] : List Value).set 1 (.int v))) = wP a cZ cI (si S 42 v) := rfl
theorem wP_s43 (a : Nat → Nat) (cZ cI : ClassId) (S : St) (v : Int32) : (wP a cZ cI S).set 9 (a 9, .inr (7, ([.int (S.1 41), .int (S.1 42), .int (S.1 43), .ref (a 12)] : List Value).set 2 (.int v))) = wP a cZ cI (si S 43 v) := rfl
theorem wP_s31 (a : Nat → Nat) (cZ cI : ClassId) (S : St) (v : Int32) : (wP a cZ cI S).set 10 (a 10, .inr (0, ([.int (S.1 31), .int (S.1 35), .int (S.1 36), .int (S.1 44), .int (S.1 45), .int (S.1 46)] : List Value).set 0 (.int v))) = wP a cZ cI (si S 31 v) := rfl
theorem wP_s35 (a : Nat → Nat) (cZ cI : ClassId) (S : St) (v : Int32) : (wP a cZ cI S).set 10 (a 10, .inr (0, ([.int (S.1 31), .int (S.1 35), .int (S.1 36), .int (S.1 44), .int (S.1 45), .int (S.1 46)] : List Value).set 1 (.int v))) = wP a cZ cI (si S 35 v) := rfl
theorem wP_s36 (a : Nat → Nat) (cZ cI : ClassId) (S : St) (v : Int32) : (wP a cZ cI S).set 10 (a 10, .inr (0, ([.int (S.1 31), .int (S.1 35), .int (S.1 36), .int (S.1 44), .int (S.1 45), .int (S.1 46)] : List Value).set 2 (.int v))) = wP a cZ cI (si S 36 v) := rfl
theorem wP_s44 (a : Nat → Nat) (cZ cI : ClassId) (S : St) (v : Int32) : (wP a cZ cI S).set 10 (a 10, .inr (0, ([.int (S.1 31), .int (S.1 35), .int (S.1 36), .int (S.1 44), .int (S.1 45), .int (S.1 46)] : List Value).set 3 (.int v))) = wP a cZ cI (si S 44 v) := rfl
theorem wP_s45 (a : Nat → Nat) (cZ cI : ClassId) (S : St) (v : Int32) : (wP a cZ cI S).set 10 (a 10, .inr (0, ([.int (S.1 31), .int (S.1 35), .int (S.1 36), .int (S.1 44), .int (S.1 45), .int (S.1 46)] : List Value).set 4 (.int v))) = wP a cZ cI (si S 45 v) := rfl
theorem wP_s46 (a : Nat → Nat) (cZ cI : ClassId) (S : St) (v : Int32) : (wP a cZ cI S).set 10 (a 10, .inr (0, ([.int (S.1 31), .int (S.1 35), .int (S.1 36), .int (S.1 44), .int (S.1 45), .int (S.1 46)] : List Value).set 5 (.int v))) = wP a cZ cI (si S 46 v) := rfl
theorem wP_g (a : Nat → Nat) (cZ cI : ClassId) (S : St) (i : Nat) (v : Int32) : (wP a cZ cI S).set 11 (a 11, .inl (cZ, 256, .inl (upd S.2.2.1 i v))) = wP a cZ cI (sg S i v) := rfl
theorem wP_f (a : Nat → Nat) (cZ cI : ClassId) (S : St) (i : Nat) (v : Int32) : (wP a cZ cI S).set 12 (a 12, .inl (cI, 32, .inl (upd S.2.2.2 i v))) = wP a cZ cI (sf S i v) := rfl
/-- the cells that a method may change: those at the addresses as, and the new ones -/
def aA (as : List Nat) (sz : Nat) : Nat → Prop := fun q => q ∈ as ∨ sz ≤ q
def pW (D : va_G) (T : List (ClassId × FieldType)) (ws : va_W) (sz : Nat) (N : State → Prop) (U : State) : Prop := U.heap.size = sz ∧ va_P D vwCl ws U.heap ∧ va_K D vwCl T U ∧ va_D (fun _ => True) ws ∧ N U
def oW (D : va_G) (T : List (ClassId × FieldType)) (ws : va_W) (A : Nat → Prop) (t : State) : Prop := va_P D vwCl ws t.heap ∧ va_K D vwCl T t ∧ va_D A ws
/-- the links of the nest's calls of isWithin -/
def nP (U : State) : Prop := va_Nw (.methodLinkNest RX6 41 yX10_isWithin RX10) U ∧ va_Nw (.methodLinkNest RX7 25 yX10_isWithin RX10) U ∧ va_Nw (.methodLinkNest RX1 24 yX10_isWithin RX10) U
def nT (_ : State) : Prop := True
def okN (N : State → Prop) : Prop := (∀ u U : State, u.vm = U.vm → N u → N U) ∧ ∀ s U : State, s.WarmedH U.vm → N s → N U
theorem okN_P : okN nP := ⟨fun _ _ h q => ⟨va_Nw.same rfl h q.1, va_Nw.same rfl h q.2.1, va_Nw.same rfl h q.2.2⟩, fun _ _ hW q => ⟨va_Nw.warmM hW q.1, va_Nw.warmM hW q.2.1, va_Nw.warmM hW q.2.2⟩⟩
theorem okN_T : okN nT := ⟨fun _ _ _ _ => trivial, fun _ _ _ _ => trivial⟩
theorem blW {av : List Value} {D : va_G} {T : List (ClassId × FieldType)} {ws : va_W} {sz : Nat} {N : State → Prop} (hN : okN N) : FrameBlind (va_Pc av (pW D T ws sz N)) := fun a U g mk q => by
  obtain ⟨q0, q1, qP, qK, qD, qN⟩ := q
  exact ⟨q0, q1, qP, va_K.moved (u := U) (U := U.calling g mk a) (Vm.Alike.refl U.vm) qK, qD, hN.1 U _ rfl qN⟩
theorem preW {av : List Value} {D : va_G} {T : List (ClassId × FieldType)} {ws : va_W} {N : State → Prop} {A : Nat → Prop} {H : Heap} {s : State} (hP : va_P D vwCl ws H) (hK : va_K D vwCl T s) (hD : va_D A ws) (hN : okN N) (n : N s) : ∀ U : State, U.heap = H → s.WarmedH U.vm → va_Pc av (pW D T ws H.size N) av.toArray U := fun U hU hW => ⟨rfl, by rw [hU], by rw [hU]; exact hP, va_K.moved hW.alike hK, hD.weaken (fun _ _ _ _ => trivial), hN.2 s U hW n⟩
theorem aA_self {ws : va_W} {sz : Nat} {as : List Nat} (h : va_D (fun _ => True) ws) (e : ws.map (fun q => q.1) = as) : va_D (aA as sz) ws := ⟨h.1, fun _ _ hk => Or.inl (by rw [← e]; exact List.mem_map_of_mem (List.mem_of_getElem? hk))⟩
theorem aA_in {as : List Nat} {A : Nat → Prop} {H : Heap} (hAc : ∀ q : Nat, q ∈ as → A q) : ∀ q : Nat, q < H.size → aA as H.size q → A q := fun q h1 h2 => h2.elim (hAc q) (fun h => absurd h1 (Nat.not_lt.mpr h))
theorem aA_free {as : List Nat} {A : Nat → Prop} {H0 H : Heap} {locs : List Loc} (hAc : ∀ q : Nat, q ∈ as → A q) (hA : ∀ q : Nat, H0.size ≤ q → A q) (hS : va_S A H0 H locs) : ∀ q : Nat, aA as H.size q → A q := fun q h => h.elim (hAc q) (fun h => hA q (Nat.le_trans hS.1 h))
theorem backW {D : va_G} {T : List (ClassId × FieldType)} {ws : va_W} {A1 A : Nat → Prop} {t : State} {H : Heap} (h : oW D T ws A1 t) (ht : t.heap = H) (hA : ∀ q : Nat, A1 q → A q) : va_P D vwCl ws H ∧ va_D A ws := ⟨by rw [← ht]; exact h.1, h.2.2.weaken (fun _ _ _ h => hA _ h)⟩
theorem endW {D : va_G} {T : List (ClassId × FieldType)} {ws : va_W} {A : Nat → Prop} {s t : State} {H : Heap} (hP : va_P D vwCl ws H) (hK : va_K D vwCl T s) (hD : va_D A ws) (ht : t.heap = H) (hW : s.WarmedH t.vm) : oW D T ws A t := ⟨by rw [ht]; exact hP, va_K.moved hW.alike hK, hD⟩
/-- what a throw needs of the tables besides: the casts of the three exceptions, the texts -/
def nX (U : State) : Prop := nP U ∧ va_Nw (.castable "java/lang/IllegalArgumentException" "java/lang/IllegalArgumentException") U ∧ va_Nw (.castable "java/lang/IndexOutOfBoundsException" "java/lang/IndexOutOfBoundsException") U ∧ va_Nw (.castable "java/lang/IllegalStateException" "java/lang/IllegalStateException") U ∧ (∃ sa, vk_R RX10 85 "offset is out of range" sa U) ∧ (∃ sa, vk_R RX10 94 "jitter is out of range" sa U) ∧ (∃ sa, vk_R RX10 96 "seed is out of range" sa U) ∧ (∃ sa, vk_R RX10 105 "detector is out of range" sa U) ∧ (∃ sa, vk_R RX10 110 "p is out of range" sa U) ∧ (∃ sa, vk_R RX10 112 "i is out of range" sa U) ∧ (∃ sa, vk_R RX10 121 "phase is out of range" sa U) ∧ (∃ sa, vk_R RX10 132 "ticks is out of range" sa U) ∧ (∃ sa, vk_R RX10 163 "there is no such bit" sa U) ∧ (∃ sa, vk_R RX10 173 "there was no data strobe" sa U) ∧ (∃ sa, vk_R RX10 204 "remainder is out of range" sa U)
theorem str_85 {U : State} (h : nX U) : ∃ sa, vk_R RX10 85 "offset is out of range" sa U := h.2.2.2.2.1
theorem str_94 {U : State} (h : nX U) : ∃ sa, vk_R RX10 94 "jitter is out of range" sa U := h.2.2.2.2.2.1
theorem str_96 {U : State} (h : nX U) : ∃ sa, vk_R RX10 96 "seed is out of range" sa U := h.2.2.2.2.2.2.1
theorem str_105 {U : State} (h : nX U) : ∃ sa, vk_R RX10 105 "detector is out of range" sa U := h.2.2.2.2.2.2.2.1
theorem str_110 {U : State} (h : nX U) : ∃ sa, vk_R RX10 110 "p is out of range" sa U := h.2.2.2.2.2.2.2.2.1
theorem str_112 {U : State} (h : nX U) : ∃ sa, vk_R RX10 112 "i is out of range" sa U := h.2.2.2.2.2.2.2.2.2.1
theorem str_121 {U : State} (h : nX U) : ∃ sa, vk_R RX10 121 "phase is out of range" sa U := h.2.2.2.2.2.2.2.2.2.2.1
theorem str_132 {U : State} (h : nX U) : ∃ sa, vk_R RX10 132 "ticks is out of range" sa U := h.2.2.2.2.2.2.2.2.2.2.2.1
theorem str_163 {U : State} (h : nX U) : ∃ sa, vk_R RX10 163 "there is no such bit" sa U := h.2.2.2.2.2.2.2.2.2.2.2.2.1
theorem str_173 {U : State} (h : nX U) : ∃ sa, vk_R RX10 173 "there was no data strobe" sa U := h.2.2.2.2.2.2.2.2.2.2.2.2.2.1
theorem str_204 {U : State} (h : nX U) : ∃ sa, vk_R RX10 204 "remainder is out of range" sa U := h.2.2.2.2.2.2.2.2.2.2.2.2.2.2
theorem ex_same {own tx : String} {k : Nat} {u U : State} (hv : u.vm = U.vm) (h : ∃ sa, vk_R own k tx sa u) : ∃ sa, vk_R own k tx sa U := h.elim fun sa q => ⟨sa, vk_R.same hv.symm q⟩
theorem ex_warm {own tx : String} {k : Nat} {s U : State} (hW : s.WarmedH U.vm) (h : ∃ sa, vk_R own k tx sa s) : ∃ sa, vk_R own k tx sa U := h.elim fun sa q => ⟨sa, vk_R.warm hW q⟩
theorem okN_X : okN nX := by
  refine ⟨fun u U h q => ?_, fun s U hW q => ?_⟩
  · obtain ⟨a0, a1, a2, a3, b0, b1, b2, b3, b4, b5, b6, b7, b8, b9, b10⟩ := q
    exact ⟨okN_P.1 u U h a0, va_Nw.same rfl h a1, va_Nw.same rfl h a2, va_Nw.same rfl h a3, ex_same h b0, ex_same h b1, ex_same h b2, ex_same h b3, ex_same h b4, ex_same h b5, ex_same h b6, ex_same h b7, ex_same h b8, ex_same h b9, ex_same h b10⟩
  · obtain ⟨a0, a1, a2, a3, b0, b1, b2, b3, b4, b5, b6, b7, b8, b9, b10⟩ := q
    exact ⟨okN_P.2 s U hW a0, va_Nw.warmC hW a1, va_Nw.warmC hW a2, va_Nw.warmC hW a3, ex_warm hW b0, ex_warm hW b1, ex_warm hW b2, ex_warm hW b3, ex_warm hW b4, ex_warm hW b5, ex_warm hW b6, ex_warm hW b7, ex_warm hW b8, ex_warm hW b9, ex_warm hW b10⟩
/-- Throwable's two statics lie outside A -/
def xZ (A : Nat → Prop) (U : State) (H : Heap) : Prop := vx_Zq Bundle.tN "UNASSIGNED_STACK" Bundle.steD A U H ∧ vx_Zq Bundle.tN "SUPPRESSED_SENTINEL" Bundle.listD A U H
def pX (D : va_G) (T : List (ClassId × FieldType)) (ws : va_W) (sz : Nat) (as : List Nat) (U : State) : Prop := pW D T ws sz nX U ∧ xZ (aA as sz) U U.heap
theorem xZ.moved {A : Nat → Prop} {u U : State} {H : Heap} (hvm : u.vm.Alike U.vm) (h : xZ A u H) : xZ A U H := ⟨h.1.moved hvm, h.2.moved hvm⟩
theorem xZ.kept {A : Nat → Prop} {U : State} {H H1 : Heap} (h : xZ A U H) (hq : ∀ a : Nat, a < H.size → ¬ A a → H1[a]? = H[a]?) : xZ A U H1 := ⟨h.1.kept hq, h.2.kept hq⟩
theorem xZ.narrow {A B : Nat → Prop} {U : State} {H : Heap} (h : xZ A U H) (hAB : ∀ q, B q → A q) : xZ B U H := ⟨h.1.narrow hAB, h.2.narrow hAB⟩
theorem blX {av : List Value} {D : va_G} {T : List (ClassId × FieldType)} {ws : va_W} {sz : Nat} {as : List Nat} : FrameBlind (va_Pc av (pX D T ws sz as)) := fun a U g mk q => by
  obtain ⟨q0, qW, qZ⟩ := q
  exact ⟨q0, (blW (av := av) okN_X a U g mk ⟨q0, qW⟩).2, xZ.moved (u := U) (U := U.calling g mk a) (Vm.Alike.refl U.vm) qZ⟩
theorem preX {av : List Value} {D : va_G} {T : List (ClassId × FieldType)} {ws : va_W} {as : List Nat} {A : Nat → Prop} {H : Heap} {s : State} {locs : List Loc} (hP : va_P D vwCl ws H) (hK : va_K D vwCl T s) (hD : va_D A ws) (n : nX s) (hZ : xZ A s s.heap) (hS : va_S A s.heap H locs) (hf : ∀ q : Nat, aA as H.size q → A q) : ∀ U : State, U.heap = H → s.WarmedH U.vm → va_Pc av (pX D T ws H.size as) av.toArray U := fun U hU hW => ⟨rfl, (preW (av := av) hP hK hD okN_X n U hU hW).2, by
  rw [hU]
  exact ((hZ.kept (fun a h1 h2 => hS.2.1 a h1 h2)).moved hW.alike).narrow hf⟩
/-- the end of a throw, in the world that stands -/
theorem thrW {px : St → Prop} {D : va_G} {T : List (ClassId × FieldType)} {P0 : St → va_W} {A : Nat → Prop} {H : Heap} {s t : State} {locs : List Loc} {S : St} {E : String} (hp : px S) (hP : va_P D vwCl (P0 S) H) (hK : va_K D vwCl T s) (hD : va_D A (P0 S)) (hS : va_S A s.heap H locs) (hvm : s.vm.Alike t.vm) (hsz : H.size < t.heap.size) (hkp : ∀ q : Nat, q < H.size → t.heap[q]? = H[q]?) : vx_X px (fun E' u t => E' = E ∧ oW D T (P0 u) A t ∧ s.heap.size < t.heap.size) A E s t :=
  ⟨S, hp, ⟨rfl, ⟨hP.kept (fun k q hk => hkp q.1 (hP k q hk).lt), va_K.moved hvm hK, hD⟩, Nat.lt_of_le_of_lt hS.1 hsz⟩, Nat.le_trans hS.1 (Nat.le_of_lt hsz), fun q h1 h2 => (hkp q (Nat.lt_of_lt_of_le h1 hS.1)).trans (hS.2.1 q h1 h2)⟩
theorem va_asS {P : St → Prop} {u v : St} (e : u = v) (h : P v) : P u := e ▸ h
section AS
variable {p : Program} {l : Launch} {e : Env} {R : Room} {s : State} {m : MethodId} {args : Array Value} {below : List Frame} {meth : Method} {c : Code} {H : Heap} {locs : List Loc} {cells slots : Nat} {Q : State → Prop} {pc : Nat} {ls : Array Slot} {rest : List Value}
theorem lv_asi {x y : Int32} (h : x = y) (k : W p l e R s m args below meth c H locs cells slots Q (F0 m pc ls (.int y :: rest))) : W p l e R s m args below meth c H locs cells slots Q (F0 m pc ls (.int x :: rest)) := h ▸ k
theorem lv_asl {x y : Int64} (h : x = y) (k : W p l e R s m args below meth c H locs cells slots Q (F0 m pc ls (.long y :: rest))) : W p l e R s m args below meth c H locs cells slots Q (F0 m pc ls (.long x :: rest)) := h ▸ k
end AS
theorem lp_ge {i N : Nat} (hN : N < 2 ^ 31) (hi : i ≤ N) (c : nI N ≤ nI i) : i = N := Nat.le_antisymm hi ((nI_leI hN (Nat.lt_of_le_of_lt hi hN)).mp c)
theorem lp_lt {i N : Nat} (hN : N < 2 ^ 31) (hi : i ≤ N) (c : ¬ nI N ≤ nI i) : i < N := Nat.lt_of_not_le fun h => c ((nI_leI hN (Nat.lt_of_le_of_lt hi hN)).mpr h)
/-- the ticks and the received bits as naturals; what the divisions and the rows of the check want -/
def tk (S : St) : Nat := (S.1 9).toNatClampNeg
def rc (S : St) : Nat := (S.1 24).toNatClampNeg
def okJ (S : St) : Prop := 0 ≤ S.1 3 ∧ S.1 3 ≤ 2000
def okM (n : Nat) (S : St) : Prop := okJ S ∧ (S.1 9 = nI (tk S) ∧ tk S ≤ n) ∧ S.1 24 = nI (rc S) ∧ rc S ≤ n
theorem jit_ne {x : Int32} (h : 0 ≤ x ∧ x ≤ 2000) : ¬ 2 * x + 1 = 0 := by
  obtain ⟨h1, h2⟩ := h
  have q1 : (0 : Int) ≤ x.toInt := Int32.le_iff_toInt_le.mp h1
  have q2 : x.toInt ≤ 2000 := Int32.le_iff_toInt_le.mp h2
  obtain ⟨j, hj, rfl⟩ : ∃ j : Nat, j ≤ 2000 ∧ x = nI j := ⟨x.toInt.toNat, by omega, by
    apply Int32.toInt_inj.mp
    rw [nI_toInt (by omega)]
    omega⟩
  have e : 2 * nI j + 1 = nI (2 * j + 1) := by
    show nI 2 * nI j + 1 = _
    rw [pk_mul, nI_1]
  rw [e]
  exact nI_ne0 (by omega) (by omega)
theorem jit_ne64 {x : Int32} (h : 0 ≤ x ∧ x ≤ 2000) : ¬ Int32.toInt64 (2 * x + 1) = 0 := by
  intro q
  apply jit_ne h
  have q1 := congrArg Int64.toInt q
  rw [Int32.toInt_toInt64] at q1
  exact Int32.toInt_inj.mp q1
theorem okM_of {n : Nat} {S T : St} (h : okM n S) (h3 : T.1 3 = S.1 3) (h9 : T.1 9 = S.1 9) (h24 : T.1 24 = S.1 24) : okM n T := by
  unfold okM okJ tk rc at *
  rw [h3, h9, h24]
  exact h
theorem okM_up {n n2 : Nat} {S : St} (h : okM n S) (q : n ≤ n2) : okM n2 S := ⟨h.1, ⟨h.2.1.1, Nat.le_trans h.2.1.2 q⟩, h.2.2.1, Nat.le_trans h.2.2.2 q⟩
theorem okM_tk {n : Nat} {S T : St} (hn : n < 2000000) (h : okM n S) (h3 : T.1 3 = S.1 3) (h9 : T.1 9 = S.1 9 + 1) (h24 : T.1 24 = S.1 24) : okM (n + 1) T := by
  obtain ⟨h1, ⟨h2, h4⟩, h5, h6⟩ := h
  have e : T.1 9 = nI (tk S + 1) := by rw [h9, h2, nI_1]
  have e2 : tk T = tk S + 1 := by unfold tk at *; rw [e]; exact nI_clamp (by omega)
  have e3 : rc T = rc S := by unfold rc; rw [h24]
  refine ⟨by unfold okJ at *; rw [h3]; exact h1, ⟨by rw [e2]; exact e, by omega⟩, by rw [h24, e3]; exact h5, by omega⟩
theorem okM_rc {n : Nat} {S T : St} (hn : n < 2000000) (h : okM n S) (hr : rc S + 1 ≤ n) (h3 : T.1 3 = S.1 3) (h9 : T.1 9 = S.1 9) (h24 : T.1 24 = S.1 24 + 1) : okM n T := by
  obtain ⟨h1, ⟨h2, h4⟩, h5, h6⟩ := h
  have e : T.1 24 = nI (rc S + 1) := by rw [h24, h5, nI_1]
  have e2 : rc T = rc S + 1 := by unfold rc at *; rw [e]; exact nI_clamp (by omega)
  have e3 : tk T = tk S := by unfold tk; rw [h9]
  refine ⟨by unfold okJ at *; rw [h3]; exact h1, ⟨by rw [h9, e3]; exact h2, by omega⟩, by rw [e2]; exact e, by omega⟩
theorem irem_nI {x d : Int32} {n m : Nat} (hx : x = nI n) (hd : d = nI m) (hn : n < 2 ^ 31) (h0 : 0 < m) (hm : m < 2 ^ 31) : x - x / d * d = nI (n % m) := by
  rw [hx, hd]; exact pk_rem hn h0 hm
theorem irem_in {x d : Int32} {n m : Nat} (hx : x = nI n) (hd : d = nI m) (hn : n < 2 ^ 31) (h0 : 0 < m) (hm : m < 2 ^ 31) : vp_in (x - x / d * d) m := by
  rw [irem_nI hx hd hn h0 hm]; exact vp_in_nI (Nat.mod_lt _ h0) hm
theorem i32_ne {x y : Int32} (h : ¬ x = y) : x.toInt ≠ y.toInt := fun q => h (Int32.toInt_inj.mp q)
theorem sw_1_3 {x : Int32} (h1 : ¬ x = 1) (h2 : ¬ x = 2) (h3 : ¬ x = 3) : x.toInt < 1 ∨ 3 < x.toInt := by
  have q1 : x.toInt ≠ 1 := i32_ne h1
  have q2 : x.toInt ≠ 2 := i32_ne h2
  have q3 : x.toInt ≠ 3 := i32_ne h3
  omega
theorem sw_1_4 {x : Int32} (h1 : ¬ x = 1) (h2 : ¬ x = 2) (h3 : ¬ x = 3) (h4 : ¬ x = 4) : x.toInt < 1 ∨ 4 < x.toInt := by
  have q1 : x.toInt ≠ 1 := i32_ne h1
  have q2 : x.toInt ≠ 2 := i32_ne h2
  have q3 : x.toInt ≠ 3 := i32_ne h3
  have q4 : x.toInt ≠ 4 := i32_ne h4
  omega
