theorem shb_mem {k : Nat} (h : shb k = true) : k ∈ [1, 2, 3, 5, 6, 7, 8, 9, 11, 12, 13, 14, 15, 16, 17, 18, 19, 20, 21, 22, 23, 24, 25, 26, 27, 28, 31, 35, 36] := by
  unfold shb at h
  exact List.contains_iff_mem.mp h
theorem mix_ext {A B : St} {X : Nat → Int32} (h : ∀ k, shb k = true → A.1 k = B.1 k) (h2 : A.2 = B.2) : mix A X = mix B X := by
  refine Prod.ext (funext fun j => ?_) h2
  show (if shb j = true then A.1 j else X j) = (if shb j = true then B.1 j else X j)
  by_cases e : shb j = true
  · rw [if_pos e, if_pos e, h j e]
  · rw [if_neg e, if_neg e]
def inr (v : Int32) : Prop := ¬ v < -16384 ∧ ¬ 16383 < v
/-- the slips, the phases and the count of steady strobes, against the check's -/
def InvS (M : St) (X : Nat → Int32) : Prop := X 40 = (if M.1 24 = 0 then 0 else 1) ∧ X 41 = M.1 24 ∧ (M.1 24 ≠ 0 → X 42 = M.2.2.2 ((rc M - 1) % 32)) ∧ (∃ st : Nat, X 43 = nI st ∧ st ≤ rc M ∧ ∀ k, k ≤ 32 → (k ≤ st ↔ (k ≤ rc M ∧ ∀ j, j < k → bt (M.1 29) j = false ∧ inr (M.2.2.2 ((rc M - 1 - j) % 32))))) ∧ ∀ k, rc M ≤ k → k < 32 → M.2.2.2 k = 0
theorem slip_a (z : Prop) [Decidable z] (D a : Int32) : (if (if z then (1 : Int32) else D) = 0 then a + 1 else a) = a + (if (if z then (0 : Int32) else if D = 1 then 0 else 1) = 0 then 0 else if D = 0 then 1 else 0) := by
  by_cases h : z
  · rw [if_pos h, if_pos h, if_neg (by decide), if_pos rfl, Int32.add_zero]
  · rw [if_neg h, if_neg h]
    by_cases h1 : D = 1
    · rw [h1, if_neg (by decide), if_pos rfl, if_pos rfl, Int32.add_zero]
    · rw [if_neg h1, if_neg (show ¬ (1 : Int32) = 0 by decide)]
      by_cases h0 : D = 0
      · rw [if_pos h0, if_pos h0]
      · rw [if_neg h0, if_neg h0, Int32.add_zero]
theorem slip_b (z : Prop) [Decidable z] (D a : Int32) : (if (if z then (1 : Int32) else D) = 0 then a else if (if z then (1 : Int32) else D) ≤ 1 then a else a + ((if z then (1 : Int32) else D) - 1)) = a + (if (if z then (0 : Int32) else if D = 1 then 0 else 1) = 0 then 0 else if D ≤ 1 then 0 else D - 1) := by
  by_cases h : z
  · rw [if_pos h, if_pos h, if_neg (by decide), if_pos (by decide), if_pos rfl, Int32.add_zero]
  · rw [if_neg h, if_neg h]
    by_cases h1 : D = 1
    · rw [h1, if_neg (by decide), if_pos (by decide), if_pos rfl, if_pos rfl, Int32.add_zero]
    · rw [if_neg h1, if_neg (show ¬ (1 : Int32) = 0 by decide)]
      by_cases h0 : D = 0
      · rw [h0, if_pos rfl, if_pos (by decide), Int32.add_zero]
      · rw [if_neg h0]
        by_cases h2 : D ≤ 1
        · rw [if_pos h2, if_pos h2, Int32.add_zero]
        · rw [if_neg h2, if_neg h2]
theorem slip_c (z : Prop) [Decidable z] (D : Int32) : (if (if z then (1 : Int32) else D) = 1 then (0 : Int32) else 1) = if (if z then (0 : Int32) else if D = 1 then 0 else 1) = 0 then 0 else 1 := by
  by_cases h : z
  · rw [if_pos h, if_pos h]; decide
  · rw [if_neg h, if_neg h]
    by_cases h1 : D = 1
    · rw [if_pos h1]; decide
    · rw [if_neg h1]; decide
theorem bt_sh (sl b : Int32) (hb : b = 0 ∨ b = 1) (i : Nat) (hi : i + 1 < 32) : bt ((sl <<< ((1 : Int32) &&& 31)) ||| b) (i + 1) = bt sl i := by
  rw [s1_1, b_or, b_shl 1 (by omega) sl hi, bv_lo hb (by omega), Bool.or_false, decide_eq_true (by omega), Bool.true_and, Nat.add_sub_cancel]
theorem bt_s0 (sl b : Int32) (hb : b = 0 ∨ b = 1) : bt ((sl <<< ((1 : Int32) &&& 31)) ||| b) 0 = false ↔ b = 0 := by
  rw [s1_1, b_or, b_shl 1 (by omega) sl (by omega), decide_eq_false (by omega), Bool.false_and, Bool.false_or]
  rcases hb with rfl | rfl
  · exact ⟨fun _ => rfl, fun _ => b_0 0⟩
  · rw [b_1]
    exact ⟨fun q => absurd q (by decide), fun q => absurd q (by decide)⟩
theorem steady_step {r st : Nat} {sl b ph : Int32} {f : Nat → Int32} (hb : b = 0 ∨ b = 1) (h : ∀ k, k ≤ 32 → (k ≤ st ↔ (k ≤ r ∧ ∀ j, j < k → bt sl j = false ∧ inr (f ((r - 1 - j) % 32))))) :
    ∀ (st2 : Nat), ((b = 0 ∧ inr ph) ∧ st2 = st + 1) ∨ (¬ (b = 0 ∧ inr ph) ∧ st2 = 0) → ∀ k, k ≤ 32 → (k ≤ st2 ↔ (k ≤ r + 1 ∧ ∀ j, j < k → bt ((sl <<< ((1 : Int32) &&& 31)) ||| b) j = false ∧ inr (upd f (r % 32) ph ((r + 1 - 1 - j) % 32)))) := by
  intro st2 hs k hk
  have h00 : r + 1 - 1 - 0 = r := by omega
  rcases hs with ⟨⟨hb0, hin⟩, rfl⟩ | ⟨hno, rfl⟩
  · cases k with
    | zero => exact ⟨fun _ => ⟨by omega, fun j hj => absurd hj (by omega)⟩, fun _ => by omega⟩
    | succ m =>
      have hm := h m (by omega)
      have far : ∀ i, i + 1 ≤ r → i + 1 < 32 → upd f (r % 32) ph ((r + 1 - 1 - (i + 1)) % 32) = f ((r - 1 - i) % 32) := fun i h1 h2 => by
        rw [show r + 1 - 1 - (i + 1) = r - 1 - i by omega, upd_ne (by omega)]
      constructor
      · intro q
        obtain ⟨h1, h2⟩ := hm.mp (by omega)
        refine ⟨by omega, fun j hj => ?_⟩
        cases j with
        | zero => rw [h00, upd_at]; exact ⟨(bt_s0 sl b hb).mpr hb0, hin⟩
        | succ i =>
          rw [bt_sh sl b hb i (by omega), far i (by omega) (by omega)]
          exact h2 i (by omega)
      · intro ⟨h1, h2⟩
        have := hm.mpr ⟨by omega, fun i hi => by
          have q := h2 (i + 1) (by omega)
          rw [bt_sh sl b hb i (by omega), far i (by omega) (by omega)] at q
          exact q⟩
        omega
  · cases k with
    | zero => exact ⟨fun _ => ⟨by omega, fun j hj => absurd hj (by omega)⟩, fun _ => by omega⟩
    | succ m =>
      refine ⟨fun q => absurd q (by omega), fun ⟨_, h2⟩ => ?_⟩
      have q := h2 0 (by omega)
      rw [h00, upd_at] at q
      exact absurd ⟨(bt_s0 sl b hb).mp q.1, q.2⟩ hno
theorem al2 (S : St) : (s_X11_aligns S).2 = S.2 := by
  unfold s_X11_aligns s_X11_aligns_26
  split
  · rfl
  · split
    · split <;> rfl
    · rfl
theorem al_29 (S : St) : (s_X11_aligns S).1 29 = S.1 29 := by
  have e4 : (s_X11_aligns_4 S).1 29 = S.1 29 := si_ne (by decide)
  unfold s_X11_aligns s_X11_aligns_26
  split
  · exact (si_ne (by decide)).trans ((si_ne (by decide)).trans ((si_ne (by decide)).trans e4))
  · split
    · split
      · exact (si_ne (by decide)).trans ((si_ne (by decide)).trans ((si_ne (by decide)).trans e4))
      · exact (si_ne (by decide)).trans ((si_ne (by decide)).trans ((si_ne (by decide)).trans ((si_ne (by decide)).trans e4)))
    · exact e4
theorem al_lo (S : St) {k : Nat} (h : k < 31) : (s_X11_aligns S).1 k = S.1 k := by
  have e4 : (s_X11_aligns_4 S).1 k = S.1 k := si_ne (by omega)
  unfold s_X11_aligns s_X11_aligns_26
  split
  · exact (si_ne (by omega)).trans ((si_ne (by omega)).trans ((si_ne (by omega)).trans e4))
  · split
    · split
      · exact (si_ne (by omega)).trans ((si_ne (by omega)).trans ((si_ne (by omega)).trans e4))
      · exact (si_ne (by omega)).trans ((si_ne (by omega)).trans ((si_ne (by omega)).trans ((si_ne (by omega)).trans e4)))
    · exact e4
theorem r25 (M : St) {k : Nat} (h : k < 12 ∨ 14 < k) : (s_X11_receives_25 M).1 k = (s_X11_receives_22 M).1 k := by
  unfold s_X11_receives_25
  split
  · rfl
  · exact ms_ne h
theorem r29 (M : St) {k : Nat} (h : k ≠ 18 ∧ k ≠ 19 ∧ k ≠ 23) : (s_X11_receives_29 M).1 k = (s_X11_receives_25 M).1 k := (si_ne h.2.2).trans ((si_ne h.2.1).trans (si_ne h.1))
theorem r29_29 (M : St) : (s_X11_receives_29 M).1 29 = (M.1 29 <<< ((1 : Int32) &&& 31)) ||| v_X11_receives_11 M := by
  have e1 : (s_X11_receives_22 M).1 29 = (s_X11_receives_13 M).1 29 := (si_ne (by decide)).trans ((si_ne (by decide)).trans (show (s_X11_receives_17 M).1 29 = (s_X11_receives_13 M).1 29 from si_ne (by decide)))
  have e2 : (s_X11_receives_13 M).1 29 = v_X11_receives_12 M := si_at _ _ _
  have e3 : (s_X11_receives_9 M).1 29 = M.1 29 := (si_ne (by decide)).trans (si_ne (by decide))
  rw [r29 M (by decide), r25 M (by decide), e1, e2]
  show ((s_X11_receives_9 M).1 29 <<< ((1 : Int32) &&& 31)) ||| v_X11_receives_11 M = _
  rw [e3]
theorem r25_2 (M : St) : (s_X11_receives_25 M).2 = (s_X11_receives_16 M).2 := by
  unfold s_X11_receives_25
  split <;> rfl
theorem r29_2 (M : St) : (s_X11_receives_29 M).2 = (s_X11_receives_16 M).2 := r25_2 M
