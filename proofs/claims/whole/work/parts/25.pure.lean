/-! the class's state on the check's: C = mix M X, where M is the check's state and X the class's own numbers -/
def shb : Nat → Bool := fun k => [1, 2, 3, 5, 6, 7, 8, 9, 11, 12, 13, 14, 15, 16, 17, 18, 19, 20, 21, 22, 23, 24, 25, 26, 27, 28, 31, 35, 36].contains k
def mix (M : St) (X : Nat → Int32) : St := (fun k => if shb k = true then M.1 k else X k, M.2.1, M.2.2.1, M.2.2.2)
theorem mix_rd {M : St} {X : Nat → Int32} {k : Nat} (h : shb k = true) : (mix M X).1 k = M.1 k := if_pos h
theorem mix_rx {M : St} {X : Nat → Int32} {k : Nat} (h : shb k = false) : (mix M X).1 k = X k := if_neg (by rw [h]; decide)
theorem mix_si {M : St} {X : Nat → Int32} {k : Nat} {v : Int32} (h : shb k = true) : si (mix M X) k v = mix (si M k v) X := by
  refine Prod.ext (funext fun j => ?_) rfl
  show (if j = k then v else if shb j = true then M.1 j else X j) = (if shb j = true then (if j = k then v else M.1 j) else X j)
  by_cases e : j = k
  · rw [if_pos e, if_pos (by rw [e]; exact h), if_pos e]
  · rw [if_neg e, if_neg e]
theorem mix_sx {M : St} {X : Nat → Int32} {k : Nat} {v : Int32} (h : shb k = false) : si (mix M X) k v = mix M (upd X k v) := by
  refine Prod.ext (funext fun j => ?_) rfl
  show (if j = k then v else if shb j = true then M.1 j else X j) = (if shb j = true then M.1 j else (if j = k then v else X j))
  by_cases e : j = k
  · rw [if_pos e, if_neg (by rw [e, h]; decide), if_pos e]
  · rw [if_neg e, if_neg e]
theorem mix_no {M : St} {X : Nat → Int32} {k : Nat} {v : Int32} (h : shb k = false) : mix (si M k v) X = mix M X := by
  refine Prod.ext (funext fun j => ?_) rfl
  show (if shb j = true then (if j = k then v else M.1 j) else X j) = (if shb j = true then M.1 j else X j)
  by_cases e : j = k
  · rw [if_neg (by rw [e, h]; decide), if_neg (by rw [e, h]; decide)]
  · rw [if_neg e]
theorem mix_ite {c : Prop} [Decidable c] {A B : St} {X : Nat → Int32} : (if c then mix A X else mix B X) = mix (if c then A else B) X := by split <;> rfl
theorem mix_if {c : Prop} {d : Decidable c} {P Q A B : St} {X : Nat → Int32} (h1 : c → P = mix A X) (h2 : ¬ c → Q = mix B X) : (@ite St c d P Q) = mix (@ite St c d A B) X := by
  by_cases h : c
  · rw [if_pos h, if_pos h]; exact h1 h
  · rw [if_neg h, if_neg h]; exact h2 h
theorem si_comm {S : St} {j k : Nat} {u v : Int32} (h : j ≠ k) : si (si S j u) k v = si (si S k v) j u := by
  refine Prod.ext (funext fun i => ?_) rfl
  show (if i = k then v else if i = j then u else S.1 i) = (if i = j then u else if i = k then v else S.1 i)
  by_cases e : i = k
  · rw [if_pos e, if_neg (fun q => h (q.symm.trans e)), if_pos e]
  · rw [if_neg e, if_neg e]
theorem si_si {S : St} {k : Nat} {u v : Int32} : si (si S k u) k v = si S k v := by
  refine Prod.ext (funext fun i => ?_) rfl
  show (if i = k then v else if i = k then u else S.1 i) = (if i = k then v else S.1 i)
  by_cases e : i = k
  · rw [if_pos e, if_pos e]
  · rw [if_neg e, if_neg e, if_neg e]
theorem upd_at {f : Nat → Int32} {k : Nat} {v : Int32} : upd f k v k = v := if_pos rfl
theorem upd_ne {f : Nat → Int32} {k j : Nat} {v : Int32} (h : j ≠ k) : upd f k v j = f j := if_neg h
-- bits
theorem and_xor1 (a b c : Int32) : (a &&& c) ^^^ (b &&& c) = (a ^^^ b) &&& c := by
  apply b_ext
  intro i _
  rw [b_xor, b_and, b_and, b_and, b_xor]
  cases bt a i <;> cases bt b i <;> cases bt c i <;> rfl
theorem and1_cases (a : Int32) : a &&& 1 = 0 ∨ a &&& 1 = 1 := by
  obtain ⟨j, hj, e⟩ := pk_andE a (m := 1) 1 rfl
  rw [e]
  match j, hj with
  | 0, _ => exact Or.inl rfl
  | 1, _ => exact Or.inr rfl
/-- has changed: the bit of the exclusive or, or the bits compared -/
theorem hc_eq (a b : Int32) : (if (a ^^^ b) &&& 1 = 1 then (1 : Int32) else 0) = if a &&& 1 = b &&& 1 then 0 else 1 := by
  rw [← and_xor1]
  rcases and1_cases a with h | h <;> rcases and1_cases b with h' | h' <;> rw [h, h'] <;> decide
theorem b_1 (i : Nat) : bt 1 i = decide (i = 0) := by
  by_cases h : i < 32
  · exact (by decide +kernel : ∀ i, i < 32 → bt 1 i = decide (i = 0)) i h
  · rw [b_big (by omega)]
    exact (decide_eq_false (by omega)).symm
/-- a low bit of the masked number -/
theorem shr_low (m : Int32) (s : Nat) (hs : s < 8) : (m >>> (nI s &&& 31)) &&& 1 = ((m &&& 255) >>> (nI s &&& 31)) &&& 1 := by
  apply b_ext
  intro i hi
  rw [b_and, b_and, b_1]
  by_cases h : i = 0
  · subst h
    rw [b_sshr s (by omega) m hi, b_sshr s (by omega) _ hi, if_pos (by omega), if_pos (by omega), b_and, b_255, decide_eq_true (show s + 0 < 8 by omega), Bool.and_true]
  · rw [decide_eq_false h, Bool.and_false, Bool.and_false]
def cnt8 (m : Int32) : Nat → Int32
  | 0 => 0
  | i + 1 => cnt8 m i + ((m >>> (nI i &&& 31)) &&& 1)
theorem lev_cnt (S : St) : ∀ i, lev S i = cnt8 (S.1 8) i
  | 0 => rfl
  | i + 1 => by show lev S i + _ = cnt8 (S.1 8) i + _; rw [lev_cnt S i]
theorem cnt_low (m : Int32) : ∀ i, i ≤ 8 → cnt8 m i = cnt8 (m &&& 255) i
  | 0, _ => rfl
  | i + 1, h => by show cnt8 m i + _ = cnt8 (m &&& 255) i + _; rw [cnt_low m i (by omega), shr_low m i (by omega)]
theorem pop_tab : ∀ j, j < 256 → r_J6_bitCount_0f7a4 st0 (nI j) = cnt8 (nI j) 8 := by decide +kernel
theorem level_eq {S T : St} (h : S.1 8 = T.1 8) : r_X3_findLevel S = r_X11_levelNow T := by
  obtain ⟨j, hj, e⟩ := pk_andE (T.1 8) (m := 255) 8 rfl
  have e1 : r_J6_bitCount_0f7a4 st0 (T.1 8 &&& 255) = lev T 8 := by
    rw [lev_cnt, cnt_low _ 8 (Nat.le_refl _), e]
    exact pop_tab j hj
  show 2 * r_J6_bitCount_0f7a4 st0 (S.1 8 &&& 255) - 8 = 2 * lev T 8 - 8
  rw [h, e1]
theorem abs_eq (S : St) (x : Int32) : (if 0 ≤ x then x else 0 - x) = r_X11_size S x := by
  show _ = (if 0 ≤ x then x else -x)
  rw [Int32.zero_sub]
theorem kept_eq (S T : St) (p g : Int32) (hg : -g ≤ g) : r_X4_keepWithin S p g = r_X11_kept T p g := by
  show (if -g < (if p < g then p else g) then (if p < g then p else g) else -g) = (if p ≤ g then if -g ≤ p then p else -g else g)
  by_cases h1 : p < g
  · rw [if_pos h1, if_pos (Int32.le_of_lt h1)]
    by_cases h2 : -g < p
    · rw [if_pos h2, if_pos (Int32.le_of_lt h2)]
    · rw [if_neg h2]
      by_cases h3 : -g ≤ p
      · rw [if_pos h3]
        exact Int32.le_antisymm h3 (Int32.not_lt.mp h2)
      · rw [if_neg h3]
  · rw [if_neg h1]
    have h4 : g ≤ p := Int32.not_lt.mp h1
    have h5 : (if -g < g then g else -g) = g := by
      by_cases h6 : -g < g
      · rw [if_pos h6]
      · rw [if_neg h6]; exact Int32.le_antisymm hg (Int32.not_lt.mp h6)
    rw [h5]
    by_cases h7 : p ≤ g
    · rw [if_pos h7, if_pos (Int32.le_trans hg h4)]
      exact Int32.le_antisymm h4 h7
    · rw [if_neg h7]
