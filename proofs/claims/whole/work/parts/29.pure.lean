theorem s1_1 : ((1 : Int32) &&& 31) = (nI 1 &&& 31) := rfl
theorem bv_lo {v : Int32} (hv : v = 0 ∨ v = 1) {i : Nat} (h : i ≠ 0) : bt v i = false := by
  rcases hv with rfl | rfl
  · exact b_0 i
  · rw [b_1]; exact decide_eq_false h
theorem bits_lo (b v : Int32) (hv : v = 0 ∨ v = 1) : ((b <<< ((1 : Int32) &&& 31)) ||| v) &&& 1 = v := by
  apply b_ext
  intro i hi
  rw [s1_1, b_and, b_or, b_shl 1 (by omega) b hi, b_1]
  by_cases h : i = 0
  · subst h
    rw [decide_eq_true rfl, Bool.and_true, decide_eq_false (by omega), Bool.false_and, Bool.false_or]
  · rw [decide_eq_false h, Bool.and_false, bv_lo hv h]
theorem bits_hi (b v : Int32) (hv : v = 0 ∨ v = 1) : (((b <<< ((1 : Int32) &&& 31)) ||| v) >>> ((1 : Int32) &&& 31)) &&& 1 = b &&& 1 := by
  apply b_ext
  intro i hi
  rw [s1_1, b_and, b_and, b_1]
  by_cases h : i = 0
  · subst h
    rw [b_sshr 1 (by omega) _ hi, if_pos (by omega), b_or, b_shl 1 (by omega) b (by omega), bv_lo hv (by omega), Bool.or_false, decide_eq_true (by omega), Bool.true_and]
  · rw [decide_eq_false h, Bool.and_false, Bool.and_false]
theorem fb1 (S : St) : r_X1_findBit S 1 = S.1 25 &&& 1 := by
  show ((S.1 25).toUInt32 >>> (((1 : Int32) - 1).toUInt32 &&& Int32.toUInt32 31)).toInt32 &&& 1 = _
  rw [show ((1 : Int32) - 1) = nI 0 from by decide]
  apply b_ext
  intro i hi
  rw [b_and, b_and, b_ushr 0 (by omega), Nat.zero_add]
theorem lvl_cong {S T : St} (h : S.1 8 = T.1 8) : r_X11_levelNow S = r_X11_levelNow T := by
  show 2 * lev S 8 - 8 = 2 * lev T 8 - 8
  rw [lev_cnt, lev_cnt, h]
theorem r22 (M : St) {k : Nat} (h : k < 24 ∨ 29 < k) : (s_X11_receives_22 M).1 k = M.1 k := by
  have a5 : (s_X11_receives_5 M).1 k = M.1 k := si_ne (by omega)
  have a9 : (s_X11_receives_9 M).1 k = M.1 k := (si_ne (by omega)).trans a5
  have a16 : (s_X11_receives_16 M).1 k = M.1 k := (show (s_X11_receives_13 M).1 k = M.1 k from (si_ne (by omega)).trans a9)
  have a17 : (s_X11_receives_17 M).1 k = M.1 k := (si_ne (by omega)).trans a16
  exact (si_ne (by omega)).trans ((si_ne (by omega)).trans a17)
theorem r17_25 (M : St) : (s_X11_receives_17 M).1 25 = M.1 25 := (si_ne (by decide)).trans (show (s_X11_receives_13 M).1 25 = M.1 25 from (si_ne (by decide)).trans ((si_ne (by decide)).trans (si_ne (by decide))))
theorem r17_7 (M : St) : (s_X11_receives_17 M).1 7 = M.1 7 := (si_ne (by decide)).trans (show (s_X11_receives_13 M).1 7 = M.1 7 from (si_ne (by decide)).trans ((si_ne (by decide)).trans (si_ne (by decide))))
theorem r22_25 (M : St) : (s_X11_receives_22 M).1 25 = (M.1 25 <<< ((1 : Int32) &&& 31)) ||| M.1 7 := by
  have e : (s_X11_receives_22 M).1 25 = v_X11_receives_19 M := (si_ne (by decide)).trans (si_at _ _ _)
  rw [e]
  show ((s_X11_receives_17 M).1 25 <<< ((1 : Int32) &&& 31)) ||| (s_X11_receives_17 M).1 7 = _
  rw [r17_25, r17_7]
theorem r22_24 (M : St) : (s_X11_receives_22 M).1 24 = M.1 24 + 1 := by
  have e : (s_X11_receives_22 M).1 24 = (s_X11_receives_20 M).1 24 + 1 := si_at _ _ _
  have e2 : (s_X11_receives_20 M).1 24 = M.1 24 := (si_ne (by decide)).trans ((si_ne (by decide)).trans (show (s_X11_receives_13 M).1 24 = M.1 24 from (si_ne (by decide)).trans ((si_ne (by decide)).trans (si_ne (by decide)))))
  rw [e, e2]
theorem meas_eq {n : Nat} {M : St} (X : Nat → Int32) (hn : n < 2000000) (hm : okM n M) (hb : okB M) (hd : M.1 15 = 0 ∨ M.1 15 = 1 ∨ M.1 15 = 2 ∨ M.1 15 = 3) : r_X6_measureAtData (mix M X) (M.1 7) (r_X11_levelNow M) = r_X11_measured (s_X11_receives_22 M) := by
  have e15 := r22 M (k := 15) (by omega)
  have e18 := r22 M (k := 18) (by omega)
  have e19 := r22 M (k := 19) (by omega)
  have e21 := r22 M (k := 21) (by omega)
  have e22 := r22 M (k := 22) (by omega)
  have e23 := r22 M (k := 23) (by omega)
  have eL : r_X11_levelNow (s_X11_receives_22 M) = r_X11_levelNow M := lvl_cong (r22 M (by omega))
  show (if M.1 15 = 1 then M.1 18 else if M.1 15 = 2 then M.1 19 else if M.1 15 = 3 then M.1 22 * (r_X11_levelNow M - M.1 23) else if M.1 24 = 0 then 0 else if M.1 7 = r_X1_findBit (mix M X) 1 then 0 else if M.1 21 = r_X1_findBit (mix M X) 1 then (-1) else 1)
    = if (s_X11_receives_22 M).1 15 = 0 then (if (s_X11_receives_22 M).1 24 = 1 then 0 else if (s_X11_receives_22 M).1 25 &&& 1 = ((s_X11_receives_22 M).1 25 >>> ((1 : Int32) &&& 31)) &&& 1 then 0 else if (s_X11_receives_22 M).1 21 = ((s_X11_receives_22 M).1 25 >>> ((1 : Int32) &&& 31)) &&& 1 then (-1) else 1) else (if (s_X11_receives_22 M).1 15 = 1 then (s_X11_receives_22 M).1 18 else if (s_X11_receives_22 M).1 15 = 2 then (s_X11_receives_22 M).1 19 else (s_X11_receives_22 M).1 22 * (r_X11_levelNow (s_X11_receives_22 M) - (s_X11_receives_22 M).1 23))
  rw [e15, e18, e19, e21, e22, e23, eL, r22_25, r22_24, bits_lo _ _ hb, bits_hi _ _ hb, fb1, mix_rd (k := 25) rfl]
  rcases hd with q | q | q | q
  · have h24 : (M.1 24 + 1 = 1) ↔ (M.1 24 = 0) := by
      have h6 := hm.2.2.2
      rw [hm.2.2.1, nI_1]
      have q1 := nI_eq (a := rc M + 1) (b := 1) (by omega) (by omega)
      have q2 := nI_eq (a := rc M) (b := 0) (by omega) (by omega)
      exact ⟨fun z => q2.mpr (by have := q1.mp z; omega), fun z => q1.mpr (by have := q2.mp z; omega)⟩
    rw [q, if_neg (by decide), if_neg (by decide), if_neg (by decide), if_pos rfl]
    by_cases z : M.1 24 = 0
    · rw [if_pos z, if_pos (h24.mpr z)]
    · rw [if_neg z, if_neg (fun y => z (h24.mp y))]
  · rw [q, if_pos rfl, if_neg (by decide), if_pos rfl]
  · rw [q, if_neg (by decide), if_pos rfl, if_neg (by decide), if_neg (by decide), if_pos rfl]
  · rw [q, if_neg (by decide), if_neg (by decide), if_pos rfl, if_neg (by decide), if_neg (by decide), if_neg (by decide)]
/-- the measure's numbers rest on the loop's three alone -/
theorem ms_dep {S T : St} {e : Int32} (h13 : S.1 13 = T.1 13) (h16 : S.1 16 = T.1 16) (h17 : S.1 17 = T.1 17) : (s_X11_measures S e).1 12 = (s_X11_measures T e).1 12 ∧ (s_X11_measures S e).1 13 = (s_X11_measures T e).1 13 ∧ (s_X11_measures S e).1 14 = (s_X11_measures T e).1 14 := by
  have g : ∀ U : St, (s_X11_measures U e).1 13 = r_X11_kept st0 (U.1 13 + U.1 17 * e) 262144 := fun U => by
    have a : (s_X11_measures U e).1 13 = v_X11_measures_4 U e := (si_ne (by decide)).trans (si_at _ _ _)
    rw [a]
    show r_X11_kept _ ((s_X11_measures_1 U e).1 13 + (s_X11_measures_1 U e).1 17 * e) 262144 = _
    rw [show (s_X11_measures_1 U e).1 13 = U.1 13 from si_ne (by decide), show (s_X11_measures_1 U e).1 17 = U.1 17 from si_ne (by decide)]
    rfl
  have g5 : ∀ U : St, (s_X11_measures_5 U e).1 13 = r_X11_kept st0 (U.1 13 + U.1 17 * e) 262144 := fun U => by
    rw [← g U]
    exact (si_ne (by decide)).symm
  have g12 : ∀ U : St, (s_X11_measures U e).1 12 = r_X11_kept st0 (U.1 16 * e + r_X11_kept st0 (U.1 13 + U.1 17 * e) 262144 >>> ((8 : Int32) &&& 31)) 1024 := fun U => by
    have a : (s_X11_measures U e).1 12 = v_X11_measures_9 U e := si_at _ _ _
    rw [a]
    show r_X11_kept _ ((s_X11_measures_5 U e).1 16 * e + (s_X11_measures_5 U e).1 13 >>> ((8 : Int32) &&& 31)) 1024 = _
    rw [g5, show (s_X11_measures_5 U e).1 16 = U.1 16 from (si_ne (by decide)).trans (si_ne (by decide))]
    rfl
  have g14 : ∀ U : St, (s_X11_measures U e).1 14 = e := fun U => (si_ne (by decide)).trans ((si_ne (by decide)).trans (si_at _ _ _))
  refine ⟨by rw [g12, g12, h13, h16, h17], by rw [g, g, h13, h17], by rw [g14, g14]⟩
theorem ms_ne {S : St} {e : Int32} {k : Nat} (h : k < 12 ∨ 14 < k) : (s_X11_measures S e).1 k = S.1 k := (si_ne (by omega)).trans ((si_ne (by omega)).trans (si_ne (by omega)))
