theorem nn_bit (y : Int32) : 0 ≤ y ↔ bt y 31 = false := by
  have h1 : y.toBitVec.msb = decide (y.toBitVec.toInt < 0) := BitVec.msb_eq_toInt
  have h2 : y.toBitVec.msb = y.toBitVec.getLsbD 31 := BitVec.msb_eq_getLsbD_last _
  have h3 : (0 ≤ y) ↔ 0 ≤ y.toBitVec.toInt := Int32.le_iff_toInt_le
  unfold bt
  rw [← h2, h1, h3, decide_eq_false_iff_not]
  omega
theorem sg_xor (x : Int32) : 0 ≤ x ^^^ 256 ↔ 0 ≤ x := by
  rw [nn_bit, nn_bit, b_xor, show bt 256 31 = false from by decide +kernel, Bool.xor_false]
theorem fdiv_eq (S : St) (x : Int32) : r_J9_floorDiv_7cf53 S x 256 = x >>> (8 &&& 31) := by
  have hq : (x / 256).toInt = x.toInt.tdiv 256 := Int32.toInt_div_of_ne_right x 256 (by decide)
  have hs : (x >>> ((8 : Int32) &&& 31)).toInt = x.toInt / 256 := by
    rw [pk_shr x (8 &&& 31) 8 (by decide), Int.shiftRight_eq_div_pow]; rfl
  have hb1 : -2147483648 ≤ x.toInt := Int32.le_toInt x
  have hb2 : x.toInt < 2147483648 := Int32.toInt_lt x
  apply Int32.toInt_inj.mp
  rw [hs]
  show (if 0 ≤ x ^^^ 256 then x / 256 else if x / 256 * 256 = x then x / 256 else x / 256 - 1).toInt = _
  by_cases h : 0 ≤ x
  · rw [if_pos ((sg_xor x).mpr h), hq, Int.tdiv_eq_ediv_of_nonneg (Int32.le_iff_toInt_le.mp h)]
  · rw [if_neg (fun z => h ((sg_xor x).mp z))]
    have h0 : ¬ 0 ≤ x.toInt := fun z => h (Int32.le_iff_toInt_le.mpr z)
    obtain ⟨n, hn⟩ : ∃ n : Int, x.toInt = -n := ⟨-x.toInt, by omega⟩
    have hq2 : (x / 256).toInt = -(n / 256) := by rw [hq, hn, Int.neg_tdiv, Int.tdiv_eq_ediv_of_nonneg (by omega)]
    have hm : (x / 256 * 256).toInt = -(n / 256) * 256 := by
      rw [Int32.toInt_mul, hq2]
      show (-(n / 256) * 256).bmod (2 ^ 32) = _
      exact Int.bmod_eq_of_le (by omega) (by omega)
    by_cases h1 : x / 256 * 256 = x
    · have h3 : -(n / 256) * 256 = -n := by rw [← hm, h1, hn]
      rw [if_pos h1, hq2, hn]
      omega
    · have h2 : -(n / 256) * 256 ≠ -n := fun q => h1 (Int32.toInt_inj.mp (by rw [hm, hn]; exact q))
      rw [if_neg h1, Int32.toInt_sub, hq2]
      show (-(n / 256) - 1).bmod (2 ^ 32) = _
      rw [Int.bmod_eq_of_le (by omega) (by omega), hn]
      omega
theorem te_eq (M : St) (X : Nat → Int32) (e : Int32) : s_X4_takeError (mix M X) e = mix (s_X11_measures M e) X := by
  have e1 : s_X4_takeError_1 (mix M X) e = mix (s_X11_measures_1 M e) X := mix_si rfl
  have v4 : v_X4_takeError_4 (mix M X) e = v_X11_measures_4 M e := by
    show r_X4_keepWithin _ ((s_X4_takeError_1 (mix M X) e).1 13 + (s_X4_takeError_1 (mix M X) e).1 17 * e) 262144 = _
    rw [e1, kept_eq _ (s_X11_measures_1 M e) _ _ (by decide)]
    rfl
  have e5 : s_X4_takeError_5 (mix M X) e = mix (s_X11_measures_5 M e) X := by
    show si (s_X4_takeError_1 (mix M X) e) 13 (v_X4_takeError_4 (mix M X) e) = _
    rw [e1, v4, mix_si rfl]
    rfl
  have v9 : v_X4_takeError_9 (mix M X) e = v_X11_measures_9 M e := by
    show r_X4_keepWithin _ ((s_X4_takeError_5 (mix M X) e).1 16 * e + r_J9_floorDiv_7cf53 _ ((s_X4_takeError_5 (mix M X) e).1 13) 256) 1024 = _
    rw [e5, kept_eq _ (s_X11_measures_5 M e) _ _ (by decide), fdiv_eq]
    rfl
  show si (s_X4_takeError_5 (mix M X) e) 12 (v_X4_takeError_9 (mix M X) e) = _
  rw [e5, v9, mix_si rfl]
  rfl
theorem sends_eq (M : St) (X : Nat → Int32) : s_X9_sendNextBit (mix M X) = mix (s_X11_sends M) X := by
  have e2 : s_X9_sendNextBit_2 (mix M X) = mix (s_X11_sends_2 M) X := mix_si rfl
  have v3 : v_X9_sendNextBit_3 (mix M X) = v_X11_sends_3 M := by
    show (s_X9_sendNextBit_2 (mix M X)).1 5 - (s_X9_sendNextBit_2 (mix M X)).1 5 / 24 * 24 = _
    rw [e2]
    rfl
  show (if 6 ≤ v_X9_sendNextBit_3 (mix M X) then s_X9_sendNextBit_6 (mix M X) else s_X9_sendNextBit_10 (mix M X)) = mix (if 6 ≤ v_X11_sends_3 M then s_X11_sends_12 M else s_X11_sends_16 M) X
  rw [v3]
  refine mix_if (fun _ => ?_) (fun _ => ?_)
  · show si (si (s_X9_sendNextBit_2 (mix M X)) 6 (v_X9_shiftRegister_7 (s_X9_sendNextBit_2 (mix M X)))) 7 ((s_X9_sendNextBit_2 (mix M X)).1 6 &&& 1) = mix (si (si (s_X11_sends_2 M) 7 ((s_X11_sends_2 M).1 6 &&& 1)) 6 (v_X11_sends_11 M)) X
    have hv : v_X9_shiftRegister_7 (s_X9_sendNextBit_2 (mix M X)) = v_X11_sends_11 M := by
      rw [e2]
      show (s_X11_sends_2 M).1 6 >>> ((1 : Int32) &&& 31) ||| (((s_X11_sends_2 M).1 6 &&& (1 : Int32)) ^^^ (((s_X11_sends_2 M).1 6 >>> ((1 : Int32) &&& 31)) &&& (1 : Int32))) <<< ((6 : Int32) &&& 31) = _
      rw [and_xor1]
      rfl
    rw [hv, e2, si_comm (by decide), mix_si rfl, mix_si rfl]
    rfl
  · show si (s_X9_sendNextBit_2 (mix M X)) 7 (((52 : Int32) >>> ((5 - v_X9_sendNextBit_3 (mix M X)) &&& 31)) &&& 1) = _
    rw [e2, v3, mix_si rfl]
    rfl
theorem draw_s (M : St) (X : Nat → Int32) : s_X9_drawDeviation (mix M X) = mix (s_X11_transmits_12 M) X := by
  show (if M.1 3 = 0 then mix M X else s_X9_drawDeviation_4 (mix M X)) = mix (if M.1 3 = 0 then M else s_X11_transmits_4 M) X
  exact mix_if (fun _ => rfl) (fun _ => rfl)
def okR (M : St) : Prop := ∃ m : Nat, m < 2147483648 ∧ M.2.1 = lN m
theorem rnd_next {M : St} (h : okR M) : ∃ m : Nat, m < 2147483648 ∧ v_X11_transmits_3 M = lN m := by
  obtain ⟨m, hm, e⟩ := h
  have h1 : v_X11_transmits_2 M = lN (1103515245 * m + 12345) := by
    show (1103515245 : Int64) * M.2.1 + 12345 = _
    rw [e, ← lN_add, ← lN_mul]
    rfl
  refine ⟨(1103515245 * m + 12345) % 2147483648, Nat.mod_lt _ (by decide), ?_⟩
  show v_X11_transmits_2 M - v_X11_transmits_2 M / 2147483648 * 2147483648 = _
  rw [h1]
  exact pk_lRem (b := 2147483648) (by omega) (by omega) (by omega)
theorem draw_r {M : St} (X : Nat → Int32) (h : okR M) (hj : okJ M) : r_X9_drawDeviation (mix M X) = v_X11_transmits_13 M := by
  obtain ⟨m, hm, e⟩ := rnd_next h
  obtain ⟨j, hj2, hje⟩ : ∃ j : Nat, j ≤ 2000 ∧ M.1 3 = nI j := nI_of2 (M := 2000) rfl (fun q => absurd hj.1 (Int32.not_le.mpr q)) hj.2
  have hd : (2 : Int32) * M.1 3 + 1 = nI (2 * j + 1) := by
    rw [hje, ← nI_1]
    show nI 2 * nI j + 1 = _
    rw [pk_mul]
  have hq : v_X11_transmits_3 M / 65536 = lN (m / 65536) := by
    rw [e]
    exact pk_lDiv (b := 65536) (by omega) (by omega) (by omega)
  show (if M.1 3 = 0 then (0 : Int32) else (Int64.toInt32 (v_X11_transmits_3 M / 65536) - Int64.toInt32 (v_X11_transmits_3 M / 65536) / (2 * M.1 3 + 1) * (2 * M.1 3 + 1)) - M.1 3) = (if M.1 3 = 0 then (0 : Int32) else Int64.toInt32 (v_X11_transmits_3 M / 65536 - v_X11_transmits_3 M / 65536 / Int32.toInt64 (2 * M.1 3 + 1) * Int32.toInt64 (2 * M.1 3 + 1)) - M.1 3)
  rw [hd, hq, lN_i, nI_l (by omega), pk_rem (by omega) (by omega) (by omega), pk_lRem (by omega) (by omega) (by omega), lN_i]
theorem sr_1 (S : St) (r : Int64) : (sr S r).1 = S.1 := rfl
theorem sr_2 (S : St) (r : Int64) : (sr S r).2.1 = r := rfl
theorem sr_3 (S : St) (r : Int64) : (sr S r).2.2 = S.2.2 := rfl
theorem tr12_1 (M : St) : (s_X11_transmits_12 M).1 = M.1 := by
  unfold s_X11_transmits_12
  split
  · rfl
  · exact sr_1 M (v_X11_transmits_3 M)
theorem adv_eq {M : St} (X : Nat → Int32) (h : okR M) (hj : okJ M) : s_X9_advance (mix M X) = mix (s_X11_transmits_20 M) X := by
  have e5 : s_X9_advance_5 (mix M X) = mix (s_X11_transmits_16 M) X := by
    show si (s_X9_drawDeviation (mix M X)) 1 (M.1 1 + (M.1 2 + r_X9_drawDeviation (mix M X))) = mix (si (s_X11_transmits_12 M) 1 ((s_X11_transmits_12 M).1 1 + ((s_X11_transmits_12 M).1 2 + v_X11_transmits_13 M))) X
    rw [draw_s, draw_r X h hj, tr12_1, mix_si rfl]
  show (if (s_X9_advance_5 (mix M X)).1 1 < 65536 then s_X9_advance_5 (mix M X) else s_X9_advance_8 (mix M X)) = mix (if (s_X11_transmits_16 M).1 1 < 65536 then s_X11_transmits_16 M else s_X11_transmits_19 M) X
  have e1 : (s_X9_advance_5 (mix M X)).1 1 = (s_X11_transmits_16 M).1 1 := by rw [e5]; rfl
  rw [e1]
  refine mix_if (fun _ => e5) (fun _ => ?_)
  show s_X9_sendNextBit (si (s_X9_advance_5 (mix M X)) 1 ((s_X9_advance_5 (mix M X)).1 1 - 65536)) = _
  rw [e1, e5, mix_si rfl, sends_eq]
  rfl
