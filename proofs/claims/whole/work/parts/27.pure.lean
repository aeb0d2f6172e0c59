def okB (M : St) : Prop := M.1 7 = 0 ∨ M.1 7 = 1
theorem mem_eq (m v : Int32) (hv : v = 0 ∨ v = 1) : ((m <<< ((1 : Int32) &&& 31)) ||| v) &&& 65535 = ((m <<< ((1 : Int32) &&& 31)) &&& 65535) ||| v := by
  apply b_ext
  intro i hi
  rw [b_and, b_or, b_or, b_and, b_65535]
  rcases hv with rfl | rfl
  · rw [b_0, Bool.or_false, Bool.or_false]
  · rw [b_1]
    by_cases h : i = 0
    · subst h
      rw [decide_eq_true (show (0 : Nat) = 0 from rfl), Bool.or_true, Bool.or_true]
      rfl
    · rw [decide_eq_false h, Bool.or_false, Bool.or_false]
theorem sends_b {M : St} : okB (s_X11_sends M) := by
  unfold okB s_X11_sends s_X11_sends_17
  split
  · have e : (s_X11_sends_12 M).1 7 = (s_X11_sends_2 M).1 6 &&& 1 := (si_ne (by decide)).trans (si_at _ _ _)
    rw [e]; exact and1_cases _
  · have e : (s_X11_sends_16 M).1 7 = v_X11_sends_14 M &&& 1 := si_at _ _ _
    rw [e]; exact and1_cases _
theorem tr20_b {M : St} (h : okB M) : okB (s_X11_transmits_20 M) := by
  have e : (s_X11_transmits_16 M).1 7 = M.1 7 := (si_ne (by decide)).trans (congrFun (tr12_1 M) 7)
  unfold s_X11_transmits_20
  split
  · unfold okB; rw [e]; exact h
  · exact sends_b
theorem ite01 {c : Prop} [Decidable c] : ((if c then (0 : Int32) else 1) = 0) ↔ c := by
  by_cases h : c
  · rw [if_pos h]; exact ⟨fun _ => h, fun _ => rfl⟩
  · rw [if_neg h]; exact ⟨fun q => absurd q (by decide), fun q => absurd q h⟩
theorem ite10 {c : Prop} [Decidable c] : ((if c then (1 : Int32) else 0) = 0) ↔ ¬ c := by
  by_cases h : c
  · rw [if_pos h]; exact ⟨fun q => absurd q (by decide), fun q => absurd h q⟩
  · rw [if_neg h]; exact ⟨fun _ => h, fun _ => rfl⟩
theorem hcs_eq {S : St} {m p0 : Int32} (h : S.1 8 = m) : r_X3_hasChangedSince S p0 = if m &&& 1 = (m >>> (p0 &&& 31)) &&& 1 then 0 else 1 := by
  show (if (S.1 8 ^^^ (S.1 8 >>> (p0 &&& 31))) &&& 1 = 1 then (1 : Int32) else 0) = _
  rw [h]
  exact hc_eq _ _
theorem tr26_8 (M : St) : (s_X11_transmits_26 M).1 8 = v_X11_transmits_25 M := si_at _ _ _
theorem tr31 (M : St) : v_X11_transmits_31 M = if v_X11_transmits_25 M &&& 1 = (v_X11_transmits_25 M >>> ((1 : Int32) &&& 31)) &&& 1 then 0 else 1 := by
  show (if (s_X11_transmits_26 M).1 8 &&& 1 = ((s_X11_transmits_26 M).1 8 >>> ((1 : Int32) &&& 31)) &&& 1 then (0 : Int32) else 1) = _
  rw [tr26_8]
theorem tr25 (M : St) : v_X11_transmits_25 M = (((s_X11_transmits_20 M).1 8 <<< ((1 : Int32) &&& 31)) &&& 65535) ||| (s_X11_transmits_20 M).1 7 := by
  have e8 : (s_X11_transmits_22 M).1 8 = (s_X11_transmits_20 M).1 8 := si_ne (by decide)
  have e7 : (s_X11_transmits_22 M).1 7 = (s_X11_transmits_20 M).1 7 := si_ne (by decide)
  show (((s_X11_transmits_22 M).1 8 <<< ((1 : Int32) &&& 31)) &&& 65535) ||| (s_X11_transmits_22 M).1 7 = _
  rw [e8, e7]
theorem tick1 {n : Nat} {M : St} (X : Nat → Int32) (hn : n < 1000000) (hm : okM n M) (hr : okR M) (hb : okB M) : s_X10_passTick_4 (mix M X) = mix (s_X11_transmits M) X := by
  have e1 : s_X10_passTick_1 (mix M X) = mix (s_X11_transmits_20 M) X := adv_eq X hr hm.1
  have e2 : s_X10_passTick_2 (mix M X) = mix (si (s_X11_transmits_20 M) 8 (v_X11_transmits_25 M)) X := by
    show si (s_X10_passTick_1 (mix M X)) 8 ((((s_X10_passTick_1 (mix M X)).1 8 <<< ((1 : Int32) &&& 31)) ||| (s_X10_passTick_1 (mix M X)).1 7) &&& 65535) = _
    rw [e1, mix_rd (k := 8) rfl, mix_rd (k := 7) rfl, mem_eq _ _ (tr20_b hb), ← tr25, mix_si rfl]
  have e3 : v_X10_passTick_3 (mix M X) = v_X11_transmits_31 M := by
    show r_X3_hasChangedSince (s_X10_passTick_2 (mix M X)) 1 = _
    rw [e2, tr31]
    exact hcs_eq ((mix_rd rfl).trans (si_at _ _ _))
  have e4 : si (s_X10_passTick_2 (mix M X)) 9 ((s_X10_passTick_2 (mix M X)).1 9 + 1) = mix (s_X11_transmits_26 M) X := by
    rw [e2, mix_rd (k := 9) rfl, mix_si rfl, si_ne (by decide), si_comm (by decide)]
    rfl
  have ei : (s_X11_transmits_26 M).1 9 &&& 255 = v_X11_transmits_27 M := by
    have h9 : (s_X11_transmits_26 M).1 9 = nI (tk M + 1) := by rw [tr_tk, hm.2.1.1, nI_1]
    have hk := hm.2.1.2
    show _ = (s_X11_transmits_26 M).1 9 - (s_X11_transmits_26 M).1 9 / 256 * 256
    rw [irem_nI (d := 256) (m := 256) h9 rfl (by omega) (by omega) (by omega), h9]
    exact pk_andN (by omega) 8 rfl
  show sg (si (s_X10_passTick_2 (mix M X)) 9 ((s_X10_passTick_2 (mix M X)).1 9 + 1)) ((si (s_X10_passTick_2 (mix M X)) 9 ((s_X10_passTick_2 (mix M X)).1 9 + 1)).1 9 &&& 255).toNatClampNeg (vp_nar .boolean (v_X10_passTick_3 (mix M X))) = _
  rw [e4, e3, mix_rd (k := 9) rfl, ei]
  rfl
theorem vnb {c : Prop} [Decidable c] : vp_nar .boolean (if c then (0 : Int32) else 1) = if c then 0 else 1 := by
  by_cases h : c
  · rw [if_pos h]; decide
  · rw [if_neg h]; decide
theorem ps3 (M : St) : v_X11_passes_3 M = v_X11_transmits_31 M := by
  have e9 : (s_X11_passes_1 M).1 9 = (s_X11_transmits_26 M).1 9 := rfl
  have e2 : v_X11_passes_2 M = v_X11_transmits_27 M := by
    show (s_X11_passes_1 M).1 9 - (s_X11_passes_1 M).1 9 / 256 * 256 = (s_X11_transmits_26 M).1 9 - (s_X11_transmits_26 M).1 9 / 256 * 256
    rw [e9]
  show (s_X11_passes_1 M).2.2.1 (v_X11_passes_2 M).toNatClampNeg = _
  rw [e2]
  show upd (s_X11_transmits_26 M).2.2.1 (v_X11_transmits_27 M).toNatClampNeg (vp_nar .boolean (v_X11_transmits_31 M)) (v_X11_transmits_27 M).toNatClampNeg = _
  rw [upd_at, tr31]
  exact vnb
theorem watch_eq (M : St) (X : Nat → Int32) : s_X6_watchLine (mix (s_X11_transmits M) X) ((mix (s_X11_transmits M) X).1 11) = mix (s_X11_passes_15 M) X := by
  have e8 : (mix (s_X11_transmits M) X).1 8 = v_X11_transmits_25 M := (mix_rd rfl).trans (tr26_8 M)
  have v1 : v_X6_watchLine_1 (mix (s_X11_transmits M) X) ((mix (s_X11_transmits M) X).1 11) = v_X11_passes_3 M := by
    rw [ps3, tr31]
    exact hcs_eq e8
  have e5 : s_X6_watchLine_5 (mix (s_X11_transmits M) X) ((mix (s_X11_transmits M) X).1 11) = mix (s_X11_passes_7 M) X := by
    show (if v_X6_watchLine_1 _ _ = 0 then _ else _) = mix (if v_X11_passes_3 M = 0 then s_X11_passes_1 M else s_X11_passes_6 M) X
    rw [v1]
    refine mix_if (fun _ => rfl) (fun _ => ?_)
    show si (mix (s_X11_passes_1 M) X) 18 ((32768 - (mix (s_X11_passes_1 M) X).1 11) / 256) = _
    rw [mix_si rfl, mix_rd (k := 11) rfl]
    rfl
  have h11 : (s_X11_passes_7 M).1 11 = (s_X11_transmits M).1 11 := by
    unfold s_X11_passes_7
    split
    · rfl
    · exact si_ne (by decide)
  show (if v_X6_watchLine_6 _ _ = 0 then s_X6_watchLine_5 _ _ else si (s_X6_watchLine_5 _ _) 19 ((s_X6_watchLine_5 _ _).1 19 + (if r_X10_isWithin (s_X6_watchLine_5 _ _) ((mix (s_X11_transmits M) X).1 11) 16384 49151 = 0 then (-1) else 1))) = mix (if v_X11_passes_8 M = v_X11_passes_10 M then s_X11_passes_7 M else s_X11_passes_14 M) X
  have v6 : v_X6_watchLine_6 (mix (s_X11_transmits M) X) ((mix (s_X11_transmits M) X).1 11) = if v_X11_passes_8 M = v_X11_passes_10 M then 0 else 1 := by
    show r_X3_hasChangedSince (s_X6_watchLine_5 _ _) 8 = _
    rw [e5]
    exact hcs_eq (mix_rd rfl)
  rw [v6, e5]
  by_cases h : v_X11_passes_8 M = v_X11_passes_10 M
  · rw [if_pos h, if_pos rfl, if_pos h]
  · rw [if_neg h, if_neg (by decide), if_neg h, mix_rd (k := 19) rfl, mix_rd (k := 11) rfl, mix_si rfl, ← h11]
    rfl
