theorem data_eq {n : Nat} {M : St} {X : Nat → Int32} (hn : n < 2000000) (hm : okM n M) (hr1 : rc M + 1 ≤ n) (hb : okB M) (hd : M.1 15 = 0 ∨ M.1 15 = 1 ∨ M.1 15 = 2 ∨ M.1 15 = 3 ∨ M.1 15 = 4) (hs : InvS M X) (hg : InvG M X) :
    ∃ X' : Nat → Int32, s_X10_actOnDataStrobe (mix M X) = mix (s_X11_receives M) X' ∧ InvS (s_X11_receives M) X' ∧ InvG (s_X11_receives M) X' := by
  obtain ⟨hs40, hs41, hs42, ⟨st, hs43, hst, hsteady⟩, hs5⟩ := hs
  obtain ⟨hg31, ⟨sh, hsh, hg32, hg44⟩, hg45, hg46⟩ := hg
  have h24 := hm.2.2.1
  have hrn := hm.2.2.2
  -- the names
  generalize hL : r_X11_levelNow M = Lv
  generalize hE : r_X6_measureAtData (mix M X) (M.1 7) Lv = E
  generalize hD : M.1 5 - M.1 26 = D
  generalize hPh : M.1 1 - 32768 = Ph
  have eL : r_X3_findLevel (mix M X) = Lv := by rw [← hL]; exact level_eq (mix_rd rfl)
  have z24 : (M.1 24 ≤ 0) ↔ (M.1 24 = 0) := by
    rw [h24]
    have q1 := nI_leI (a := rc M) (b := 0) (by omega) (by omega)
    have q2 := nI_eq (a := rc M) (b := 0) (by omega) (by omega)
    exact ⟨fun z => q2.mpr (by have := q1.mp z; omega), fun z => q1.mpr (by have := q2.mp z; omega)⟩
  -- the first half
  obtain ⟨A4, hA4⟩ : ∃ A : St, A = if M.1 15 = 4 then M else s_X11_measures M E := ⟨_, rfl⟩
  have e4 : s_X10_actOnDataStrobe_4 (mix M X) = mix A4 X := by
    show (if M.1 15 = 4 then mix M X else s_X4_takeError (mix M X) (r_X6_measureAtData (mix M X) ((mix M X).1 7) (r_X3_findLevel (mix M X)))) = _
    rw [eL, mix_rd (k := 7) rfl, hE, te_eq, hA4]
    exact mix_ite
  have a4 : ∀ k, (k < 12 ∨ 14 < k) → A4.1 k = M.1 k := fun k hk => by
    rw [hA4]
    split
    · rfl
    · exact ms_ne hk
  have a4_2 : A4.2 = M.2 := by
    rw [hA4]
    split <;> rfl
  obtain ⟨A5, hA5⟩ : ∃ A : St, A = si (si (si A4 18 0) 19 0) 23 Lv := ⟨_, rfl⟩
  have e5 : s_X10_actOnDataStrobe_5 (mix M X) = mix A5 X := by
    show si (si (si (s_X10_actOnDataStrobe_4 (mix M X)) 18 0) 19 0) 23 (r_X3_findLevel (mix M X)) = _
    rw [eL, e4, mix_si rfl, mix_si rfl, mix_si rfl, hA5]
  have a5 : ∀ k, (k ≠ 18 ∧ k ≠ 19 ∧ k ≠ 23) → A5.1 k = A4.1 k := fun k hk => by
    rw [hA5]
    exact (si_ne hk.2.2).trans ((si_ne hk.2.1).trans (si_ne hk.1))
  obtain ⟨A6, hA6⟩ : ∃ A : St, A = si (si A5 24 (M.1 24 + 1)) 25 ((M.1 25 <<< ((1 : Int32) &&& 31)) ||| M.1 7) := ⟨_, rfl⟩
  have e6 : s_X10_actOnDataStrobe_6 (mix M X) = mix A6 X := by
    show si (si (s_X10_actOnDataStrobe_5 (mix M X)) 24 ((s_X10_actOnDataStrobe_5 (mix M X)).1 24 + 1)) 25 (((si (s_X10_actOnDataStrobe_5 (mix M X)) 24 ((s_X10_actOnDataStrobe_5 (mix M X)).1 24 + 1)).1 25 <<< ((1 : Int32) &&& 31)) ||| (mix M X).1 7) = _
    rw [e5, mix_rd (k := 24) rfl, mix_rd (k := 7) rfl, si_ne (by decide), mix_rd (k := 25) rfl, a5 24 (by decide), a5 25 (by decide), a4 24 (by decide), a4 25 (by decide), mix_si rfl, mix_si rfl, hA6]
  have a6 : ∀ k, (k ≠ 24 ∧ k ≠ 25) → A6.1 k = A5.1 k := fun k hk => by
    rw [hA6]
    exact (si_ne hk.2).trans (si_ne hk.1)
  have a6m : ∀ k, (k < 12 ∨ 14 < k) → (k ≠ 18 ∧ k ≠ 19 ∧ k ≠ 23 ∧ k ≠ 24 ∧ k ≠ 25) → A6.1 k = M.1 k := fun k h1 h2 => by
    rw [a6 k ⟨h2.2.2.2.1, h2.2.2.2.2⟩, a5 k ⟨h2.1, h2.2.1, h2.2.2.1⟩, a4 k h1]
  -- the slips
  obtain ⟨w, hw⟩ : ∃ w : Int32, w = if M.1 24 = 0 then 1 else D := ⟨_, rfl⟩
  have x40 : (X 40 = 0) ↔ (M.1 24 = 0) := by
    rw [hs40]
    exact ite01
  obtain ⟨B6, hB6⟩ : ∃ A : St, A = si A6 26 (M.1 5) := ⟨_, rfl⟩
  have v2c : v_X8_compare_2 (mix A6 X) (M.1 5) = w := by
    show (if (mix A6 X).1 40 = 0 then (1 : Int32) else M.1 5 - (mix A6 X).1 26) = w
    rw [mix_rx (k := 40) rfl, mix_rd (k := 26) rfl, a6m 26 (by decide) (by decide), hD, hw]
    by_cases z : M.1 24 = 0
    · rw [if_pos z, if_pos (x40.mpr z)]
    · rw [if_neg z, if_neg (fun y => z (x40.mp y))]
  have s4c : s_X8_compare_4 (mix A6 X) (M.1 5) = mix B6 (upd X 40 1) := by
    show si (si (mix A6 X) 40 1) 26 (M.1 5) = _
    rw [mix_sx rfl, mix_si rfl, hB6]
  obtain ⟨A7, hA7⟩ : ∃ A : St, A = if w = 0 then si B6 27 (M.1 27 + 1) else if w ≤ 1 then B6 else si B6 28 (M.1 28 + (w - 1)) := ⟨_, rfl⟩
  have b6 : ∀ k, k ≠ 26 → B6.1 k = A6.1 k := fun k hk => by rw [hB6]; exact si_ne hk
  have e7 : s_X10_actOnDataStrobe_7 (mix M X) = mix A7 (upd X 40 1) := by
    show s_X8_compare (s_X10_actOnDataStrobe_6 (mix M X)) ((s_X10_actOnDataStrobe_6 (mix M X)).1 5) = _
    rw [e6, mix_rd (k := 5) rfl, a6m 5 (by decide) (by decide)]
    show (if v_X8_compare_2 (mix A6 X) (M.1 5) = 0 then si (s_X8_compare_4 (mix A6 X) (M.1 5)) 27 ((s_X8_compare_4 (mix A6 X) (M.1 5)).1 27 + 1) else if v_X8_compare_2 (mix A6 X) (M.1 5) ≤ 1 then s_X8_compare_4 (mix A6 X) (M.1 5) else si (s_X8_compare_4 (mix A6 X) (M.1 5)) 28 ((s_X8_compare_4 (mix A6 X) (M.1 5)).1 28 + (v_X8_compare_2 (mix A6 X) (M.1 5) - 1))) = _
    rw [v2c, s4c, mix_rd (k := 27) rfl, mix_rd (k := 28) rfl, b6 27 (by decide), b6 28 (by decide), a6m 27 (by decide) (by decide), a6m 28 (by decide) (by decide), mix_si rfl, mix_si rfl, mix_ite, mix_ite, hA7]
  obtain ⟨sl, hsl⟩ : ∃ b : Int32, b = if w = 1 then (0 : Int32) else 1 := ⟨_, rfl⟩
  have v8 : v_X10_actOnDataStrobe_8 (mix M X) = sl := by
    show r_X8_compare (s_X10_actOnDataStrobe_6 (mix M X)) ((s_X10_actOnDataStrobe_6 (mix M X)).1 5) = _
    rw [e6, mix_rd (k := 5) rfl, a6m 5 (by decide) (by decide)]
    show (if v_X8_compare_2 (mix A6 X) (M.1 5) = 1 then (0 : Int32) else 1) = sl
    rw [v2c, hsl]
  have a7 : ∀ k, (k ≠ 27 ∧ k ≠ 28) → A7.1 k = B6.1 k := fun k hk => by
    rw [hA7]
    split
    · exact si_ne hk.1
    · split
      · rfl
      · exact si_ne hk.2
  have a7_2 : A7.2 = M.2 := by
    have q : B6.2 = M.2 := by rw [hB6, hA6, hA5]; exact a4_2
    rw [hA7]
    split
    · exact q
    · split
      · exact q
      · exact q
  have a7_27 : A7.1 27 = if w = 0 then M.1 27 + 1 else M.1 27 := by
    rw [hA7]
    split
    · exact si_at _ _ _
    · have q : B6.1 27 = M.1 27 := (b6 27 (by decide)).trans (a6m 27 (by decide) (by decide))
      split
      · exact q
      · exact (si_ne (by decide)).trans q
  have a7_28 : A7.1 28 = if w = 0 then M.1 28 else if w ≤ 1 then M.1 28 else M.1 28 + (w - 1) := by
    have q : B6.1 28 = M.1 28 := (b6 28 (by decide)).trans (a6m 28 (by decide) (by decide))
    rw [hA7]
    split
    · exact (si_ne (by decide)).trans q
    · split
      · exact q
      · exact si_at _ _ _
  -- the phases
  have h1 : A7.1 1 = M.1 1 := (a7 1 (by decide)).trans ((b6 1 (by decide)).trans (a6m 1 (by decide) (by decide)))
  obtain ⟨ix, hix⟩ : ∃ i : Nat, i = (M.1 24 &&& 31).toNatClampNeg := ⟨_, rfl⟩
  have hix2 : ix = rc M % 32 := by
    have q : M.1 24 &&& 31 = nI (rc M % 2 ^ 5) := by rw [h24]; exact pk_andN (by omega) 5 rfl
    rw [hix, q, nI_clamp (by omega)]
  obtain ⟨st2, hst2⟩ : ∃ s2 : Nat, (((sl = 0 ∧ inr Ph) ∧ s2 = st + 1) ∨ (¬ (sl = 0 ∧ inr Ph) ∧ s2 = 0)) := by
    by_cases q : sl = 0 ∧ inr Ph
    · exact ⟨st + 1, Or.inl ⟨q, rfl⟩⟩
    · exact ⟨0, Or.inr ⟨q, rfl⟩⟩
  obtain ⟨X10, hX10⟩ : ∃ Y : Nat → Int32, Y = upd (upd (upd (upd X 40 1) 41 (M.1 24 + 1)) 42 Ph) 43 (nI st2) := ⟨_, rfl⟩
  have e10 : s_X10_actOnDataStrobe_10 (mix M X) = mix (sf A7 ix Ph) X10 := by
    have g2 : s_X7_add_2 (mix A7 (upd X 40 1)) Ph sl = mix (sf A7 ix Ph) (upd X 40 1) := by
      show sf (mix A7 (upd X 40 1)) (((mix A7 (upd X 40 1)).1 41 &&& 31)).toNatClampNeg Ph = _
      rw [mix_rx (k := 41) rfl, upd_ne (by decide), hs41, ← hix]
      rfl
    have g5 : s_X7_add_5 (mix A7 (upd X 40 1)) Ph sl = mix (sf A7 ix Ph) (upd (upd (upd X 40 1) 41 (M.1 24 + 1)) 42 Ph) := by
      show si (si (s_X7_add_2 (mix A7 (upd X 40 1)) Ph sl) 41 ((s_X7_add_2 (mix A7 (upd X 40 1)) Ph sl).1 41 + 1)) 42 Ph = _
      rw [g2, mix_rx (k := 41) rfl, upd_ne (show (41 : Nat) ≠ 40 by decide), hs41, mix_sx rfl, mix_sx rfl]
    have g7 : v_X7_add_9 (mix A7 (upd X 40 1)) Ph sl = nI st2 := by
      show (if (if sl = 0 then (if (if Ph < -16384 then (0 : Int32) else if 16383 < Ph then 0 else 1) = 0 then (0 : Int32) else 1) else 0) = 0 then (0 : Int32) else (s_X7_add_5 (mix A7 (upd X 40 1)) Ph sl).1 43 + 1) = nI st2
      rw [g5, mix_rx (k := 43) rfl, upd_ne (by decide), upd_ne (by decide), upd_ne (by decide), hs43, nI_1]
      rcases hst2 with ⟨⟨q0, q1, q2⟩, rfl⟩ | ⟨q, rfl⟩
      · rw [if_pos q0, if_neg q1, if_neg q2]
        rfl
      · have hz : (if sl = 0 then (if (if Ph < -16384 then (0 : Int32) else if 16383 < Ph then 0 else 1) = 0 then (0 : Int32) else 1) else 0) = 0 := by
          by_cases q0 : sl = 0
          · rw [if_pos q0]
            by_cases q1 : Ph < -16384
            · rw [if_pos q1, if_pos rfl]
            · rw [if_neg q1]
              by_cases q2 : 16383 < Ph
              · rw [if_pos q2, if_pos rfl]
              · exact absurd ⟨q0, q1, q2⟩ q
          · rw [if_neg q0]
        rw [hz, if_pos rfl]
        rfl
    show s_X7_add (s_X10_actOnDataStrobe_7 (mix M X)) ((s_X10_actOnDataStrobe_7 (mix M X)).1 1 - 32768) (v_X10_actOnDataStrobe_8 (mix M X)) = _
    rw [v8, e7, mix_rd (k := 1) rfl, h1, hPh]
    show si (s_X7_add_5 (mix A7 (upd X 40 1)) Ph sl) 43 (v_X7_add_9 (mix A7 (upd X 40 1)) Ph sl) = _
    rw [g5, g7, mix_sx rfl, hX10]
  -- the check's half
  have rv1 : v_X11_receives_1 M = D := hD
  have rv2 : v_X11_receives_2 M = if M.1 24 = 0 then 0 else if D = 1 then 0 else 1 := by
    show (if M.1 24 ≤ 0 then (0 : Int32) else if v_X11_receives_1 M = 1 then 0 else 1) = _
    rw [rv1]
    by_cases z : M.1 24 = 0
    · rw [if_pos z, if_pos (z24.mpr z)]
    · rw [if_neg z, if_neg (fun y => z (z24.mp y))]
  have rv11 : v_X11_receives_11 M = sl := by
    rw [hsl, hw]
    show (if v_X11_receives_2 M = 0 then (0 : Int32) else 1) = _
    rw [rv2, slip_c]
  have hslb : sl = 0 ∨ sl = 1 := by
    rw [hsl]
    by_cases q : w = 1
    · exact Or.inl (if_pos q)
    · exact Or.inr (if_neg q)
  have r16 : ∀ k, (k < 27 ∨ 29 < k) → (s_X11_receives_16 M).1 k = M.1 k := fun k hk => (show (s_X11_receives_13 M).1 k = M.1 k from (si_ne (by omega)).trans ((si_ne (by omega)).trans (si_ne (by omega))))
  have r22' : ∀ k, (k ≠ 24 ∧ k ≠ 25 ∧ k ≠ 26) → (s_X11_receives_22 M).1 k = (s_X11_receives_16 M).1 k := fun k hk => (si_ne hk.1).trans ((si_ne hk.2.1).trans (si_ne hk.2.2))
  have mixB : mix (sf A7 ix Ph) X10 = mix (s_X11_receives_29 M) X10 := by
    refine mix_ext (fun k hk => ?_) ?_
    · show A7.1 k = _
      have hk := shb_mem hk
      by_cases c27 : k = 27
      · subst c27
        rw [a7_27, r29 M (by decide), r25 M (by decide), r22' 27 (by decide)]
        have q : (s_X11_receives_16 M).1 27 = M.1 27 + v_X11_receives_3 M := (show (s_X11_receives_13 M).1 27 = _ from (si_ne (by decide)).trans ((si_ne (by decide)).trans (si_at _ _ _)))
        rw [q, hw]
        show _ = M.1 27 + (if v_X11_receives_2 M = 0 then (0 : Int32) else if v_X11_receives_1 M = 0 then 1 else 0)
        rw [rv2, rv1]
        exact slip_a _ _ _
      by_cases c28 : k = 28
      · subst c28
        rw [a7_28, r29 M (by decide), r25 M (by decide), r22' 28 (by decide)]
        have q5 : (s_X11_receives_5 M).1 28 = M.1 28 := si_ne (by decide)
        have q : (s_X11_receives_16 M).1 28 = (s_X11_receives_5 M).1 28 + v_X11_receives_7 M := (show (s_X11_receives_13 M).1 28 = _ from (si_ne (by decide)).trans (si_at _ _ _))
        rw [q, q5, hw]
        show _ = M.1 28 + (if v_X11_receives_2 M = 0 then (0 : Int32) else if v_X11_receives_1 M ≤ 1 then 0 else v_X11_receives_1 M - 1)
        rw [rv2, rv1]
        exact slip_b _ _ _
      rw [a7 k ⟨c27, c28⟩]
      by_cases c26 : k = 26
      · subst c26
        rw [hB6, si_at, r29 M (by decide), r25 M (by decide)]
        have q : (s_X11_receives_22 M).1 26 = (s_X11_receives_16 M).1 5 := (si_ne (by decide)).trans ((si_ne (by decide)).trans (si_at _ _ _))
        rw [q, r16 5 (by decide)]
      rw [b6 k c26]
      by_cases c25 : k = 25
      · subst c25
        rw [hA6, si_at, r29 M (by decide), r25 M (by decide), r22_25]
      by_cases c24 : k = 24
      · subst c24
        rw [hA6, si_ne (by decide), si_at, r29 M (by decide), r25 M (by decide), r22_24]
      rw [a6 k ⟨c24, c25⟩]
      by_cases c23 : k = 23
      · subst c23
        rw [hA5, si_at]
        have q : (s_X11_receives_29 M).1 23 = r_X11_levelNow (s_X11_receives_27 M) := si_at _ _ _
        rw [q, ← hL]
        refine lvl_cong ?_
        have q2 : (s_X11_receives_27 M).1 8 = (s_X11_receives_25 M).1 8 := (si_ne (by decide)).trans (si_ne (by decide))
        rw [q2, r25 M (by decide), r22 M (by decide)]
      by_cases c19 : k = 19
      · subst c19
        have q : (s_X11_receives_29 M).1 19 = 0 := (si_ne (by decide)).trans (si_at _ _ _)
        rw [hA5, si_ne (by decide), si_at, q]
      by_cases c18 : k = 18
      · subst c18
        have q : (s_X11_receives_29 M).1 18 = 0 := (si_ne (by decide)).trans ((si_ne (by decide)).trans (si_at _ _ _))
        rw [hA5, si_ne (by decide), si_ne (by decide), si_at, q]
      rw [a5 k ⟨c18, c19, c23⟩, r29 M ⟨c18, c19, c23⟩]
      by_cases c12 : k < 12 ∨ 14 < k
      · have c29 : k ≠ 29 := fun q => by rw [q] at hk; exact absurd hk (by decide)
        rw [a4 k c12, r25 M c12, r22' k ⟨c24, c25, c26⟩, r16 k (by omega)]
      · have e15 := r22 M (k := 15) (by decide)
        by_cases c4 : M.1 15 = 4
        · have hge : (4 : Int32) ≤ (s_X11_receives_22 M).1 15 := by rw [e15, c4]; decide
          have q : s_X11_receives_25 M = s_X11_receives_22 M := if_pos hge
          rw [hA4, if_pos c4, q, r22 M (by omega)]
        · have hd3 : M.1 15 = 0 ∨ M.1 15 = 1 ∨ M.1 15 = 2 ∨ M.1 15 = 3 := by
            rcases hd with q | q | q | q | q
            · exact Or.inl q
            · exact Or.inr (Or.inl q)
            · exact Or.inr (Or.inr (Or.inl q))
            · exact Or.inr (Or.inr (Or.inr q))
            · exact absurd q c4
          have hlt : ¬ (4 : Int32) ≤ (s_X11_receives_22 M).1 15 := by
            rw [e15]
            rcases hd3 with q | q | q | q <;> rw [q] <;> decide
          have q : s_X11_receives_25 M = s_X11_measures (s_X11_receives_22 M) (r_X11_measured (s_X11_receives_22 M)) := if_neg hlt
          have hme : r_X11_measured (s_X11_receives_22 M) = E := by rw [← meas_eq X hn hm hb hd3, hL, hE]
          obtain ⟨m12, m13, m14⟩ := ms_dep (S := M) (T := s_X11_receives_22 M) (e := E) (r22 M (by decide)).symm (r22 M (by decide)).symm (r22 M (by decide)).symm
          rw [hA4, if_neg c4, q, hme]
          have h3 : k = 12 ∨ k = 13 ∨ k = 14 := by omega
          rcases h3 with rfl | rfl | rfl
          · exact m12
          · exact m13
          · exact m14
    · rw [r29_2]
      show (A7.2.1, A7.2.2.1, upd A7.2.2.2 ix Ph) = ((s_X11_receives_13 M).2.1, (s_X11_receives_13 M).2.2.1, upd (s_X11_receives_13 M).2.2.2 (v_X11_receives_14 M).toNatClampNeg ((s_X11_receives_13 M).1 1 - 32768))
      have q2 : (s_X11_receives_13 M).2 = M.2 := rfl
      have q1 : (s_X11_receives_13 M).1 1 = M.1 1 := r16 1 (by decide)
      have q24 : (s_X11_receives_13 M).1 24 = nI (rc M) := (r16 24 (by decide)).trans h24
      have qi : (v_X11_receives_14 M).toNatClampNeg = ix := by
        have qv : v_X11_receives_14 M = nI (rc M % 32) := by
          show (s_X11_receives_13 M).1 24 - (s_X11_receives_13 M).1 24 / 32 * 32 = _
          exact irem_nI (m := 32) q24 rfl (by omega) (by omega) (by omega)
        rw [qv, nI_clamp (by omega), hix2]
      rw [qi, q1, hPh, q2, a7_2]
  rw [mixB] at e10
  have b24 : (s_X11_receives_29 M).1 24 = M.1 24 + 1 := by rw [r29 M (by decide), r25 M (by decide), r22_24]
  have rcB : rc (s_X11_receives_29 M) = rc M + 1 := by
    have q : M.1 24 + 1 = nI (rc M + 1) := by rw [h24, nI_1]
    show ((s_X11_receives_29 M).1 24).toNatClampNeg = _
    rw [b24, q, nI_clamp (by omega)]
  have bk : ∀ k, 29 < k → (s_X11_receives_29 M).1 k = M.1 k := fun k hk => by rw [r29 M (by omega), r25 M (by omega), r22 M (by omega)]
  have x44 : ∀ k, 43 < k → X10 k = X k := fun k hk => by
    rw [hX10, upd_ne (by omega), upd_ne (by omega), upd_ne (by omega), upd_ne (by omega)]
  obtain ⟨X', hx1, hx2, hx3⟩ := take_eq (n := n) (M := s_X11_receives_29 M) (X := X10) (by omega) hn (by rw [bk 31 (by decide)]; exact hg31) (sh := sh) (by omega) (by rw [bk 32 (by decide)]; exact hg32) (by rw [bk 31 (by decide), x44 44 (by decide)]; exact hg44) (by rw [bk 31 (by decide), x44 45 (by decide), bk 33 (by decide)]; exact hg45) (by rw [bk 31 (by decide), x44 46 (by decide), bk 34 (by decide)]; exact hg46)
  refine ⟨X', ?_, ?_, hx2⟩
  · show s_X0_take (s_X10_actOnDataStrobe_10 (mix M X)) (r_X1_endsWithSyncWord (s_X10_actOnDataStrobe_10 (mix M X))) = _
    rw [e10]
    exact hx1
  · have R24 : (s_X11_receives M).1 24 = M.1 24 + 1 := (al_lo _ (by decide)).trans b24
    have R29 : (s_X11_receives M).1 29 = (M.1 29 <<< ((1 : Int32) &&& 31)) ||| sl := by
      have q : (s_X11_receives M).1 29 = (s_X11_receives_29 M).1 29 := al_lo _ (by decide)
      rw [q, r29_29, rv11]
    have Rrc : rc (s_X11_receives M) = rc M + 1 := (rc_of (S := s_X11_receives_29 M) (al_lo _ (by decide))).trans rcB
    have Rf : (s_X11_receives M).2.2.2 = upd M.2.2.2 (rc M % 32) Ph := by
      have q : (s_X11_receives M).2 = (s_X11_receives_29 M).2 := al2 _
      rw [q]
      have q2 := congrArg (fun S : St => S.2.2.2) mixB
      have q3 : (sf A7 ix Ph).2.2.2 = (s_X11_receives_29 M).2.2.2 := q2
      rw [← q3]
      show upd A7.2.2.2 ix Ph = _
      rw [a7_2, hix2]
    have n24 : ¬ M.1 24 + 1 = 0 := by rw [h24, nI_1]; exact nI_ne0 (by omega) (by omega)
    refine ⟨?_, ?_, fun _ => ?_, ⟨st2, ?_, ?_, ?_⟩, fun k h1 h2 => ?_⟩
    · rw [hx3 40 (by decide), hX10, upd_ne (by decide), upd_ne (by decide), upd_ne (by decide), upd_at, R24, if_neg n24]
    · rw [hx3 41 (by decide), hX10, upd_ne (by decide), upd_ne (by decide), upd_at, R24]
    · rw [hx3 42 (by decide), hX10, upd_ne (by decide), upd_at, Rrc, Rf, Nat.add_sub_cancel, upd_at]
    · rw [hx3 43 (by decide), hX10, upd_at]
    · rw [Rrc]
      rcases hst2 with ⟨_, q⟩ | ⟨_, q⟩ <;> omega
    · rw [Rrc, R29, Rf]
      exact steady_step hslb hsteady st2 hst2
    · rw [Rrc] at h1
      rw [Rf, upd_ne (by omega)]
      exact hs5 k (by omega) h2
