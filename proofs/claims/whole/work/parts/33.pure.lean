theorem sd_keep {S : St} {k : Nat} (h : k ≠ 5 ∧ k ≠ 6 ∧ k ≠ 7) : (s_X11_sends S).1 k = S.1 k := by
  have e2 : (s_X11_sends_2 S).1 k = S.1 k := si_ne h.1
  unfold s_X11_sends s_X11_sends_17
  split
  · exact (si_ne h.2.1).trans ((si_ne h.2.2).trans e2)
  · exact (si_ne h.2.2).trans e2
theorem sd_2 (S : St) : (s_X11_sends S).2 = S.2 := by
  unfold s_X11_sends s_X11_sends_17
  split <;> rfl
theorem tr_keep {S : St} {k : Nat} (h : k ≠ 1 ∧ k ≠ 5 ∧ k ≠ 6 ∧ k ≠ 7 ∧ k ≠ 8 ∧ k ≠ 9) : (s_X11_transmits S).1 k = S.1 k := by
  have e16 : (s_X11_transmits_16 S).1 k = S.1 k := (si_ne h.1).trans (congrFun (tr12_1 S) k)
  have e20 : (s_X11_transmits_20 S).1 k = S.1 k := by
    unfold s_X11_transmits_20
    split
    · exact e16
    · exact (sd_keep ⟨h.2.1, h.2.2.1, h.2.2.2.1⟩).trans ((si_ne h.1).trans e16)
  show (s_X11_transmits_26 S).1 k = S.1 k
  exact (si_ne h.2.2.2.2.1).trans ((si_ne h.2.2.2.2.2).trans e20)
theorem ps15_keep {S : St} {k : Nat} (h : k ≠ 18 ∧ k ≠ 19) : (s_X11_passes_15 S).1 k = (s_X11_transmits S).1 k := by
  have e7 : (s_X11_passes_7 S).1 k = (s_X11_transmits S).1 k := by
    unfold s_X11_passes_7
    split
    · rfl
    · exact si_ne h.1
  unfold s_X11_passes_15
  split
  · exact e7
  · exact (si_ne h.2).trans e7
theorem si_2 (S : St) (k : Nat) (v : Int32) : (si S k v).2 = S.2 := rfl
theorem ps15_2 (S : St) : (s_X11_passes_15 S).2 = (s_X11_transmits S).2 := by
  have e7 : (s_X11_passes_7 S).2 = (s_X11_transmits S).2 := by
    unfold s_X11_passes_7
    split <;> rfl
  unfold s_X11_passes_15
  split
  · exact e7
  · exact (si_2 (s_X11_passes_7 S) 19 (v_X11_passes_13 S)).trans e7
theorem tr12_2 (M : St) : (s_X11_transmits_12 M).2.2 = M.2.2 := by
  unfold s_X11_transmits_12
  split
  · rfl
  · exact sr_3 M (v_X11_transmits_3 M)
theorem tr20_2 (M : St) : (s_X11_transmits_20 M).2 = (s_X11_transmits_12 M).2 := by
  unfold s_X11_transmits_20
  split
  · rfl
  · exact sd_2 (s_X11_transmits_18 M)
theorem tr_r (M : St) : (s_X11_transmits M).2.1 = (s_X11_transmits_12 M).2.1 := (show (s_X11_transmits M).2.1 = (s_X11_transmits_20 M).2.1 from rfl).trans <| congrArg (fun z : Int64 × (Nat → Int32) × (Nat → Int32) => z.1) (tr20_2 M)
theorem tr_f (M : St) : (s_X11_transmits M).2.2.2 = M.2.2.2 := by
  have q : (s_X11_transmits M).2.2.2 = (s_X11_transmits_20 M).2.2.2 := rfl
  rw [q, tr20_2, tr12_2]
theorem tr_g {n : Nat} {M : St} (hn : n < 1000000) (hm : okM n M) : ∃ v : Int32, (s_X11_transmits M).2.2.1 = upd M.2.2.1 ((tk M + 1) % 256) v := by
  have hk := hm.2.1.2
  have h9 : (s_X11_transmits_26 M).1 9 = nI (tk M + 1) := by rw [tr_tk, hm.2.1.1, nI_1]
  have q : (s_X11_transmits M).2.2.1 = upd (s_X11_transmits_20 M).2.2.1 (v_X11_transmits_27 M).toNatClampNeg (vp_nar .boolean (v_X11_transmits_31 M)) := rfl
  have qi : v_X11_transmits_27 M = nI ((tk M + 1) % 256) := by
    show (s_X11_transmits_26 M).1 9 - (s_X11_transmits_26 M).1 9 / 256 * 256 = _
    exact irem_nI (m := 256) h9 rfl (by omega) (by omega) (by omega)
  refine ⟨vp_nar .boolean (v_X11_transmits_31 M), ?_⟩
  rw [q, qi, nI_clamp (by omega), tr20_2, tr12_2]
theorem tr_R {M : St} (h : okR M) : okR (s_X11_transmits M) := by
  have q : okR (s_X11_transmits_12 M) := by
    unfold s_X11_transmits_12
    split
    · exact h
    · obtain ⟨m, hm, e⟩ := rnd_next h
      exact ⟨m, hm, (sr_2 M (v_X11_transmits_3 M)).trans e⟩
  obtain ⟨m, hm, e⟩ := q
  exact ⟨m, hm, (tr_r M).trans e⟩
theorem tr_B {M : St} (h : okB M) : okB (s_X11_transmits M) := by
  have q : (s_X11_transmits M).1 7 = (s_X11_transmits_20 M).1 7 := (show (s_X11_transmits_26 M).1 7 = (s_X11_transmits_20 M).1 7 from (si_ne (by decide)).trans (si_ne (by decide)))
  unfold okB
  rw [q]
  exact tr20_b h
/-- no tick, no edge -/
def okE (M : St) : Prop := tk M < 256 → ∀ p, p < 256 → (p = 0 ∨ tk M < p) → M.2.2.1 p = 0
def Inv (n : Nat) (M : St) (X : Nat → Int32) : Prop := okM n M ∧ okR M ∧ okB M ∧ okP M ∧ okC M ∧ okD M ∧ InvS M X ∧ InvG M X ∧ okE M
theorem tick_eq {n : Nat} {M : St} {X : Nat → Int32} (hn : n < 1000000) (h : Inv n M X) : ∃ X' : Nat → Int32, s_X10_passTick (mix M X) = mix (s_X11_passes M) X' ∧ Inv (n + 1) (s_X11_passes M) X' := by
  obtain ⟨hm, hr, hb, hp, hc, hd, hs, hg, he⟩ := h
  have e5 : s_X10_passTick_5 (mix M X) = mix (s_X11_passes_15 M) X := by
    show s_X6_watchLine (s_X10_passTick_4 (mix M X)) ((s_X10_passTick_4 (mix M X)).1 11) = _
    rw [tick1 X hn hm hr hb]
    exact watch_eq M X
  have kN : ∀ k, k ≠ 1 → k ≠ 5 → k ≠ 6 → k ≠ 7 → k ≠ 8 → k ≠ 9 → k ≠ 18 → k ≠ 19 → (s_X11_passes_15 M).1 k = M.1 k := fun k a1 a5 a6 a7 a8 a9 a18 a19 => (ps15_keep ⟨a18, a19⟩).trans (tr_keep ⟨a1, a5, a6, a7, a8, a9⟩)
  have b11 : (s_X11_passes_15 M).1 11 = M.1 11 := kN 11 (by decide) (by decide) (by decide) (by decide) (by decide) (by decide) (by decide) (by decide)
  have b12 : (s_X11_passes_15 M).1 12 = M.1 12 := kN 12 (by decide) (by decide) (by decide) (by decide) (by decide) (by decide) (by decide) (by decide)
  have P11 : (s_X11_passes_18 M).1 11 = M.1 11 + (4096 + M.1 12) := by
    have q : (s_X11_passes_18 M).1 11 = v_X11_passes_17 M := si_at _ _ _
    rw [q]
    show (s_X11_passes_15 M).1 11 + (4096 + (s_X11_passes_15 M).1 12) = _
    rw [b11, b12]
  have kP : ∀ k, k ≠ 1 → k ≠ 5 → k ≠ 6 → k ≠ 7 → k ≠ 8 → k ≠ 9 → k ≠ 11 → k ≠ 18 → k ≠ 19 → (s_X11_passes_18 M).1 k = M.1 k := fun k a1 a5 a6 a7 a8 a9 a11 a18 a19 => (si_ne a11).trans (kN k a1 a5 a6 a7 a8 a9 a18 a19)
  have P24 : (s_X11_passes_18 M).1 24 = M.1 24 := kP 24 (by decide) (by decide) (by decide) (by decide) (by decide) (by decide) (by decide) (by decide) (by decide)
  have P29 : (s_X11_passes_18 M).1 29 = M.1 29 := kP 29 (by decide) (by decide) (by decide) (by decide) (by decide) (by decide) (by decide) (by decide) (by decide)
  have P2 : (s_X11_passes_18 M).2 = (s_X11_transmits M).2 := ps15_2 M
  have P9 : (s_X11_passes_18 M).1 9 = M.1 9 + 1 := (si_ne (by decide)).trans ((ps15_keep (by decide)).trans (show (s_X11_transmits_26 M).1 9 = M.1 9 + 1 from tr_tk))
  have bP : okB (s_X11_passes_18 M) := by
    have q : (s_X11_passes_18 M).1 7 = (s_X11_transmits M).1 7 := (si_ne (by decide)).trans (ps15_keep (by decide))
    unfold okB
    rw [q]
    exact tr_B hb
  have t0 : 0 ≤ (M.1 11).toInt := Int32.le_iff_toInt_le.mp hp.1
  have t1 : (M.1 11).toInt ≤ 65535 := Int32.le_iff_toInt_le.mp hp.2
  have c0 : -1024 ≤ (M.1 12).toInt := Int32.le_iff_toInt_le.mp hc.1
  have c1 : (M.1 12).toInt ≤ 1024 := Int32.le_iff_toInt_le.mp hc.2
  have u1 : ((4096 : Int32) + M.1 12).toInt = 4096 + (M.1 12).toInt := by
    rw [Int32.toInt_add]
    exact Int.bmod_eq_of_le (by show _ ≤ (4096 : Int) + (M.1 12).toInt; omega) (by show (4096 : Int) + (M.1 12).toInt < _; omega)
  have u2 : (M.1 11 + (4096 + M.1 12)).toInt = (M.1 11).toInt + (4096 + (M.1 12).toInt) := by
    rw [Int32.toInt_add, u1]
    exact Int.bmod_eq_of_le (by omega) (by omega)
  obtain ⟨X', h1, h2, h3, h4, h5, h6, h7, h8, h9, h10⟩ := strobe_eq (n := n + 1) (P := s_X11_passes_18 M) (X := X) (b := (s_X11_passes_15 M).1 11) (by rw [b11]; omega) (by rw [b11, P11, u2]; omega) (by rw [b11, P11, u2]; omega) (by rw [b11]; omega) (by omega) (okM_passes hn hm) (by rw [rc_of P24]; have := hm.2.2.2; omega) bP
    (by unfold okD at *; rw [kP 15 (by decide) (by decide) (by decide) (by decide) (by decide) (by decide) (by decide) (by decide) (by decide)]; exact hd)
    (by unfold okC at *; rw [kP 12 (by decide) (by decide) (by decide) (by decide) (by decide) (by decide) (by decide) (by decide) (by decide)]; exact hc)
    (InvS_of hs P24 P29 (by rw [P2]; exact tr_f M))
    (InvG_of hg P24 (kP 31 (by decide) (by decide) (by decide) (by decide) (by decide) (by decide) (by decide) (by decide) (by decide)) (kP 32 (by decide) (by decide) (by decide) (by decide) (by decide) (by decide) (by decide) (by decide) (by decide)) (kP 33 (by decide) (by decide) (by decide) (by decide) (by decide) (by decide) (by decide) (by decide) (by decide)) (kP 34 (by decide) (by decide) (by decide) (by decide) (by decide) (by decide) (by decide) (by decide) (by decide)))
  have a3 : s_X5_advance_3 (mix (s_X11_passes_15 M) X) ((mix (s_X11_passes_15 M) X).1 12) = mix (s_X11_passes_18 M) X := by
    show si (mix (s_X11_passes_15 M) X) 11 ((mix (s_X11_passes_15 M) X).1 11 + (4096 + (mix (s_X11_passes_15 M) X).1 12)) = _
    rw [mix_rd (k := 11) rfl, mix_rd (k := 12) rfl, mix_si rfl]
    rfl
  refine ⟨X', ?_, okM_pass hn hm, ?_, h6, h4, h5, h7, h2, h3, ?_⟩
  · have eq1 : s_X10_passTick (mix M X) = s_X10_actOnStrobe (s_X5_advance (mix (s_X11_passes_15 M) X) ((mix (s_X11_passes_15 M) X).1 12)) (r_X5_advance (mix (s_X11_passes_15 M) X) ((mix (s_X11_passes_15 M) X).1 12)) := by
      show s_X10_actOnStrobe (s_X5_advance (s_X10_passTick_5 (mix M X)) ((s_X10_passTick_5 (mix M X)).1 12)) (r_X5_advance (s_X10_passTick_5 (mix M X)) ((s_X10_passTick_5 (mix M X)).1 12)) = _
      rw [e5]
    have es : s_X5_advance (mix (s_X11_passes_15 M) X) ((mix (s_X11_passes_15 M) X).1 12) = if (s_X11_passes_18 M).1 11 < 65536 then mix (s_X11_passes_18 M) X else mix (si (s_X11_passes_18 M) 11 ((s_X11_passes_18 M).1 11 - 65536)) X := by
      unfold s_X5_advance s_X5_advance_12 v_X5_advance_11
      rw [a3, mix_rd (k := 11) rfl, mix_si rfl]
      by_cases q : (s_X11_passes_18 M).1 11 < 65536
      · rw [if_pos q, if_pos q]
        split
        · split <;> rfl
        · rfl
      · rw [if_neg q, if_neg q]
    have er : r_X5_advance (mix (s_X11_passes_15 M) X) ((mix (s_X11_passes_15 M) X).1 12) = (if (s_X11_passes_18 M).1 11 < 65536 then (if (if (49152 : Int32) ≤ (s_X11_passes_15 M).1 11 then (0 : Int32) else if (s_X11_passes_18 M).1 11 < 49152 then 0 else 1) = 0 then (if (if (32768 : Int32) ≤ (s_X11_passes_15 M).1 11 then (0 : Int32) else if (s_X11_passes_18 M).1 11 < 32768 then 0 else 1) = 0 then (if (if (16384 : Int32) ≤ (s_X11_passes_15 M).1 11 then (0 : Int32) else if (s_X11_passes_18 M).1 11 < 16384 then 0 else 1) = 0 then 0 else 1) else 2) else 3) else 4) := by
      unfold r_X5_advance v_X5_advance_7 v_X5_advance_6 v_X5_advance_5 v_X5_advance_4
      rw [a3, mix_rd (k := 11) rfl, mix_rd (k := 11) rfl]
      rfl
    rw [eq1, es, er]
    exact h1
  · obtain ⟨m, q1, q2⟩ := tr_R hr
    refine ⟨m, q1, ?_⟩
    rw [← q2, ← P2]
    exact h8
  · obtain ⟨v, hv⟩ := tr_g hn hm
    have hk := hm.2.1.2
    have q9 : (s_X11_passes M).1 9 = nI (tk M + 1) := by
      refine h10.trans ?_
      rw [P9, hm.2.1.1, nI_1]
    have qk : tk (s_X11_passes M) = tk M + 1 := by
      show ((s_X11_passes M).1 9).toNatClampNeg = _
      rw [q9, nI_clamp (by omega)]
    have qe : (s_X11_passes M).2.2.1 = upd M.2.2.1 ((tk M + 1) % 256) v := by
      rw [← hv, ← P2]
      exact h9
    intro z p hp2 hz
    rw [qk] at z hz
    rw [qe, upd_ne (by omega)]
    exact he (by omega) p hp2 (by omega)
theorem run_it {n : Nat} {M : St} {X : Nat → Int32} (hn : n + 800 < 1000000) (h : Inv n M X) : ∀ i, i ≤ 800 → ∃ X' : Nat → Int32, itP (mix M X) i = mix (itM M i) X' ∧ Inv (n + i) (itM M i) X'
  | 0, _ => ⟨X, rfl, h⟩
  | i + 1, hi => by
    obtain ⟨X1, h1, h2⟩ := run_it hn h i (by omega)
    obtain ⟨X2, h3, h4⟩ := tick_eq (by omega) h2
    refine ⟨X2, ?_, h4⟩
    show s_X10_passTick (itP (mix M X) i) = _
    rw [h1]
    exact h3
theorem Inv_up {n n2 : Nat} {M : St} {X : Nat → Int32} (h : Inv n M X) (q : n ≤ n2) : Inv n2 M X := ⟨okM_up h.1 q, h.2⟩
theorem mix_st0 : st0 = mix st0 (fun _ => 0) := by
  refine Prod.ext (funext fun j => ?_) rfl
  show st0.1 j = (if shb j = true then st0.1 j else (fun _ => (0 : Int32)) j)
  by_cases e : shb j = true
  · rw [if_pos e]
  · rw [if_neg e]
    show (if j = 2 then (4096 : Int32) else if j = 6 then 127 else if j = 7 then 1 else if j = 8 then 65535 else if j = 16 then 8 else if j = 17 then 1 else 0) = 0
    rw [if_neg (fun q => e (by rw [q]; rfl)), if_neg (fun q => e (by rw [q]; rfl)), if_neg (fun q => e (by rw [q]; rfl)), if_neg (fun q => e (by rw [q]; rfl)), if_neg (fun q => e (by rw [q]; rfl)), if_neg (fun q => e (by rw [q]; rfl))]
theorem Inv_st0 : Inv 0 st0 (fun _ => 0) := by
  have z : tk st0 = 0 := by decide +kernel
  have w : rc st0 = 0 := by decide +kernel
  refine ⟨⟨⟨by decide +kernel, by decide +kernel⟩, ⟨by decide +kernel, by rw [z]; exact Nat.le_refl _⟩, by decide +kernel, by rw [w]; exact Nat.le_refl _⟩, ⟨1, by decide, by decide +kernel⟩, Or.inr (by decide +kernel), ⟨by decide +kernel, by decide +kernel⟩, ⟨by decide +kernel, by decide +kernel⟩, Or.inl (by decide +kernel), ?_, ?_, ?_⟩
  · refine ⟨by decide +kernel, by decide +kernel, fun q => absurd (by decide +kernel) q, ⟨0, by decide +kernel, Nat.zero_le _, fun k hk => ?_⟩, fun k _ _ => rfl⟩
    rw [w]
    constructor
    · intro q; exact ⟨q, fun j hj => absurd hj (by omega)⟩
    · intro q; exact q.1
  · refine ⟨Or.inl (by decide +kernel), ⟨0, Nat.zero_le _, by decide +kernel, fun q => absurd (by decide +kernel) q⟩, fun q => absurd q (by decide +kernel), fun q => absurd q (by decide +kernel)⟩
  · intro _ p _ _
    rfl
