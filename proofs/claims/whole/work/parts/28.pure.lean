theorem mo_31 (M : St) (X : Nat → Int32) (v : Int32) : mix (si M 31 v) X = si (mix M X) 31 v := (mix_si rfl).symm
theorem mo_35 (M : St) (X : Nat → Int32) (v : Int32) : mix (si M 35 v) X = si (mix M X) 35 v := (mix_si rfl).symm
theorem mo_36 (M : St) (X : Nat → Int32) (v : Int32) : mix (si M 36 v) X = si (mix M X) 36 v := (mix_si rfl).symm
theorem mo_24 (M : St) (X : Nat → Int32) (v : Int32) : mix (si M 24 v) X = si (mix M X) 24 v := (mix_si rfl).symm
theorem mo_25 (M : St) (X : Nat → Int32) (v : Int32) : mix (si M 25 v) X = si (mix M X) 25 v := (mix_si rfl).symm
theorem mo_26 (M : St) (X : Nat → Int32) (v : Int32) : mix (si M 26 v) X = si (mix M X) 26 v := (mix_si rfl).symm
theorem mo_27 (M : St) (X : Nat → Int32) (v : Int32) : mix (si M 27 v) X = si (mix M X) 27 v := (mix_si rfl).symm
theorem mo_28 (M : St) (X : Nat → Int32) (v : Int32) : mix (si M 28 v) X = si (mix M X) 28 v := (mix_si rfl).symm
theorem mo_18 (M : St) (X : Nat → Int32) (v : Int32) : mix (si M 18 v) X = si (mix M X) 18 v := (mix_si rfl).symm
theorem mo_19 (M : St) (X : Nat → Int32) (v : Int32) : mix (si M 19 v) X = si (mix M X) 19 v := (mix_si rfl).symm
theorem mo_23 (M : St) (X : Nat → Int32) (v : Int32) : mix (si M 23 v) X = si (mix M X) 23 v := (mix_si rfl).symm
theorem mn_0 (M : St) (X : Nat → Int32) (v : Int32) : mix (si M 0 v) X = mix M X := mix_no rfl
theorem mn_29 (M : St) (X : Nat → Int32) (v : Int32) : mix (si M 29 v) X = mix M X := mix_no rfl
theorem mn_32 (M : St) (X : Nat → Int32) (v : Int32) : mix (si M 32 v) X = mix M X := mix_no rfl
theorem mn_33 (M : St) (X : Nat → Int32) (v : Int32) : mix (si M 33 v) X = mix M X := mix_no rfl
theorem mn_34 (M : St) (X : Nat → Int32) (v : Int32) : mix (si M 34 v) X = mix M X := mix_no rfl
theorem si_same {S : St} {k : Nat} {v : Int32} (h : S.1 k = v) : si S k v = S := by
  refine Prod.ext (funext fun j => ?_) rfl
  show (if j = k then v else S.1 j) = S.1 j
  by_cases e : j = k
  · rw [if_pos e, e, h]
  · rw [if_neg e]
/-- the aligner's numbers -/
def InvG (M : St) (X : Nat → Int32) : Prop := (M.1 31 = 0 ∨ M.1 31 = 1 ∨ M.1 31 = 2) ∧ (∃ sh : Nat, sh ≤ rc M ∧ M.1 32 = nI sh ∧ (M.1 31 ≠ 0 → X 44 = nI (sh % 24))) ∧ (M.1 31 = 1 → X 45 = M.1 33) ∧ (M.1 31 = 2 → X 46 = M.1 34)
theorem rc_of {S T : St} (h : T.1 24 = S.1 24) : rc T = rc S := by unfold rc; rw [h]
/-- a bit that was received is shown to both aligners; M's count of bits has grown already, so sh + 1 bits at most have passed since the hunt -/
theorem take_eq {n : Nat} {M : St} {X : Nat → Int32} (hr : rc M ≤ n) (hn : n < 2000000) (h31 : M.1 31 = 0 ∨ M.1 31 = 1 ∨ M.1 31 = 2) {sh : Nat} (hsh : sh + 1 ≤ rc M) (h32 : M.1 32 = nI sh) (h44 : M.1 31 ≠ 0 → X 44 = nI (sh % 24)) (h45 : M.1 31 = 1 → X 45 = M.1 33) (h46 : M.1 31 = 2 → X 46 = M.1 34) :
    ∃ X' : Nat → Int32, s_X0_take (mix M X) (v_X11_aligns_2 M) = mix (s_X11_aligns M) X' ∧ InvG (s_X11_aligns M) X' ∧ ∀ k, k < 44 → X' k = X k := by
  have e4 : (s_X11_aligns_4 M).1 31 = M.1 31 := si_ne (by decide)
  have e432 : (s_X11_aligns_4 M).1 32 = nI (sh + 1) := by
    have e : (s_X11_aligns_4 M).1 32 = M.1 32 + 1 := si_at _ _ _
    rw [e, h32, nI_1]
  have v5 : v_X11_aligns_5 M = nI ((sh + 1) % 24) := by
    show (s_X11_aligns_4 M).1 32 - (s_X11_aligns_4 M).1 32 / 24 * 24 = _
    exact irem_nI (m := 24) e432 rfl (by omega) (by omega) (by omega)
  have al : s_X11_aligns M = if (s_X11_aligns_4 M).1 31 = 0 then s_X11_aligns_25 M else if v_X11_aligns_5 M = 0 then if (s_X11_aligns_4 M).1 31 = 1 then s_X11_aligns_21 M else s_X11_aligns_16 M else s_X11_aligns_4 M := rfl
  have rcA : rc (s_X11_aligns M) = rc M := rc_of (al_k (by decide))
  rw [al, e4] at *
  by_cases h0 : M.1 31 = 0
  · rw [if_pos h0] at *
    have tk0 : s_X0_take (mix M X) (v_X11_aligns_2 M) = if v_X11_aligns_2 M = 0 then mix M X else si (si (si (mix M X) 31 1) 44 0) 45 0 := by
      show (if M.1 31 = 0 then s_X0_take_12 (mix M X) (v_X11_aligns_2 M) else _) = _
      rw [if_pos h0]
      rfl
    have g31 : (s_X11_aligns_25 M).1 31 = v_X11_aligns_22 M := (si_ne (by decide)).trans ((si_ne (by decide)).trans (si_at _ _ _))
    have g32 : (s_X11_aligns_25 M).1 32 = 0 := si_at _ _ _
    have g33 : (s_X11_aligns_25 M).1 33 = 0 := (si_ne (by decide)).trans (si_at _ _ _)
    have mx : ∀ X', mix (s_X11_aligns_25 M) X' = si (mix M X') 31 (v_X11_aligns_22 M) := fun X' => by
      show mix (si (si (si (si M 32 (v_X11_aligns_3 M)) 31 (v_X11_aligns_22 M)) 33 0) 32 0) X' = _
      rw [mn_32, mn_33, mo_31, mn_32]
    by_cases hy : v_X11_aligns_2 M = 0
    · have hv : v_X11_aligns_22 M = 0 := if_pos hy
      refine ⟨X, ?_, ⟨Or.inl (by rw [g31, hv]), ⟨0, Nat.zero_le _, g32, fun q => absurd (by rw [g31, hv]) q⟩, fun q => absurd (q.symm.trans (by rw [g31, hv])) (by decide), fun q => absurd (q.symm.trans (by rw [g31, hv])) (by decide)⟩, fun _ _ => rfl⟩
      rw [tk0, if_pos hy, mx, hv]
      exact (si_same ((mix_rd rfl).trans h0)).symm
    · have hv : v_X11_aligns_22 M = 1 := if_neg hy
      refine ⟨upd (upd X 44 0) 45 0, ?_, ⟨Or.inr (Or.inl (by rw [g31, hv])), ⟨0, Nat.zero_le _, g32, fun _ => (upd_ne (by decide)).trans upd_at⟩, fun _ => upd_at.trans g33.symm, fun q => absurd (q.symm.trans (by rw [g31, hv])) (by decide)⟩, fun k hk => (upd_ne (by omega)).trans (upd_ne (by omega))⟩
      rw [tk0, if_neg hy, mx, hv, ← mo_31, mix_sx rfl, mix_sx rfl, mo_31]
  · rw [if_neg h0] at *
    have tkn : s_X0_take (mix M X) (v_X11_aligns_2 M) = if 24 ≤ X 44 + 1 then s_X0_take_6 (mix M X) (v_X11_aligns_2 M) else s_X0_take_2 (mix M X) (v_X11_aligns_2 M) := by
      show (if M.1 31 = 0 then _ else if 24 ≤ (si (mix M X) 44 (X 44 + 1)).1 44 then s_X0_take_6 (mix M X) (v_X11_aligns_2 M) else s_X0_take_2 (mix M X) (v_X11_aligns_2 M)) = _
      rw [if_neg h0, si_at]
    have h44' := h44 h0
    have hge : (24 ≤ X 44 + 1) ↔ (sh + 1) % 24 = 0 := by
      rw [h44', nI_1]
      have q := nI_leI (a := 24) (b := sh % 24 + 1) (by omega) (by omega)
      exact ⟨fun z => by have := q.mp z; omega, fun z => q.mpr (by omega)⟩
    by_cases hd : (sh + 1) % 24 = 0
    · have hv5 : v_X11_aligns_5 M = 0 := by rw [v5, hd]; rfl
      rw [if_pos hv5] at *
      have t3 : s_X0_take_3 (mix M X) (v_X11_aligns_2 M) = mix M (upd (upd X 44 (X 44 + 1)) 44 0) := by
        show si (si (mix M X) 44 (X 44 + 1)) 44 0 = _
        rw [mix_sx rfl, mix_sx rfl]
      have x44 : (upd (upd X 44 (X 44 + 1)) 44 0) 44 = 0 := upd_at
      have x45 : (upd (upd X 44 (X 44 + 1)) 44 0) 45 = X 45 := (upd_ne (by decide)).trans (upd_ne (by decide))
      have x46 : (upd (upd X 44 (X 44 + 1)) 44 0) 46 = X 46 := (upd_ne (by decide)).trans (upd_ne (by decide))
      have xlo : ∀ k, k < 44 → (upd (upd X 44 (X 44 + 1)) 44 0) k = X k := fun k hk => (upd_ne (by omega)).trans (upd_ne (by omega))
      generalize upd (upd X 44 (X 44 + 1)) 44 0 = X1 at *
      have tk6 : s_X0_take (mix M X) (v_X11_aligns_2 M) = if M.1 31 = 1 then s_X0_verify (mix M X1) (v_X11_aligns_2 M) else s_X0_watchSync (mix M X1) (v_X11_aligns_2 M) := by
        rw [tkn, if_pos (hge.mpr hd)]
        show (if (s_X0_take_3 (mix M X) (v_X11_aligns_2 M)).1 31 = 1 then s_X0_verify (s_X0_take_3 (mix M X) (v_X11_aligns_2 M)) (v_X11_aligns_2 M) else s_X0_watchSync (s_X0_take_3 (mix M X) (v_X11_aligns_2 M)) (v_X11_aligns_2 M)) = _
        rw [t3]
        rfl
      have hz : (0 : Int32) = nI ((sh + 1) % 24) := by rw [hd]; rfl
      by_cases h1 : M.1 31 = 1
      · rw [if_pos h1] at *
        have h45' := h45 h1
        have g31 : (s_X11_aligns_21 M).1 31 = v_X11_aligns_20 M := si_at _ _ _
        have g32 : (s_X11_aligns_21 M).1 32 = nI (sh + 1) := ((si_ne (by decide)).trans ((si_ne (by decide)).trans (si_ne (by decide)))).trans e432
        have g33 : (s_X11_aligns_21 M).1 33 = M.1 33 + 1 := by
          have e : (s_X11_aligns_4 M).1 33 = M.1 33 := si_ne (by decide)
          rw [← e]
          exact (si_ne (by decide)).trans ((si_ne (by decide)).trans (si_at _ _ _))
        have g34 : (s_X11_aligns_21 M).1 34 = 0 := (si_ne (by decide)).trans (si_at _ _ _)
        have h19 : (s_X11_aligns_19 M).1 33 = M.1 33 + 1 := by
          rw [← g33]
          exact (si_ne (by decide)).symm
        have mx : ∀ X', mix (s_X11_aligns_21 M) X' = si (mix M X') 31 (v_X11_aligns_20 M) := fun X' => by
          show mix (si (si (si (si M 32 (v_X11_aligns_3 M)) 33 (v_X11_aligns_17 M)) 34 0) 31 (v_X11_aligns_20 M)) X' = _
          rw [mo_31, mn_34, mn_33, mn_32]
        have tv : s_X0_verify (mix M X1) (v_X11_aligns_2 M) = if v_X11_aligns_2 M = 0 then si (mix M X1) 31 0 else if X1 45 + 1 = 2 then si (si (si (mix M X1) 45 (X1 45 + 1)) 31 2) 46 0 else si (mix M X1) 45 (X1 45 + 1) := by
          show (if v_X11_aligns_2 M = 0 then si (mix M X1) 31 0 else if (si (mix M X1) 45 (X1 45 + 1)).1 45 = 2 then si (si (si (mix M X1) 45 (X1 45 + 1)) 31 2) 46 0 else si (mix M X1) 45 (X1 45 + 1)) = _
          rw [si_at]
        by_cases hy : v_X11_aligns_2 M = 0
        · have hv : v_X11_aligns_20 M = 0 := if_pos hy
          refine ⟨X1, ?_, ⟨Or.inl (by rw [g31, hv]), ⟨sh + 1, by rw [rcA]; exact hsh, g32, fun q => absurd (by rw [g31, hv]) q⟩, fun q => absurd (q.symm.trans (by rw [g31, hv])) (by decide), fun q => absurd (q.symm.trans (by rw [g31, hv])) (by decide)⟩, xlo⟩
          rw [tk6, tv, if_pos hy, mx, hv]
        · by_cases h2 : M.1 33 + 1 = 2
          · have hv : v_X11_aligns_20 M = 2 := by
              show (if v_X11_aligns_2 M = 0 then (0 : Int32) else if (s_X11_aligns_19 M).1 33 = 2 then 2 else 1) = 2
              rw [if_neg hy, h19, if_pos h2]
            refine ⟨upd (upd X1 45 (X1 45 + 1)) 46 0, ?_, ⟨Or.inr (Or.inr (by rw [g31, hv])), ⟨sh + 1, by rw [rcA]; exact hsh, g32, fun _ => (upd_ne (by decide)).trans ((upd_ne (by decide)).trans (x44.trans hz))⟩, fun q => absurd (q.symm.trans (by rw [g31, hv])) (by decide), fun _ => upd_at.trans g34.symm⟩, fun k hk => (upd_ne (by omega)).trans ((upd_ne (by omega)).trans (xlo k hk))⟩
            rw [tk6, tv, if_neg hy, x45, h45', if_pos h2, mx, hv, mix_sx rfl, ← mo_31, mix_sx rfl, mo_31]
          · have hv : v_X11_aligns_20 M = 1 := by
              show (if v_X11_aligns_2 M = 0 then (0 : Int32) else if (s_X11_aligns_19 M).1 33 = 2 then 2 else 1) = 1
              rw [if_neg hy, h19, if_neg h2]
            refine ⟨upd X1 45 (X1 45 + 1), ?_, ⟨Or.inr (Or.inl (by rw [g31, hv])), ⟨sh + 1, by rw [rcA]; exact hsh, g32, fun _ => (upd_ne (by decide)).trans (x44.trans hz)⟩, fun _ => by rw [upd_at, g33, x45, h45'], fun q => absurd (q.symm.trans (by rw [g31, hv])) (by decide)⟩, fun k hk => (upd_ne (by omega)).trans (xlo k hk)⟩
            rw [tk6, tv, if_neg hy, x45, h45', if_neg h2, mx, hv, mix_sx rfl]
            exact (si_same ((mix_rd rfl).trans h1)).symm
      · rw [if_neg h1] at *
        have h2 : M.1 31 = 2 := h31.elim (fun q => absurd q h0) (fun q => q.elim (fun q => absurd q h1) id)
        have h46' := h46 h2
        have f35 : (s_X11_aligns_4 M).1 35 = M.1 35 := si_ne (by decide)
        have f34 : (s_X11_aligns_8 M).1 34 = M.1 34 := (si_ne (by decide)).trans (si_ne (by decide))
        have f11 : (s_X11_aligns_11 M).1 34 = v_X11_aligns_10 M := si_at _ _ _
        have f36 : (s_X11_aligns_11 M).1 36 = M.1 36 := (si_ne (by decide)).trans ((si_ne (by decide)).trans (si_ne (by decide)))
        have f14 : (s_X11_aligns_14 M).1 34 = v_X11_aligns_10 M := (si_ne (by decide)).trans f11
        have v10 : v_X11_aligns_10 M = if v_X11_aligns_2 M = 0 then M.1 34 + 1 else 0 := by
          show (if v_X11_aligns_2 M = 0 then (s_X11_aligns_8 M).1 34 + 1 else 0) = _
          rw [f34]
        have v7 : v_X11_aligns_7 M = M.1 35 + (if v_X11_aligns_2 M = 0 then 0 else 1) := by
          show (s_X11_aligns_4 M).1 35 + (if v_X11_aligns_2 M = 0 then (0 : Int32) else 1) = _
          rw [f35]
        have v13 : v_X11_aligns_13 M = M.1 36 + (if v_X11_aligns_10 M = 3 then 1 else 0) := by
          show (s_X11_aligns_11 M).1 36 + (if (s_X11_aligns_11 M).1 34 = 3 then (1 : Int32) else 0) = _
          rw [f36, f11]
        have v15 : v_X11_aligns_15 M = if v_X11_aligns_10 M = 3 then 0 else 2 := by
          show (if (s_X11_aligns_14 M).1 34 = 3 then (0 : Int32) else 2) = _
          rw [f14]
        have g31 : (s_X11_aligns_16 M).1 31 = v_X11_aligns_15 M := si_at _ _ _
        have g32 : (s_X11_aligns_16 M).1 32 = nI (sh + 1) := ((si_ne (by decide)).trans ((si_ne (by decide)).trans ((si_ne (by decide)).trans (si_ne (by decide))))).trans e432
        have g34 : (s_X11_aligns_16 M).1 34 = v_X11_aligns_10 M := (si_ne (by decide)).trans f14
        have mx : ∀ X', mix (s_X11_aligns_16 M) X' = si (si (si (mix M X') 35 (v_X11_aligns_7 M)) 36 (v_X11_aligns_13 M)) 31 (v_X11_aligns_15 M) := fun X' => by
          show mix (si (si (si (si (si M 32 (v_X11_aligns_3 M)) 35 (v_X11_aligns_7 M)) 34 (v_X11_aligns_10 M)) 36 (v_X11_aligns_13 M)) 31 (v_X11_aligns_15 M)) X' = _
          rw [mo_31, mo_36, mn_34, mo_35, mn_32]
        have tw : s_X0_watchSync (mix M X1) (v_X11_aligns_2 M) = if v_X11_aligns_2 M = 0 then if X1 46 + 1 = 3 then si (si (si (mix M X1) 46 (X1 46 + 1)) 31 0) 36 (M.1 36 + 1) else si (mix M X1) 46 (X1 46 + 1) else si (si (mix M X1) 35 (M.1 35 + 1)) 46 0 := by
          show (if v_X11_aligns_2 M = 0 then if (si (mix M X1) 46 (X1 46 + 1)).1 46 = 3 then si (si (si (mix M X1) 46 (X1 46 + 1)) 31 0) 36 ((si (si (mix M X1) 46 (X1 46 + 1)) 31 0).1 36 + 1) else si (mix M X1) 46 (X1 46 + 1) else si (si (mix M X1) 35 (M.1 35 + 1)) 46 0) = _
          rw [si_at, si_ne (by decide), si_ne (by decide), mix_rd rfl]
        have s35 : ∀ X', si (mix M X') 35 (M.1 35 + 0) = mix M X' := fun X' => si_same ((mix_rd rfl).trans (Int32.add_zero _).symm)
        have s36 : ∀ X', si (mix M X') 36 (M.1 36 + 0) = mix M X' := fun X' => si_same ((mix_rd rfl).trans (Int32.add_zero _).symm)
        by_cases hy : v_X11_aligns_2 M = 0
        · rw [if_pos hy] at v10 v7
          by_cases h3 : M.1 34 + 1 = 3
          · rw [v10, if_pos h3] at v13 v15
            refine ⟨upd X1 46 (X1 46 + 1), ?_, ⟨Or.inl (by rw [g31, v15]), ⟨sh + 1, by rw [rcA]; exact hsh, g32, fun q => absurd (by rw [g31, v15]) q⟩, fun q => absurd (q.symm.trans (by rw [g31, v15])) (by decide), fun q => absurd (q.symm.trans (by rw [g31, v15])) (by decide)⟩, fun k hk => (upd_ne (by omega)).trans (xlo k hk)⟩
            rw [tk6, tw, if_pos hy, x46, h46', if_pos h3, mx, v7, v13, v15, mix_sx rfl, s35]
            exact si_comm (by decide)
          · rw [v10, if_neg h3] at v13 v15
            refine ⟨upd X1 46 (X1 46 + 1), ?_, ⟨Or.inr (Or.inr (by rw [g31, v15])), ⟨sh + 1, by rw [rcA]; exact hsh, g32, fun _ => (upd_ne (by decide)).trans (x44.trans hz)⟩, fun q => absurd (q.symm.trans (by rw [g31, v15])) (by decide), fun _ => by rw [upd_at, g34, v10, x46, h46']⟩, fun k hk => (upd_ne (by omega)).trans (xlo k hk)⟩
            rw [tk6, tw, if_pos hy, x46, h46', if_neg h3, mx, v7, v13, v15, mix_sx rfl, s35, s36]
            exact (si_same ((mix_rd rfl).trans h2)).symm
        · rw [if_neg hy] at v10 v7
          rw [v10, if_neg (by decide)] at v13 v15
          refine ⟨upd X1 46 0, ?_, ⟨Or.inr (Or.inr (by rw [g31, v15])), ⟨sh + 1, by rw [rcA]; exact hsh, g32, fun _ => (upd_ne (by decide)).trans (x44.trans hz)⟩, fun q => absurd (q.symm.trans (by rw [g31, v15])) (by decide), fun _ => by rw [upd_at, g34, v10]⟩, fun k hk => (upd_ne (by omega)).trans (xlo k hk)⟩
          have s36' : si (si (mix M (upd X1 46 0)) 35 (M.1 35 + 1)) 36 (M.1 36 + 0) = si (mix M (upd X1 46 0)) 35 (M.1 35 + 1) := si_same ((si_ne (by decide)).trans ((mix_rd rfl).trans (Int32.add_zero _).symm))
          have s31' : si (si (mix M (upd X1 46 0)) 35 (M.1 35 + 1)) 31 2 = si (mix M (upd X1 46 0)) 35 (M.1 35 + 1) := si_same ((si_ne (by decide)).trans ((mix_rd rfl).trans h2))
          rw [tk6, tw, if_neg hy, mx, v7, v13, v15, s36', s31', ← mo_35, mix_sx rfl, mo_35]
    · have hv5 : ¬ v_X11_aligns_5 M = 0 := by
        rw [v5]
        intro q
        exact hd ((nI_eq (a := (sh + 1) % 24) (b := 0) (by omega) (by omega)).mp q)
      rw [if_neg hv5] at *
      have e4 : (s_X11_aligns_4 M).1 31 = M.1 31 := si_ne (by decide)
      refine ⟨upd X 44 (X 44 + 1), ?_, ⟨by rw [e4]; exact h31, ⟨sh + 1, by rw [rcA]; exact hsh, e432, fun _ => ?_⟩, fun q => ?_, fun q => ?_⟩, fun k hk => upd_ne (by omega)⟩
      · rw [tkn, if_neg (fun z => hd (hge.mp z))]
        show si (mix M X) 44 (X 44 + 1) = mix (si M 32 (v_X11_aligns_3 M)) _
        rw [mn_32, mix_sx rfl]
      · rw [upd_at, h44', nI_1, show sh % 24 + 1 = (sh + 1) % 24 by omega]
      · have e33 : (s_X11_aligns_4 M).1 33 = M.1 33 := si_ne (by decide)
        rw [e33, upd_ne (by decide)]
        exact h45 (e4.symm.trans q)
      · have e34 : (s_X11_aligns_4 M).1 34 = M.1 34 := si_ne (by decide)
        rw [e34, upd_ne (by decide)]
        exact h46 (e4.symm.trans q)
