def Rel (n : Nat) (C M : St) : Prop := ∃ X : Nat → Int32, C = mix M X ∧ Inv n M X
def Ans (n : Nat) (C M C' M' : St) (x r r' : Int32) : Prop := M'.1 0 = x ∧ ((x = 0 ∧ r = r' ∧ Rel n C' M') ∨ (x = 1 ∧ Rel n C M'))
theorem Inv_gen {n : Nat} {M T : St} {X : Nat → Int32} (h : Inv n M X) (hk : ∀ k, k = 7 ∨ k = 9 ∨ k = 24 ∨ k = 29 ∨ k = 31 ∨ k = 32 ∨ k = 33 ∨ k = 34 → T.1 k = M.1 k) (h2 : T.2.2 = M.2.2) (hJ : okJ T) (hR : okR T) (hP : okP T) (hC : okC T) (hD : okD T) : Inv n T X := by
  obtain ⟨hm, hr, hb, hp, hc, hd, hs, hg, he⟩ := h
  have k9 := hk 9 (by decide)
  have k24 := hk 24 (by decide)
  have t9 : tk T = tk M := by unfold tk; rw [k9]
  have t24 : rc T = rc M := rc_of k24
  refine ⟨⟨hJ, ⟨?_, ?_⟩, ?_, ?_⟩, hR, ?_, hP, hC, hD, InvS_of hs k24 (hk 29 (by decide)) (by rw [h2]), InvG_of hg k24 (hk 31 (by decide)) (hk 32 (by decide)) (hk 33 (by decide)) (hk 34 (by decide)), ?_⟩
  · rw [k9, t9]; exact hm.2.1.1
  · rw [t9]; exact hm.2.1.2
  · rw [k24, t24]; exact hm.2.2.1
  · rw [t24]; exact hm.2.2.2
  · unfold okB at *; rw [hk 7 (by decide)]; exact hb
  · unfold okE at *; rw [t9, h2]; exact he
theorem Inv_si {n k : Nat} {M : St} {X : Nat → Int32} {v : Int32} (h : Inv n M X) (hk : k = 0 ∨ k = 2 ∨ k = 13 ∨ k = 16 ∨ k = 17) : Inv n (si M k v) X := by
  have e : ∀ j, j ≠ k → (si M k v).1 j = M.1 j := fun j hj => si_ne hj
  refine Inv_gen h (fun j hj => e j (by omega)) rfl ?_ h.2.1 ?_ ?_ ?_
  · unfold okJ; rw [e 3 (by omega)]; exact h.1.1
  · unfold okP; rw [e 11 (by omega)]; exact h.2.2.2.1
  · unfold okC; rw [e 12 (by omega)]; exact h.2.2.2.2.1
  · unfold okD; rw [e 15 (by omega)]; exact h.2.2.2.2.2.1
theorem Inv_12 {n : Nat} {M : St} {X : Nat → Int32} (h : Inv n M X) : Inv n (si M 12 0) X := by
  have e : ∀ j, j ≠ 12 → (si M 12 0).1 j = M.1 j := fun j hj => si_ne hj
  refine Inv_gen h (fun j hj => e j (by omega)) rfl ?_ h.2.1 ?_ ?_ ?_
  · unfold okJ; rw [e 3 (by omega)]; exact h.1.1
  · unfold okP; rw [e 11 (by omega)]; exact h.2.2.2.1
  · unfold okC; rw [si_at]; decide
  · unfold okD; rw [e 15 (by omega)]; exact h.2.2.2.2.2.1
theorem Inv_11 {n : Nat} {M : St} {X : Nat → Int32} {v : Int32} (h : Inv n M X) (hv : 0 ≤ v ∧ v ≤ 65535) : Inv n (si M 11 v) X := by
  have e : ∀ j, j ≠ 11 → (si M 11 v).1 j = M.1 j := fun j hj => si_ne hj
  refine Inv_gen h (fun j hj => e j (by omega)) rfl ?_ h.2.1 ?_ ?_ ?_
  · unfold okJ; rw [e 3 (by omega)]; exact h.1.1
  · unfold okP; rw [si_at]; exact hv
  · unfold okC; rw [e 12 (by omega)]; exact h.2.2.2.2.1
  · unfold okD; rw [e 15 (by omega)]; exact h.2.2.2.2.2.1
theorem Inv_15 {n : Nat} {M : St} {X : Nat → Int32} {v : Int32} (h : Inv n M X) (hv : v = 0 ∨ v = 1 ∨ v = 2 ∨ v = 3 ∨ v = 4) : Inv n (si M 15 v) X := by
  have e : ∀ j, j ≠ 15 → (si M 15 v).1 j = M.1 j := fun j hj => si_ne hj
  refine Inv_gen h (fun j hj => e j (by omega)) rfl ?_ h.2.1 ?_ ?_ ?_
  · unfold okJ; rw [e 3 (by omega)]; exact h.1.1
  · unfold okP; rw [e 11 (by omega)]; exact h.2.2.2.1
  · unfold okC; rw [e 12 (by omega)]; exact h.2.2.2.2.1
  · unfold okD; rw [si_at]; exact hv
theorem Inv_3 {n : Nat} {M : St} {X : Nat → Int32} {v : Int32} {r : Int64} (h : Inv n M X) (hv : 0 ≤ v ∧ v ≤ 2000) (hr : ∃ m : Nat, m < 2147483648 ∧ r = lN m) : Inv n (sr (si M 3 v) r) X := by
  have e : ∀ j, j ≠ 3 → (sr (si M 3 v) r).1 j = M.1 j := fun j hj => by rw [sr_1]; exact si_ne hj
  refine Inv_gen h (fun j hj => e j (by omega)) (sr_3 (si M 3 v) r) ?_ ?_ ?_ ?_ ?_
  · unfold okJ; rw [sr_1, si_at]; exact hv
  · unfold okR; rw [sr_2]; exact hr
  · unfold okP; rw [e 11 (by omega)]; exact h.2.2.2.1
  · unfold okC; rw [e 12 (by omega)]; exact h.2.2.2.2.1
  · unfold okD; rw [e 15 (by omega)]; exact h.2.2.2.2.2.1
theorem mix_sr (M : St) (X : Nat → Int32) (r : Int64) : mix (sr M r) X = sr (mix M X) r := rfl
theorem Rel_thr {n : Nat} {C M : St} {v : Int32} (h : Rel n C M) : Rel n C (si M 0 v) := by
  obtain ⟨X, rfl, hi⟩ := h
  exact ⟨X, (mn_0 M X v).symm, Inv_si hi (by decide)⟩
theorem Ans_bad {n : Nat} {C M C' M' : St} {x r r' : Int32} (h : Rel n C M) (hx : x = 1) (hm : M' = si M 0 1) : Ans n C M C' M' x r r' := by
  subst hx; subst hm
  exact ⟨si_at _ _ _, Or.inr ⟨rfl, Rel_thr h⟩⟩
theorem Ans_ok {n : Nat} {C M C' M' : St} {x r r' : Int32} (hx : x = 0) (h0 : M'.1 0 = 0) (hr : r = r') (h : Rel n C' M') : Ans n C M C' M' x r r' := ⟨h0.trans hx.symm, Or.inl ⟨hx, hr, h⟩⟩
theorem in_iff (S : St) (a b c : Int32) : (r_X11_in S a b c = 0) ↔ (a < b ∨ c < a) := by
  show ((if a < b then (0 : Int32) else if c < a then 0 else 1) = 0) ↔ _
  by_cases h : a < b
  · rw [if_pos h]; exact ⟨fun _ => Or.inl h, fun _ => rfl⟩
  · rw [if_neg h]
    by_cases h2 : c < a
    · rw [if_pos h2]; exact ⟨fun _ => Or.inr h2, fun _ => rfl⟩
    · rw [if_neg h2]; exact ⟨fun z => absurd z (by decide), fun z => z.elim (fun z => absurd z h) (fun z => absurd z h2)⟩
theorem hold_bad {S : St} {b : Int32} (h : b = 1) : r_X11_holds S b = 0 ∧ s_X11_holds S b = si S 0 1 := by
  subst h
  exact ⟨rfl, rfl⟩
theorem hold_ok {S : St} {b : Int32} (h : b = 0) : ¬ r_X11_holds S b = 0 ∧ s_X11_holds S b = si S 0 0 := by
  subst h
  exact ⟨by show ¬ (1 : Int32) = 0; decide, rfl⟩
theorem q_setOffset {n : Nat} {C M : St} (h : Rel n C M) (p : Int32) : Ans n C M (s_X10_setOffset C p) (s_X11_setOffset M p) (x_X10_setOffset C p) (r_X10_setOffset C p) (r_X11_setOffset M p) := by
  by_cases q : r_X11_in M p (-300) 300 = 0
  · obtain ⟨b1, b2⟩ := hold_bad (S := M) (show v_X11_setOffset_2 M p = 1 from if_pos q)
    exact Ans_bad h (if_pos q) ((if_pos b1).trans b2)
  · obtain ⟨b1, b2⟩ := hold_ok (S := M) (show v_X11_setOffset_2 M p = 0 from if_neg q)
    have m : s_X11_setOffset M p = si (si M 0 0) 2 (4096 + p) := (if_neg b1).trans (congrArg (fun z => si z 2 (4096 + p)) b2)
    have c : s_X10_setOffset C p = si C 2 (4096 + p) := if_neg q
    have r1 : r_X10_setOffset C p = 4096 + p := (if_neg q).trans (si_at _ _ _)
    have r2 : r_X11_setOffset M p = 4096 + p := (if_neg b1).trans (si_at _ _ _)
    obtain ⟨X, rfl, hi⟩ := h
    refine Ans_ok (if_neg q) (by rw [m]; exact (si_ne (by decide)).trans (si_at _ _ _)) (r1.trans r2.symm) ?_
    rw [c, m]
    exact ⟨X, by rw [← mix_si rfl, mn_0], Inv_si (Inv_si hi (by decide)) (by decide)⟩
theorem q_setDetector {n : Nat} {C M : St} (h : Rel n C M) (p : Int32) : Ans n C M (s_X10_setDetector C p) (s_X11_setDetector M p) (x_X10_setDetector C p) (r_X10_setDetector C p) (r_X11_setDetector M p) := by
  by_cases q : r_X11_in M p 0 4 = 0
  · obtain ⟨b1, b2⟩ := hold_bad (S := M) (show v_X11_setDetector_2 M p = 1 from if_pos q)
    exact Ans_bad h (if_pos q) ((if_pos b1).trans b2)
  · obtain ⟨b1, b2⟩ := hold_ok (S := M) (show v_X11_setDetector_2 M p = 0 from if_neg q)
    have m : s_X11_setDetector M p = si (si M 0 0) 15 p := (if_neg b1).trans (congrArg (fun z => si z 15 p) b2)
    have c : s_X10_setDetector C p = si C 15 p := if_neg q
    have r1 : r_X10_setDetector C p = C.1 15 := if_neg q
    have r2 : r_X11_setDetector M p = M.1 15 := (if_neg b1).trans (by rw [show s_X11_setDetector_3 M p = si M 0 0 from b2]; exact si_ne (by decide))
    obtain ⟨X, rfl, hi⟩ := h
    refine Ans_ok (if_neg q) (by rw [m]; exact (si_ne (by decide)).trans (si_at _ _ _)) (r1.trans ((mix_rd rfl).trans r2.symm)) ?_
    rw [c, m]
    have hq : ¬ (p < 0 ∨ (4 : Int32) < p) := fun z => q ((in_iff M p 0 4).mpr z)
    obtain ⟨j, hj, e⟩ := nI_of2 (x := p) (M := 4) (n := 4) rfl (fun z => hq (Or.inl z)) (Int32.not_lt.mp (fun z => hq (Or.inr z)))
    refine ⟨X, by rw [← mix_si rfl, mn_0], Inv_15 (Inv_si hi (by decide)) ?_⟩
    rw [e]
    match j, hj with
    | 0, _ => exact Or.inl rfl
    | 1, _ => exact Or.inr (Or.inl rfl)
    | 2, _ => exact Or.inr (Or.inr (Or.inl rfl))
    | 3, _ => exact Or.inr (Or.inr (Or.inr (Or.inl rfl)))
    | 4, _ => exact Or.inr (Or.inr (Or.inr (Or.inr rfl)))
theorem q_setPhase {n : Nat} {C M : St} (h : Rel n C M) (p : Int32) : Ans n C M (s_X10_setPhase C p) (s_X11_setPhase M p) (x_X10_setPhase C p) (r_X10_setPhase C p) (r_X11_setPhase M p) := by
  by_cases q : r_X11_in M p 0 65535 = 0
  · obtain ⟨b1, b2⟩ := hold_bad (S := M) (show v_X11_setPhase_2 M p = 1 from if_pos q)
    exact Ans_bad h (if_pos q) ((if_pos b1).trans b2)
  · obtain ⟨b1, b2⟩ := hold_ok (S := M) (show v_X11_setPhase_2 M p = 0 from if_neg q)
    have m : s_X11_setPhase M p = si (si M 0 0) 11 p := (if_neg b1).trans (congrArg (fun z => si z 11 p) b2)
    have c : s_X10_setPhase C p = si C 11 p := if_neg q
    have r1 : r_X10_setPhase C p = C.1 11 := if_neg q
    have r2 : r_X11_setPhase M p = M.1 11 := (if_neg b1).trans (by rw [show s_X11_setPhase_3 M p = si M 0 0 from b2]; exact si_ne (by decide))
    obtain ⟨X, rfl, hi⟩ := h
    refine Ans_ok (if_neg q) (by rw [m]; exact (si_ne (by decide)).trans (si_at _ _ _)) (r1.trans ((mix_rd rfl).trans r2.symm)) ?_
    rw [c, m]
    have hq : ¬ (p < 0 ∨ (65535 : Int32) < p) := fun z => q ((in_iff M p 0 65535).mpr z)
    exact ⟨X, by rw [← mix_si rfl, mn_0], Inv_11 (Inv_si hi (by decide)) ⟨Int32.not_lt.mp (fun z => hq (Or.inl z)), Int32.not_lt.mp (fun z => hq (Or.inr z))⟩⟩
theorem q_setJitter {n : Nat} {C M : St} (h : Rel n C M) (p p1 : Int32) : Ans n C M (s_X10_setJitter C p p1) (s_X11_setJitter M p p1) (x_X10_setJitter C p p1) 0 0 := by
  by_cases q : r_X11_in M p 0 2000 = 0
  · obtain ⟨b1, b2⟩ := hold_bad (S := M) (show v_X11_setJitter_2 M p p1 = 1 from if_pos q)
    exact Ans_bad h (if_pos q) ((if_pos b1).trans b2)
  · by_cases q1 : p1 < 0
    · have q2 : ¬ 0 ≤ p1 := Int32.not_le.mpr q1
      obtain ⟨b1, b2⟩ := hold_bad (S := M) (show v_X11_setJitter_2 M p p1 = 1 from (if_neg q).trans (if_pos q1))
      exact Ans_bad h ((if_neg q).trans (if_neg q2)) ((if_pos b1).trans b2)
    · have q2 : 0 ≤ p1 := Int32.not_lt.mp q1
      obtain ⟨b1, b2⟩ := hold_ok (S := M) (show v_X11_setJitter_2 M p p1 = 0 from (if_neg q).trans (if_neg q1))
      have m : s_X11_setJitter M p p1 = sr (si (si M 0 0) 3 p) (Int32.toInt64 p1) := (if_neg b1).trans (congrArg (fun z => sr (si z 3 p) (Int32.toInt64 p1)) b2)
      have c : s_X10_setJitter C p p1 = sr (si C 3 p) (Int32.toInt64 p1) := (if_neg q).trans (if_pos q2)
      obtain ⟨X, rfl, hi⟩ := h
      refine Ans_ok ((if_neg q).trans (if_pos q2)) (by rw [m, sr_1]; exact (si_ne (by decide)).trans (si_at _ _ _)) rfl ?_
      rw [c, m]
      have hq : ¬ (p < 0 ∨ (2000 : Int32) < p) := fun z => q ((in_iff M p 0 2000).mpr z)
      obtain ⟨j, hj, e⟩ := nI_of2 (x := p1) (M := 2147483647) (n := 2147483647) rfl q1 (Int32.le_iff_toInt_le.mpr (by have := Int32.toInt_lt p1; show _ ≤ (2147483647 : Int); omega))
      refine ⟨X, ?_, Inv_3 (Inv_si hi (by decide)) ⟨Int32.not_lt.mp (fun z => hq (Or.inl z)), Int32.not_lt.mp (fun z => hq (Or.inr z))⟩ ⟨j, by omega, by rw [e]; exact nI_l (by omega)⟩⟩
      rw [mix_sr, ← mix_si rfl, mn_0]
theorem q_setGains {n : Nat} {C M : St} (h : Rel n C M) (p p1 : Int32) : Ans n C M (s_X10_setGains C p p1) (s_X11_setGains M p p1) (x_X10_setGains C p p1) 0 0 := by
  by_cases q : r_X11_in M p 0 64 = 0
  · obtain ⟨b1, b2⟩ := hold_bad (S := M) (show v_X11_setGains_3 M p p1 = 1 from if_pos q)
    exact Ans_bad h (if_pos q) ((if_pos b1).trans b2)
  · by_cases q1 : r_X11_in M p1 0 64 = 0
    · obtain ⟨b1, b2⟩ := hold_bad (S := M) (show v_X11_setGains_3 M p p1 = 1 from (if_neg q).trans (if_pos q1))
      exact Ans_bad h ((if_neg q).trans (if_pos q1)) ((if_pos b1).trans b2)
    · obtain ⟨b1, b2⟩ := hold_ok (S := M) (show v_X11_setGains_3 M p p1 = 0 from (if_neg q).trans (if_neg q1))
      have m : s_X11_setGains M p p1 = si (si (si M 0 0) 16 p) 17 p1 := (if_neg b1).trans (congrArg (fun z => si (si z 16 p) 17 p1) b2)
      have c : s_X10_setGains C p p1 = si (si C 16 p) 17 p1 := (if_neg q).trans (if_neg q1)
      obtain ⟨X, rfl, hi⟩ := h
      refine Ans_ok ((if_neg q).trans (if_neg q1)) (by rw [m]; exact (si_ne (by decide)).trans ((si_ne (by decide)).trans (si_at _ _ _))) rfl ?_
      rw [c, m]
      exact ⟨X, by rw [← mix_si rfl, ← mix_si rfl, mn_0], Inv_si (Inv_si (Inv_si hi (by decide)) (by decide)) (by decide)⟩
theorem q_release {n : Nat} {C M : St} (h : Rel n C M) : Rel n (s_X10_release C) (s_X11_release M) := by
  obtain ⟨X, rfl, hi⟩ := h
  refine ⟨X, ?_, Inv_12 (Inv_si (Inv_si hi (by decide)) (by decide))⟩
  show si (si (mix M X) 13 0) 12 0 = mix (si (si (si M 0 0) 13 0) 12 0) X
  rw [← mix_si rfl, ← mix_si rfl, mn_0]
/-- the getters of one number -/
theorem q_get {n k : Nat} {C M : St} (h : Rel n C M) (hk : shb k = true) (h0 : k ≠ 0) : C.1 k = (si M 0 0).1 k := by
  obtain ⟨X, rfl, hi⟩ := h
  rw [mix_rd hk, si_ne h0]
theorem q_level {n : Nat} {C M : St} (h : Rel n C M) : r_X10_level C = r_X11_level M := by
  obtain ⟨X, rfl, hi⟩ := h
  exact level_eq ((mix_rd rfl).trans (si_ne (by decide)).symm)
theorem q_bit {n : Nat} {C M : St} (hn : n < 2000000) (h : Rel n C M) (p : Int32) : Ans n C M C (s_X11_bit M p) (x_X10_bit C p) (r_X10_bit C p) (r_X11_bit M p) := by
  have e24 : C.1 24 = M.1 24 := by obtain ⟨X, rfl, hi⟩ := h; exact mix_rd rfl
  have e25 : C.1 25 = M.1 25 := by obtain ⟨X, rfl, hi⟩ := h; exact mix_rd rfl
  have er : (if C.1 24 < 32 then C.1 24 else (32 : Int32)) = r_X11_recent M := by
    show _ = (if (32 : Int32) ≤ M.1 24 then 32 else M.1 24)
    rw [e24]
    by_cases z : M.1 24 < 32
    · rw [if_pos z, if_neg (Int32.not_le.mpr z)]
    · rw [if_neg z, if_pos (Int32.not_lt.mp z)]
  have ein : v_X10_bit_1 C p = r_X11_in M p 1 (r_X11_recent M) := by
    rw [← er]
    rfl
  by_cases q : r_X11_in M p 1 (r_X11_recent M) = 0
  · obtain ⟨b1, b2⟩ := hold_bad (S := M) (show v_X11_bit_3 M p = 1 from if_pos q)
    exact Ans_bad h (if_pos (ein.trans q)) b2
  · obtain ⟨b1, b2⟩ := hold_ok (S := M) (show v_X11_bit_3 M p = 0 from if_neg q)
    have m : s_X11_bit M p = si M 0 0 := b2
    have q' : ¬ v_X10_bit_1 C p = 0 := fun z => q (ein.symm.trans z)
    refine Ans_ok (if_neg q') (by rw [m]; exact si_at _ _ _) ?_ (by rw [m]; exact Rel_thr h)
    have r1 : r_X10_bit C p = r_X1_findBit C p := if_neg q'
    have r2 : r_X11_bit M p = (((si M 0 0).1 25) >>> ((p - 1) &&& 31)) &&& 1 := (if_neg b1).trans (by show (((s_X11_bit_4 M p).1 25) >>> ((p - 1) &&& 31)) &&& 1 = _; rw [show s_X11_bit_4 M p = si M 0 0 from b2])
    have hq : ¬ (p < 1 ∨ r_X11_recent M < p) := fun z => q ((in_iff M p 1 _).mpr z)
    have hr32 : r_X11_recent M ≤ 32 := by
      show (if (32 : Int32) ≤ M.1 24 then 32 else M.1 24) ≤ 32
      by_cases z : (32 : Int32) ≤ M.1 24
      · rw [if_pos z]; exact Int32.le_refl _
      · rw [if_neg z]; exact Int32.le_of_lt (Int32.not_le.mp z)
    have hp1 : (1 : Int32) ≤ p := Int32.not_lt.mp (fun z => hq (Or.inl z))
    have hp2 : p ≤ 32 := Int32.le_trans (Int32.not_lt.mp (fun z => hq (Or.inr z))) hr32
    obtain ⟨j, hj, e⟩ := nI_of2 (x := p) (M := 32) (n := 32) rfl (fun z => absurd (Int32.lt_of_lt_of_le z (Int32.le_trans (by decide) hp1)) (Int32.lt_irrefl)) hp2
    have hj1 : 1 ≤ j := by
      rw [e] at hp1
      exact (nI_leI (a := 1) (b := j) (by omega) (by omega)).mp hp1
    obtain ⟨s, rfl⟩ : ∃ s, j = s + 1 := ⟨j - 1, by omega⟩
    have es : p - 1 = nI s := by rw [e, ← nI_1, Int32.add_sub_cancel]
    rw [r1, r2, si_ne (by decide)]
    show ((C.1 25).toUInt32 >>> ((p - 1).toUInt32 &&& Int32.toUInt32 31)).toInt32 &&& 1 = _
    rw [es, e25]
    apply b_ext
    intro i hi
    rw [b_and, b_and, b_1]
    by_cases z : i = 0
    · subst z
      rw [b_ushr s (by omega), b_sshr s (by omega) _ hi, if_pos (by omega)]
    · rw [decide_eq_false z, Bool.and_false, Bool.and_false]
theorem q_phase {n : Nat} {C M : St} (hn : n < 2000000) (h : Rel n C M) : Ans n C M C (s_X11_phase M) (x_X10_phase C) (r_X10_phase C) (r_X11_phase M) := by
  have h' := h
  obtain ⟨X, rfl, hi⟩ := h'
  have e41 : (mix M X).1 41 = M.1 24 := (mix_rx rfl).trans hi.2.2.2.2.2.2.1.2.1
  by_cases q : M.1 24 = 0
  · obtain ⟨b1, b2⟩ := hold_bad (S := M) (show v_X11_phase_1 M = 1 from if_pos q)
    exact Ans_bad h (if_pos (e41.trans q)) b2
  · obtain ⟨b1, b2⟩ := hold_ok (S := M) (show v_X11_phase_1 M = 0 from if_neg q)
    have m : s_X11_phase M = si M 0 0 := b2
    have q' : ¬ (mix M X).1 41 = 0 := fun z => q (e41.symm.trans z)
    refine Ans_ok (if_neg q') (by rw [m]; exact si_at _ _ _) ?_ (by rw [m]; exact Rel_thr h)
    have r1 : r_X10_phase (mix M X) = M.2.2.2 ((rc M - 1) % 32) := (if_neg q').trans ((mix_rx rfl).trans (hi.2.2.2.2.2.2.1.2.2.1 q))
    have h24 := hi.1.2.2.1
    have hrn := hi.1.2.2.2
    have hr0 : 0 < rc M := by
      refine Nat.pos_of_ne_zero (fun z => q ?_)
      rw [h24, z]
      rfl
    have e4 : v_X11_phase_4 M = nI (rc M - 1) := by
      show (s_X11_phase_2 M).1 24 - 1 = _
      rw [show s_X11_phase_2 M = si M 0 0 from b2, si_ne (by decide), h24]
      obtain ⟨s, hs⟩ : ∃ s, rc M = s + 1 := ⟨rc M - 1, by omega⟩
      rw [hs, ← nI_1, Int32.add_sub_cancel]
      rfl
    have e5 : v_X11_phase_5 M = nI ((rc M - 1) % 32) := irem_nI (m := 32) e4 rfl (by omega) (by omega) (by omega)
    have r2 : r_X11_phase M = M.2.2.2 ((rc M - 1) % 32) := (if_neg b1).trans (by
      show (s_X11_phase_2 M).2.2.2 (v_X11_phase_5 M).toNatClampNeg = _
      rw [show s_X11_phase_2 M = si M 0 0 from b2, e5, nI_clamp (by omega)]
      rfl)
    rw [r1, r2]
theorem lk_iff (M : St) : ∀ i, i ≤ 32 → ((lkM M i = 0 ∨ lkM M i = 1) ∧ (lkM M i = 1 ↔ (v_X11_isLocked_2 M = 1 ∧ ∀ j, j < i → inr (M.2.2.2 j))))
  | 0, _ => by
    have e : v_X11_isLocked_2 M = 0 ∨ v_X11_isLocked_2 M = 1 := by
      show (if ((s_X11_isLocked_1 M).1 24) < 32 then (0 : Int32) else if ((s_X11_isLocked_1 M).1 29) = 0 then 1 else 0) = 0 ∨ (if ((s_X11_isLocked_1 M).1 24) < 32 then (0 : Int32) else if ((s_X11_isLocked_1 M).1 29) = 0 then 1 else 0) = 1
      split
      · exact Or.inl rfl
      · split
        · exact Or.inr rfl
        · exact Or.inl rfl
    exact ⟨e, fun z => ⟨z, fun j hj => absurd hj (by omega)⟩, fun z => z.1⟩
  | i + 1, hi => by
    obtain ⟨h1, h2⟩ := lk_iff M i (by omega)
    have st : lkM M (i + 1) = if lkM M i = 0 then 0 else if r_X11_in (s_X11_isLocked_1 M) (M.2.2.2 i) (-16384) 16383 = 0 then 0 else 1 := by
      show (if lkM M i = 0 then (0 : Int32) else if r_X11_in (s_X11_isLocked_1 M) (M.2.2.2 (nI i).toNatClampNeg) (-16384) 16383 = 0 then 0 else 1) = _
      rw [nI_clamp (by omega)]
    rw [st]
    by_cases z : lkM M i = 0
    · rw [if_pos z]
      exact ⟨Or.inl rfl, fun y => absurd y (by decide), fun y => absurd (z.symm.trans (h2.mpr ⟨y.1, fun j hj => y.2 j (by omega)⟩)) (by decide)⟩
    · rw [if_neg z]
      have z1 := h2.mp (h1.resolve_left z)
      have w := in_iff (s_X11_isLocked_1 M) (M.2.2.2 i) (-16384) 16383
      by_cases y : r_X11_in (s_X11_isLocked_1 M) (M.2.2.2 i) (-16384) 16383 = 0
      · rw [if_pos y]
        exact ⟨Or.inl rfl, fun u => absurd u (by decide), fun u => absurd (w.mp y) (fun v => v.elim (u.2 i (by omega)).1 (u.2 i (by omega)).2)⟩
      · rw [if_neg y]
        refine ⟨Or.inr rfl, fun _ => ⟨z1.1, fun j hj => ?_⟩, fun _ => rfl⟩
        by_cases e : j = i
        · rw [e]; exact ⟨fun u => y (w.mpr (Or.inl u)), fun u => y (w.mpr (Or.inr u))⟩
        · exact z1.2 j (by omega)
theorem q_isLocked {n : Nat} {C M : St} (hn : n < 2000000) (h : Rel n C M) : r_X10_isLocked C = r_X11_isLocked M := by
  obtain ⟨X, rfl, hi⟩ := h
  obtain ⟨st, h43, hst, hs⟩ := hi.2.2.2.2.2.2.1.2.2.2.1
  have h24 := hi.1.2.2.1
  have hrn := hi.1.2.2.2
  obtain ⟨k1, k2⟩ := lk_iff M 32 (by omega)
  have v2 : v_X11_isLocked_2 M = 1 ↔ (32 ≤ rc M ∧ M.1 29 = 0) := by
    have a24 : (s_X11_isLocked_1 M).1 24 = M.1 24 := si_ne (by decide)
    have a29 : (s_X11_isLocked_1 M).1 29 = M.1 29 := si_ne (by decide)
    show (if ((s_X11_isLocked_1 M).1 24) < 32 then (0 : Int32) else if ((s_X11_isLocked_1 M).1 29) = 0 then 1 else 0) = 1 ↔ _
    rw [a24, a29]
    have l := nI_leI (a := 32) (b := rc M) (by omega) (by omega)
    by_cases z : M.1 24 < 32
    · rw [if_pos z]
      exact ⟨fun y => absurd y (by decide), fun y => absurd z (Int32.not_lt.mpr (by rw [h24]; exact l.mpr y.1))⟩
    · rw [if_neg z]
      have z' : 32 ≤ rc M := l.mp (by rw [← h24]; exact Int32.not_lt.mp z)
      by_cases y : M.1 29 = 0
      · rw [if_pos y]; exact ⟨fun _ => ⟨z', y⟩, fun _ => rfl⟩
      · rw [if_neg y]; exact ⟨fun u => absurd u (by decide), fun u => absurd u.2 y⟩
  have main : (32 ≤ st) ↔ lkM M 32 = 1 := by
    rw [k2, v2, hs 32 (by omega)]
    constructor
    · intro ⟨a, b⟩
      refine ⟨⟨a, b_ext (fun j hj => (b j hj).1.trans (b_0 j).symm)⟩, fun k hk => ?_⟩
      have q := (b ((rc M - 1 - k) % 32) (by omega)).2
      rw [show (rc M - 1 - (rc M - 1 - k) % 32) % 32 = k by omega] at q
      exact q
    · intro ⟨⟨a, b⟩, c⟩
      exact ⟨a, fun j hj => ⟨by rw [b]; exact b_0 j, c _ (by omega)⟩⟩
  show (if (mix M X).1 43 < 32 then (0 : Int32) else 1) = lkM M 32
  rw [mix_rx (k := 43) rfl, h43]
  have l := nI_leI (a := 32) (b := st) (by omega) (by omega)
  by_cases z : nI st < 32
  · rw [if_pos z]
    rcases k1 with y | y
    · exact y.symm
    · exact absurd z (Int32.not_lt.mpr (l.mpr (main.mpr y)))
  · rw [if_neg z]
    exact (main.mp (l.mp (Int32.not_lt.mp z))).symm
theorem wan_eq {n : Nat} {M : St} {X : Nat → Int32} (hi : Inv n M X) : ∀ i, i ≤ 32 → sabs (mix M X) i = mw M (min (rc M) i)
  | 0, _ => by rw [Nat.min_zero]; rfl
  | i + 1, h => by
    have ih := wan_eq hi i (by omega)
    have st : sabs (mix M X) (i + 1) = sabs (mix M X) i + r_X11_size M (M.2.2.2 i) := by
      show sabs (mix M X) i + (if 0 ≤ M.2.2.2 (nI i).toNatClampNeg then M.2.2.2 (nI i).toNatClampNeg else 0 - M.2.2.2 (nI i).toNatClampNeg) = _
      rw [abs_eq M, nI_clamp (by omega)]
    rw [st, ih]
    by_cases z : i < rc M
    · rw [Nat.min_eq_right (by omega), Nat.min_eq_right (by omega)]
      show _ = mw M i + r_X11_size (s_X11_wander_1 M) (M.2.2.2 (nI i).toNatClampNeg)
      rw [nI_clamp (by omega)]
      rfl
    · rw [Nat.min_eq_left (by omega), Nat.min_eq_left (by omega), hi.2.2.2.2.2.2.1.2.2.2.2 i (by omega) (by omega)]
      exact Int32.add_zero _
theorem q_wander {n : Nat} {C M : St} (h : Rel n C M) : r_X10_wander C = r_X11_wander M := by
  obtain ⟨X, rfl, hi⟩ := h
  exact wan_eq hi 32 (by omega)
