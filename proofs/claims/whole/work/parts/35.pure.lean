/-- sums of a window of 256, forwards and backwards from a tick -/
def sm (t : Nat → Int32) : Nat → Int32
  | 0 => 0
  | i + 1 => sm t i + t i
def rs (t : Nat → Int32) (T : Nat) : Nat → Int32
  | 0 => 0
  | i + 1 => rs t T i + t ((T - i) % 256)
theorem rs_front (t : Nat → Int32) (T : Nat) : ∀ i, rs t (T + 1) (i + 1) = t ((T + 1) % 256) + rs t T i
  | 0 => by
    show 0 + t ((T + 1 - 0) % 256) = t ((T + 1) % 256) + 0
    rw [Int32.zero_add, Int32.add_zero, Nat.sub_zero]
  | i + 1 => by
    show rs t (T + 1) (i + 1) + t ((T + 1 - (i + 1)) % 256) = t ((T + 1) % 256) + (rs t T i + t ((T - i) % 256))
    rw [rs_front t T i, Nat.add_sub_add_right, Int32.add_assoc]
theorem rs_step (t : Nat → Int32) (T : Nat) (h : 255 ≤ T) : rs t (T + 1) 256 = rs t T 256 := by
  rw [rs_front t T 255]
  show _ = rs t T 255 + t ((T - 255) % 256)
  rw [show (T - 255) % 256 = (T + 1) % 256 by omega]
  exact Int32.add_comm _ _
theorem rs_255 (t : Nat → Int32) : ∀ d, rs t (255 + d) 256 = rs t 255 256
  | 0 => rfl
  | d + 1 => (rs_step t (255 + d) (by omega)).trans (rs_255 t d)
theorem rs_rev (t : Nat → Int32) (T : Nat) (hT : T < 256) : ∀ i, i ≤ T + 1 → rs t T i + sm t (T + 1 - i) = sm t (T + 1)
  | 0, _ => by
    show 0 + sm t (T + 1 - 0) = _
    rw [Int32.zero_add, Nat.sub_zero]
  | i + 1, h => by
    have ih := rs_rev t T hT i (by omega)
    rw [show T + 1 - i = (T - i) + 1 by omega] at ih
    rw [← ih, show T + 1 - (i + 1) = T - i by omega]
    show rs t T i + t ((T - i) % 256) + sm t (T - i) = rs t T i + (sm t (T - i) + t (T - i))
    rw [Nat.mod_eq_of_lt (by omega), Int32.add_assoc, Int32.add_comm (t (T - i))]
theorem sm_z (t : Nat → Int32) (T : Nat) : ∀ d, (∀ j, T < j → j < T + 1 + d → t j = 0) → sm t (T + 1 + d) = sm t (T + 1)
  | 0, _ => rfl
  | d + 1, h => by
    show sm t (T + 1 + d) + t (T + 1 + d) = _
    rw [h (T + 1 + d) (by omega) (by omega), Int32.add_zero]
    exact sm_z t T d (fun j h1 h2 => h j h1 (by omega))
theorem win_eq (t : Nat → Int32) (T : Nat) (h : T < 256 → ∀ p, p < 256 → (p = 0 ∨ T < p) → t p = 0) : sm t 256 = rs t T (min T 256) := by
  by_cases z : T < 256
  · rw [Nat.min_eq_left (by omega)]
    have e1 : sm t 256 = sm t (T + 1) := by
      have q := sm_z t T (255 - T) (fun j h1 h2 => h z j (by omega) (Or.inr h1))
      rw [show T + 1 + (255 - T) = 256 by omega] at q
      exact q
    have e2 := rs_rev t T z T (by omega)
    rw [show T + 1 - T = 1 by omega] at e2
    have e3 : sm t 1 = 0 := by
      show 0 + t 0 = 0
      rw [h z 0 (by omega) (Or.inl rfl), Int32.add_zero]
    rw [e3, Int32.add_zero] at e2
    rw [e1, e2]
  · rw [Nat.min_eq_right (by omega)]
    have e1 := rs_255 t (T - 255)
    rw [show 255 + (T - 255) = T by omega] at e1
    have e2 := rs_rev t 255 (by omega) 256 (by omega)
    have e3 : sm t (255 + 1 - 256) = 0 := rfl
    rw [e3, Int32.add_zero] at e2
    rw [e1, e2]
/-- the distance of a place from a phase, in the class and in the check -/
theorem dist_tab : ∀ d, d < 16 → ∀ j, j < 256 → r_X2_findDistance st0 (nI d) (nI j) = cfar (nI d) (nI j) := by decide +kernel
theorem cfar_mod (p : Int32) {m : Nat} (hm : m < 2 ^ 31) : cfar p (nI m) = cfar p (nI (m % 256)) := by
  have e : cby p (nI m) = cby p (nI (m % 256)) := by
    unfold cby
    rw [irem_nI (x := nI m) (d := 16) (m := 16) rfl rfl hm (by omega) (by omega), irem_nI (x := nI (m % 256)) (d := 16) (m := 16) rfl rfl (by omega) (by omega) (by omega), show m % 256 % 16 = m % 16 by omega]
  unfold cfar
  rw [e]
def tt (f : Nat → Int32) (p : Int32) (j : Nat) : Int32 := if f j = 0 then 0 else 8 - cfar p (nI j)
theorem cterm_eq (M : St) (p : Int32) {m : Nat} (hm : m < 2 ^ 31) : cterm M p (nI m) = tt M.2.2.1 p (m % 256) := by
  unfold cterm tt
  rw [irem_nI (x := nI m) (d := 256) (m := 256) rfl rfl hm (by omega) (by omega), nI_clamp (by omega), cfar_mod p hm]
theorem ccost_rs {n : Nat} {M : St} (hn : n < 2000000) (hm : okM n M) (p : Int32) : ∀ i, ccost M p i = rs (tt M.2.2.1 p) (tk M) i
  | 0 => rfl
  | i + 1 => by
    have hk := hm.2.1.2
    show ccost M p i + cterm M p (nI (tk M - i)) = _
    rw [ccost_rs hn hm p i, cterm_eq M p (by omega)]
    rfl
theorem scost_sm (C : St) {d : Nat} (hd : d < 16) : ∀ i, i ≤ 256 → scost C (nI d) i = sm (tt C.2.2.1 (nI d)) i
  | 0, _ => rfl
  | i + 1, h => by
    show (if C.2.2.1 (nI i).toNatClampNeg = 0 then scost C (nI d) i else scost C (nI d) i + (8 - r_X2_findDistance C (nI d) (nI i))) = sm (tt C.2.2.1 (nI d)) i + (if C.2.2.1 i = 0 then 0 else 8 - cfar (nI d) (nI i))
    have e : r_X2_findDistance C (nI d) (nI i) = cfar (nI d) (nI i) := dist_tab d hd i (by omega)
    rw [scost_sm C hd i (by omega), nI_clamp (by omega), e]
    by_cases z : C.2.2.1 i = 0
    · rw [if_pos z, if_pos z, Int32.add_zero]
    · rw [if_neg z, if_neg z]
theorem cost_eq {n : Nat} {C M : St} (hn : n < 2000000) (h : Rel n C M) {d : Nat} (hd : d < 16) : r_X2_sumCosts C (nI d) = r_X11_costOf M (nI d) := by
  obtain ⟨X, rfl, hi⟩ := h
  have he := hi.2.2.2.2.2.2.2.2
  show scost (mix M X) (nI d) 256 = ccost M (nI d) (min (tk M) 256)
  rw [scost_sm _ hd 256 (by omega), ccost_rs hn hi.1]
  refine win_eq (tt M.2.2.1 (nI d)) (tk M) (fun z p hp hz => ?_)
  exact if_pos (he z p hp hz)
theorem q_cost {n : Nat} {C M : St} (hn : n < 2000000) (h : Rel n C M) (p : Int32) : Ans n C M C (s_X11_cost M p) (x_X10_cost C p) (r_X10_cost C p) (r_X11_cost M p) := by
  by_cases q : r_X11_in M p 0 15 = 0
  · obtain ⟨b1, b2⟩ := hold_bad (S := M) (show v_X11_cost_2 M p = 1 from if_pos q)
    exact Ans_bad h (if_pos q) b2
  · obtain ⟨b1, b2⟩ := hold_ok (S := M) (show v_X11_cost_2 M p = 0 from if_neg q)
    have m : s_X11_cost M p = si M 0 0 := b2
    refine Ans_ok (if_neg q) (by rw [m]; exact si_at _ _ _) ?_ (by rw [m]; exact Rel_thr h)
    have hq : ¬ (p < 0 ∨ (15 : Int32) < p) := fun z => q ((in_iff M p 0 15).mpr z)
    obtain ⟨j, hj, e⟩ := nI_of2 (x := p) (M := 15) (n := 15) rfl (fun z => hq (Or.inl z)) (Int32.not_lt.mp (fun z => hq (Or.inr z)))
    have r1 : r_X10_cost C p = r_X2_sumCosts C p := if_neg q
    have r2 : r_X11_cost M p = r_X11_costOf (si M 0 0) p := (if_neg b1).trans (congrArg (fun z => r_X11_costOf z p) b2)
    rw [r1, r2, e]
    exact cost_eq hn (Rel_thr h) (by omega)
theorem best_eq {n : Nat} {C M : St} (hn : n < 2000000) (h : Rel n C M) : ∀ i, i ≤ 15 → bst C i = mb M i ∧ lcst C i = r_X2_sumCosts C (bst C i) ∧ ∃ d, d < 16 ∧ bst C i = nI d
  | 0, _ => ⟨rfl, rfl, 0, by omega, rfl⟩
  | i + 1, hi => by
    obtain ⟨h1, h2, d, hd, h3⟩ := best_eq hn h i (by omega)
    have h0 : Rel n C (s_X11_bestPhase_1 M) := Rel_thr h
    have c1 : r_X2_sumCosts C (nI (i + 1)) = r_X11_costOf (s_X11_bestPhase_1 M) (nI (i + 1)) := cost_eq hn h0 (by omega)
    have c2 : lcst C i = r_X11_costOf (s_X11_bestPhase_1 M) (mb M i) := by
      rw [h2, ← h1, h3]
      exact cost_eq hn h0 hd
    have e1 : bst C (i + 1) = if lcst C i ≤ r_X2_sumCosts C (nI (i + 1)) then bst C i else nI (i + 1) := rfl
    have e2 : mb M (i + 1) = if r_X11_costOf (s_X11_bestPhase_1 M) (mb M i) ≤ r_X11_costOf (s_X11_bestPhase_1 M) (nI (i + 1)) then mb M i else nI (i + 1) := rfl
    have e3 : lcst C (i + 1) = if lcst C i ≤ r_X2_sumCosts C (nI (i + 1)) then lcst C i else r_X2_sumCosts C (nI (i + 1)) := rfl
    rw [e1, e2, e3, ← c1, ← c2]
    by_cases z : lcst C i ≤ r_X2_sumCosts C (nI (i + 1))
    · rw [if_pos z, if_pos z, if_pos z]
      exact ⟨h1, h2, d, hd, h3⟩
    · rw [if_neg z, if_neg z, if_neg z]
      exact ⟨rfl, rfl, i + 1, by omega, rfl⟩
theorem q_bestPhase {n : Nat} {C M : St} (hn : n < 2000000) (h : Rel n C M) : r_X10_bestPhase C = r_X11_bestPhase M := (best_eq hn h 15 (by omega)).1
theorem rv_0 (S : St) : (s_X11_receives S).1 0 = S.1 0 := by
  have q : (s_X11_receives S).1 0 = (s_X11_receives_25 S).1 0 := (al_lo _ (by omega)).trans (r29 S (by omega))
  rw [q, r25 S (by omega), r22 S (by omega)]
theorem sb_0 (P : St) (b : Int32) : (s_X11_strobes P b).1 0 = P.1 0 := by
  have e4 : (s_X11_strobes_4 P b).1 0 = P.1 0 := ms_ne (by decide)
  have e5 : (s_X11_strobes_5 P b).1 0 = P.1 0 := by
    unfold s_X11_strobes_5
    split
    · rfl
    · split
      · rfl
      · split
        · exact e4
        · rfl
  have e8 : (s_X11_strobes_8 P b).1 0 = P.1 0 := (si_ne (by decide)).trans ((si_ne (by decide)).trans e5)
  have e9 : (s_X11_strobes_9 P b).1 0 = P.1 0 := by
    unfold s_X11_strobes_9
    split
    · exact e5
    · split
      · exact e5
      · exact e8
  have e12 : (s_X11_strobes_12 P b).1 0 = P.1 0 := (si_ne (by decide)).trans e9
  have e13 : (s_X11_strobes_13 P b).1 0 = P.1 0 := by
    unfold s_X11_strobes_13
    split
    · exact e9
    · split
      · exact e9
      · exact e12
  have e16 : (s_X11_strobes_16 P b).1 0 = P.1 0 := (rv_0 _).trans ((si_ne (by decide)).trans e13)
  unfold s_X11_strobes s_X11_strobes_17
  split
  · exact e13
  · exact e16
theorem ps_0 (S : St) : (s_X11_passes S).1 0 = S.1 0 := (sb_0 _ _).trans ((si_ne (by decide)).trans ((ps15_keep (by decide)).trans (tr_keep (by decide))))
theorem it_0 (S : St) : ∀ i, (itM S i).1 0 = S.1 0
  | 0 => rfl
  | i + 1 => (ps_0 _).trans (it_0 S i)
theorem q_run {n : Nat} {C M : St} (hn : n + 800 < 1000000) (h : Rel n C M) (p : Int32) : Ans (n + 800) C M (s_X10_run C p) (s_X11_run M p) (x_X10_run C p) (r_X10_run C p) (r_X11_run M p) := by
  have up : ∀ {A B : St}, Rel n A B → Rel (n + 800) A B := fun ⟨X, e, i⟩ => ⟨X, e, Inv_up i (by omega)⟩
  by_cases q : r_X11_in M p 1 800 = 0
  · obtain ⟨b1, b2⟩ := hold_bad (S := M) (show v_X11_run_2 M p = 1 from if_pos q)
    exact Ans_bad (up h) (if_pos q) ((if_pos b1).trans b2)
  · obtain ⟨b1, b2⟩ := hold_ok (S := M) (show v_X11_run_2 M p = 0 from if_neg q)
    have hq : ¬ (p < 1 ∨ (800 : Int32) < p) := fun z => q ((in_iff M p 1 800).mpr z)
    obtain ⟨_, hk⟩ := run_g (fun z => hq (Or.inl z)) (fun z => hq (Or.inr z))
    generalize hK : p.toNatClampNeg = k at hk
    have m : s_X11_run M p = itM (si M 0 0) k := (if_neg b1).trans (by rw [hK, show s_X11_run_3 M p = si M 0 0 from b2])
    have c : s_X10_run C p = itP C k := (if_neg q).trans (by rw [hK])
    have r1 : r_X10_run C p = (itP C k).1 24 - C.1 24 := (if_neg q).trans (by
      show (itP C p.toNatClampNeg).1 24 - C.1 24 = _
      rw [hK])
    have r2 : r_X11_run M p = (itM (si M 0 0) k).1 24 - (si M 0 0).1 24 := (if_neg b1).trans (by
      show (itM (s_X11_run_3 M p) p.toNatClampNeg).1 24 - (s_X11_run_3 M p).1 24 = _
      rw [hK, show s_X11_run_3 M p = si M 0 0 from b2])
    obtain ⟨X, rfl, hi⟩ := Rel_thr (v := 0) h
    obtain ⟨X', w1, w2⟩ := run_it hn hi k hk
    refine Ans_ok (if_neg q) (by rw [m, it_0]; exact si_at _ _ _) ?_ ?_
    · rw [r1, r2, w1, mix_rd (k := 24) rfl, mix_rd (k := 24) rfl]
    · rw [c, m, w1]
      exact ⟨X', rfl, Inv_up w2 (by omega)⟩
