def okP (M : St) : Prop := 0 ≤ M.1 11 ∧ M.1 11 ≤ 65535
def okC (M : St) : Prop := -1024 ≤ M.1 12 ∧ M.1 12 ≤ 1024
def okD (M : St) : Prop := M.1 15 = 0 ∨ M.1 15 = 1 ∨ M.1 15 = 2 ∨ M.1 15 = 3 ∨ M.1 15 = 4
theorem InvS_of {S T : St} {X : Nat → Int32} (h : InvS S X) (h24 : T.1 24 = S.1 24) (h29 : T.1 29 = S.1 29) (hf : T.2.2.2 = S.2.2.2) : InvS T X := by
  unfold InvS rc at *
  rw [h24, h29, hf]
  exact h
theorem InvG_of {S T : St} {X : Nat → Int32} (h : InvG S X) (h24 : T.1 24 = S.1 24) (h31 : T.1 31 = S.1 31) (h32 : T.1 32 = S.1 32) (h33 : T.1 33 = S.1 33) (h34 : T.1 34 = S.1 34) : InvG T X := by
  unfold InvG rc at *
  rw [h24, h31, h32, h33, h34]
  exact h
theorem kept_in (S : St) (p g : Int32) (hg : -g ≤ g) : -g ≤ r_X11_kept S p g ∧ r_X11_kept S p g ≤ g := by
  show -g ≤ (if p ≤ g then if -g ≤ p then p else -g else g) ∧ (if p ≤ g then if -g ≤ p then p else -g else g) ≤ g
  by_cases h : p ≤ g
  · rw [if_pos h]
    by_cases h2 : -g ≤ p
    · rw [if_pos h2]; exact ⟨h2, h⟩
    · rw [if_neg h2]; exact ⟨Int32.le_refl _, hg⟩
  · rw [if_neg h]; exact ⟨hg, Int32.le_refl _⟩
theorem ms_C (S : St) (e : Int32) : okC (s_X11_measures S e) := by
  have q : (s_X11_measures S e).1 12 = r_X11_kept (s_X11_measures_5 S e) (v_X11_measures_8 S e) 1024 := si_at _ _ _
  unfold okC
  rw [q]
  exact kept_in _ _ _ (by decide)
theorem rv_C {S : St} (h : okC S) : okC (s_X11_receives S) := by
  have q : (s_X11_receives S).1 12 = (s_X11_receives_25 S).1 12 := (al_lo _ (by decide)).trans (r29 S (by decide))
  unfold okC
  rw [q]
  unfold s_X11_receives_25
  split
  · rw [r22 S (by decide)]; exact h
  · exact ms_C _ _
theorem rv_keep {S : St} {k : Nat} (h : k = 7 ∨ k = 11 ∨ k = 15) : (s_X11_receives S).1 k = S.1 k := by
  have q : (s_X11_receives S).1 k = (s_X11_receives_25 S).1 k := (al_lo _ (by omega)).trans (r29 S (by omega))
  rw [q, r25 S (by omega), r22 S (by omega)]
theorem pass_0 (q b p : Int32) : ((if q ≤ b then (0 : Int32) else if p < q then 0 else 1) = 0) ↔ (q ≤ b ∨ p < q) := by
  by_cases h : q ≤ b
  · rw [if_pos h]; exact ⟨fun _ => Or.inl h, fun _ => rfl⟩
  · rw [if_neg h]
    by_cases h2 : p < q
    · rw [if_pos h2]; exact ⟨fun _ => Or.inr h2, fun _ => rfl⟩
    · rw [if_neg h2]; exact ⟨fun z => absurd z (by decide), fun z => z.elim (fun z => absurd z h) (fun z => absurd z h2)⟩
theorem strobe_eq {n : Nat} {P : St} {X : Nat → Int32} {b : Int32} (hb2 : b.toInt ≤ 65535) (hlo : b.toInt + 3072 ≤ (P.1 11).toInt) (hhi : (P.1 11).toInt ≤ b.toInt + 5120) (hb1 : 0 ≤ b.toInt)
    (hn : n < 2000000) (hm : okM n P) (hr1 : rc P + 1 ≤ n) (hb : okB P) (hd : okD P) (hc : okC P) (hs : InvS P X) (hg : InvG P X) :
    ∃ X' : Nat → Int32, s_X10_actOnStrobe (if P.1 11 < 65536 then mix P X else mix (si P 11 (P.1 11 - 65536)) X) (if P.1 11 < 65536 then (if (if (49152 : Int32) ≤ b then (0 : Int32) else if P.1 11 < 49152 then 0 else 1) = 0 then (if (if (32768 : Int32) ≤ b then (0 : Int32) else if P.1 11 < 32768 then 0 else 1) = 0 then (if (if (16384 : Int32) ≤ b then (0 : Int32) else if P.1 11 < 16384 then 0 else 1) = 0 then 0 else 1) else 2) else 3) else 4) = mix (s_X11_strobes P b) X'
      ∧ InvS (s_X11_strobes P b) X' ∧ InvG (s_X11_strobes P b) X' ∧ okP (s_X11_strobes P b) ∧ okC (s_X11_strobes P b) ∧ okB (s_X11_strobes P b) ∧ okD (s_X11_strobes P b) ∧ (s_X11_strobes P b).2.1 = P.2.1 ∧ (s_X11_strobes P b).2.2.1 = P.2.2.1 ∧ (s_X11_strobes P b).1 9 = P.1 9 := by
  have a16 : ((16384 : Int32) ≤ b) ↔ 16384 ≤ b.toInt := Int32.le_iff_toInt_le
  have a32 : ((32768 : Int32) ≤ b) ↔ 32768 ≤ b.toInt := Int32.le_iff_toInt_le
  have a49 : ((49152 : Int32) ≤ b) ↔ 49152 ≤ b.toInt := Int32.le_iff_toInt_le
  have l16 : (P.1 11 < (16384 : Int32)) ↔ (P.1 11).toInt < 16384 := Int32.lt_iff_toInt_lt
  have l32 : (P.1 11 < (32768 : Int32)) ↔ (P.1 11).toInt < 32768 := Int32.lt_iff_toInt_lt
  have l49 : (P.1 11 < (49152 : Int32)) ↔ (P.1 11).toInt < 49152 := Int32.lt_iff_toInt_lt
  have l65 : (P.1 11 < (65536 : Int32)) ↔ (P.1 11).toInt < 65536 := Int32.lt_iff_toInt_lt
  have d5 : s_X11_strobes_5 P b = if (16384 : Int32) ≤ b then P else if P.1 11 < 16384 then P else if P.1 15 = 4 then s_X11_strobes_4 P b else P := rfl
  have d9 : s_X11_strobes_9 P b = if (32768 : Int32) ≤ b then s_X11_strobes_5 P b else if (s_X11_strobes_5 P b).1 11 < 32768 then s_X11_strobes_5 P b else s_X11_strobes_8 P b := rfl
  have d13 : s_X11_strobes_13 P b = if (49152 : Int32) ≤ b then s_X11_strobes_9 P b else if (s_X11_strobes_9 P b).1 11 < 49152 then s_X11_strobes_9 P b else s_X11_strobes_12 P b := rfl
  have d17 : s_X11_strobes P b = if (s_X11_strobes_13 P b).1 11 < 65536 then s_X11_strobes_13 P b else s_X11_strobes_16 P b := rfl
  have hp0 : 0 ≤ P.1 11 := Int32.le_iff_toInt_le.mpr (by show (0 : Int) ≤ _; omega)
  have hok : (P.1 11).toInt < 65536 → okP P := fun q => ⟨hp0, Int32.le_iff_toInt_le.mpr (by show _ ≤ (65535 : Int); omega)⟩
  have act : ∀ (S : St) (r : Int32), s_X10_actOnStrobe S r = if r = 1 then if S.1 15 = 4 then s_X10_actOnStrobe_3 S r else S else if r = 2 then s_X10_actOnStrobe_5 S r else if r = 3 then s_X10_actOnStrobe_7 S r else if r = 4 then s_X10_actOnDataStrobe S else S := fun S r => rfl
  by_cases cD : 65536 ≤ (P.1 11).toInt
  · -- a data strobe
    have nD : ¬ P.1 11 < 65536 := fun q => absurd (l65.mp q) (by omega)
    rw [if_neg nD, if_neg nD, act, if_neg (by decide), if_neg (by decide), if_neg (by decide), if_pos rfl]
    have e5 : s_X11_strobes_5 P b = P := by rw [d5, if_pos (a16.mpr (by omega))]
    have e9 : s_X11_strobes_9 P b = P := by rw [d9, if_pos (a32.mpr (by omega)), e5]
    have e13 : s_X11_strobes_13 P b = P := by rw [d13, if_pos (a49.mpr (by omega)), e9]
    have e17 : s_X11_strobes P b = s_X11_receives (si P 11 (P.1 11 - 65536)) := by
      rw [d17, e13, if_neg nD]
      show s_X11_receives (si (s_X11_strobes_13 P b) 11 ((s_X11_strobes_13 P b).1 11 - 65536)) = _
      rw [e13]
    rw [e17]
    have k : ∀ j, j ≠ 11 → (si P 11 (P.1 11 - 65536)).1 j = P.1 j := fun j hj => si_ne hj
    have r1 : rc (si P 11 (P.1 11 - 65536)) = rc P := rc_of (k 24 (by decide))
    obtain ⟨X', h1, h2, h3⟩ := data_eq (n := n) (M := si P 11 (P.1 11 - 65536)) (X := X) hn (okM_of hm (k 3 (by decide)) (k 9 (by decide)) (k 24 (by decide))) (by omega) (by unfold okB at *; rw [k 7 (by decide)]; exact hb) (by unfold okD at *; rw [k 15 (by decide)]; exact hd) (InvS_of hs (k 24 (by decide)) (k 29 (by decide)) rfl) (InvG_of hg (k 24 (by decide)) (k 31 (by decide)) (k 32 (by decide)) (k 33 (by decide)) (k 34 (by decide)))
    have t11 : (P.1 11 - 65536).toInt = (P.1 11).toInt - 65536 := by
      rw [Int32.toInt_sub]
      exact Int.bmod_eq_of_le (by show _ ≤ (P.1 11).toInt - 65536; omega) (by show (P.1 11).toInt - 65536 < _; omega)
    have g2 : (s_X11_receives (si P 11 (P.1 11 - 65536))).2.1 = P.2.1 ∧ (s_X11_receives (si P 11 (P.1 11 - 65536))).2.2.1 = P.2.2.1 := by
      have q : (s_X11_receives (si P 11 (P.1 11 - 65536))).2 = (s_X11_receives_16 (si P 11 (P.1 11 - 65536))).2 := (al2 _).trans (r29_2 _)
      rw [q]
      exact ⟨rfl, rfl⟩
    refine ⟨X', h1, h2, h3, ?_, rv_C ?_, ?_, ?_, g2.1, g2.2, ?_⟩
    · unfold okP
      rw [rv_keep (by decide), si_at]
      exact ⟨Int32.le_iff_toInt_le.mpr (by rw [t11]; show (0 : Int) ≤ _; omega), Int32.le_iff_toInt_le.mpr (by rw [t11]; show _ ≤ (65535 : Int); omega)⟩
    · unfold okC at *; rw [k 12 (by decide)]; exact hc
    · unfold okB at *; rw [rv_keep (by decide), k 7 (by decide)]; exact hb
    · unfold okD at *; rw [rv_keep (by decide), k 15 (by decide)]; exact hd
    · rw [(rv_k (k := 9) (by decide)).1, k 9 (by decide)]
  · have nD : P.1 11 < 65536 := l65.mpr (by omega)
    rw [if_pos nD, if_pos nD]
    by_cases cE : b.toInt < 49152 ∧ 49152 ≤ (P.1 11).toInt
    · -- an early strobe
      have n49 : ¬ (49152 : Int32) ≤ b := fun q => absurd (a49.mp q) (by omega)
      have p49 : ¬ P.1 11 < 49152 := fun q => absurd (l49.mp q) (by omega)
      rw [if_neg n49, if_neg p49, if_neg (by decide), act, if_neg (by decide), if_neg (by decide), if_pos rfl]
      have e5 : s_X11_strobes_5 P b = P := by rw [d5, if_pos (a16.mpr (by omega))]
      have e9 : s_X11_strobes_9 P b = P := by rw [d9, if_pos (a32.mpr (by omega)), e5]
      have e13 : s_X11_strobes_13 P b = si P 20 (r_X11_size P (r_X11_levelNow P)) := by
        rw [d13, if_neg n49, e9, if_neg p49]
        show si (s_X11_strobes_9 P b) 20 (r_X11_size (s_X11_strobes_9 P b) (r_X11_levelNow (s_X11_strobes_9 P b))) = _
        rw [e9]
      have e17 : s_X11_strobes P b = si P 20 (r_X11_size P (r_X11_levelNow P)) := by
        rw [d17, e13, si_ne (by decide), if_pos nD]
      rw [e17]
      have k : ∀ j, j ≠ 20 → (si P 20 (r_X11_size P (r_X11_levelNow P))).1 j = P.1 j := fun j hj => si_ne hj
      refine ⟨X, ?_, InvS_of hs (k 24 (by decide)) (k 29 (by decide)) rfl, InvG_of hg (k 24 (by decide)) (k 31 (by decide)) (k 32 (by decide)) (k 33 (by decide)) (k 34 (by decide)), ?_, ?_, ?_, ?_, rfl, rfl, k 9 (by decide)⟩
      · show si (mix P X) 20 (if 0 ≤ r_X3_findLevel (mix P X) then r_X3_findLevel (mix P X) else 0 - r_X3_findLevel (mix P X)) = _
        rw [abs_eq P, level_eq (T := P) (mix_rd rfl), mix_si rfl]
      · unfold okP; rw [k 11 (by decide)]; exact hok (by omega)
      · unfold okC at *; rw [k 12 (by decide)]; exact hc
      · unfold okB at *; rw [k 7 (by decide)]; exact hb
      · unfold okD at *; rw [k 15 (by decide)]; exact hd
    · have z49 : (if (49152 : Int32) ≤ b then (0 : Int32) else if P.1 11 < 49152 then 0 else 1) = 0 := (pass_0 _ _ _).mpr (by
        by_cases q : 49152 ≤ b.toInt
        · exact Or.inl (a49.mpr q)
        · exact Or.inr (l49.mpr (by omega)))
      rw [if_pos z49]
      by_cases cM : b.toInt < 32768 ∧ 32768 ≤ (P.1 11).toInt
      · -- a middle strobe
        have n32 : ¬ (32768 : Int32) ≤ b := fun q => absurd (a32.mp q) (by omega)
        have p32 : ¬ P.1 11 < 32768 := fun q => absurd (l32.mp q) (by omega)
        rw [if_neg n32, if_neg p32, if_neg (by decide), act, if_neg (by decide), if_pos rfl]
        have e5 : s_X11_strobes_5 P b = P := by rw [d5, if_pos (a16.mpr (by omega))]
        have e9 : s_X11_strobes_9 P b = si (si P 21 (P.1 7)) 22 (r_X11_levelNow P) := by
          rw [d9, if_neg n32, e5, if_neg p32]
          show si (si (s_X11_strobes_5 P b) 21 ((s_X11_strobes_5 P b).1 7)) 22 (r_X11_levelNow (si (s_X11_strobes_5 P b) 21 ((s_X11_strobes_5 P b).1 7))) = _
          rw [e5, lvl_cong (S := si P 21 (P.1 7)) (T := P) (si_ne (by decide))]
        have f11 : (si (si P 21 (P.1 7)) 22 (r_X11_levelNow P)).1 11 = P.1 11 := (si_ne (by decide)).trans (si_ne (by decide))
        have e13 : s_X11_strobes_13 P b = si (si P 21 (P.1 7)) 22 (r_X11_levelNow P) := by
          rw [d13, e9, f11]
          by_cases q : (49152 : Int32) ≤ b
          · rw [if_pos q]
          · rw [if_neg q, if_pos (l49.mpr (by have : ¬ (49152 ≤ b.toInt) := fun z => q (a49.mpr z); omega))]
        have e17 : s_X11_strobes P b = si (si P 21 (P.1 7)) 22 (r_X11_levelNow P) := by
          rw [d17, e13, f11, if_pos nD]
        rw [e17]
        have k : ∀ j, j ≠ 21 ∧ j ≠ 22 → (si (si P 21 (P.1 7)) 22 (r_X11_levelNow P)).1 j = P.1 j := fun j hj => (si_ne hj.2).trans (si_ne hj.1)
        refine ⟨X, ?_, InvS_of hs (k 24 (by decide)) (k 29 (by decide)) rfl, InvG_of hg (k 24 (by decide)) (k 31 (by decide)) (k 32 (by decide)) (k 33 (by decide)) (k 34 (by decide)), ?_, ?_, ?_, ?_, rfl, rfl, k 9 (by decide)⟩
        · show si (si (mix P X) 21 ((mix P X).1 7)) 22 (r_X3_findLevel (mix P X)) = _
          rw [level_eq (T := P) (mix_rd rfl), mix_rd (k := 7) rfl, mix_si rfl, mix_si rfl]
        · unfold okP; rw [k 11 (by decide)]; exact hok (by omega)
        · unfold okC at *; rw [k 12 (by decide)]; exact hc
        · unfold okB at *; rw [k 7 (by decide)]; exact hb
        · unfold okD at *; rw [k 15 (by decide)]; exact hd
      · have z32 : (if (32768 : Int32) ≤ b then (0 : Int32) else if P.1 11 < 32768 then 0 else 1) = 0 := (pass_0 _ _ _).mpr (by
          by_cases q : 32768 ≤ b.toInt
          · exact Or.inl (a32.mpr q)
          · exact Or.inr (l32.mpr (by omega)))
        rw [if_pos z32]
        -- no middle, no early, no data strobe
        have tail : ∀ S : St, s_X11_strobes_5 P b = S → S.1 11 = P.1 11 → s_X11_strobes P b = S := fun S h5 h11 => by
          have e9 : s_X11_strobes_9 P b = S := by
            rw [d9, h5, h11]
            by_cases q : (32768 : Int32) ≤ b
            · rw [if_pos q]
            · rw [if_neg q, if_pos (l32.mpr (by have : ¬ (32768 ≤ b.toInt) := fun z => q (a32.mpr z); omega))]
          have e13 : s_X11_strobes_13 P b = S := by
            rw [d13, e9, h11]
            by_cases q : (49152 : Int32) ≤ b
            · rw [if_pos q]
            · rw [if_neg q, if_pos (l49.mpr (by have : ¬ (49152 ≤ b.toInt) := fun z => q (a49.mpr z); omega))]
          rw [d17, e13, h11, if_pos nD]
        by_cases cL : b.toInt < 16384 ∧ 16384 ≤ (P.1 11).toInt
        · -- a late strobe
          have n16 : ¬ (16384 : Int32) ≤ b := fun q => absurd (a16.mp q) (by omega)
          have p16 : ¬ P.1 11 < 16384 := fun q => absurd (l16.mp q) (by omega)
          rw [if_neg n16, if_neg p16, if_neg (by decide), act, if_pos rfl, mix_rd (k := 15) rfl]
          by_cases c4 : P.1 15 = 4
          · rw [if_pos c4]
            have e5 : s_X11_strobes_5 P b = s_X11_measures P (P.1 20 - r_X11_size P (r_X11_levelNow P)) := by
              rw [d5, if_neg n16, if_neg p16, if_pos c4]
              rfl
            rw [tail _ e5 (ms_ne (by decide))]
            refine ⟨X, ?_, InvS_of hs (ms_ne (by decide)) (ms_ne (by decide)) rfl, InvG_of hg (ms_ne (by decide)) (ms_ne (by decide)) (ms_ne (by decide)) (ms_ne (by decide)) (ms_ne (by decide)), ?_, ms_C _ _, ?_, ?_, rfl, rfl, ms_ne (by decide)⟩
            · show s_X4_takeError (mix P X) ((mix P X).1 20 - (if 0 ≤ r_X3_findLevel (mix P X) then r_X3_findLevel (mix P X) else 0 - r_X3_findLevel (mix P X))) = _
              rw [abs_eq P, level_eq (T := P) (mix_rd rfl), mix_rd (k := 20) rfl, te_eq]
            · unfold okP; rw [ms_ne (by decide)]; exact hok (by omega)
            · unfold okB at *; rw [ms_ne (by decide)]; exact hb
            · unfold okD at *; rw [ms_ne (by decide)]; exact hd
          · rw [if_neg c4]
            have e5 : s_X11_strobes_5 P b = P := by rw [d5, if_neg n16, if_neg p16, if_neg c4]
            rw [tail _ e5 rfl]
            exact ⟨X, rfl, hs, hg, hok (by omega), hc, hb, hd, rfl, rfl, rfl⟩
        · have z16 : (if (16384 : Int32) ≤ b then (0 : Int32) else if P.1 11 < 16384 then 0 else 1) = 0 := (pass_0 _ _ _).mpr (by
            by_cases q : 16384 ≤ b.toInt
            · exact Or.inl (a16.mpr q)
            · exact Or.inr (l16.mpr (by omega)))
          rw [if_pos z16, act, if_neg (by decide), if_neg (by decide), if_neg (by decide), if_neg (by decide)]
          have e5 : s_X11_strobes_5 P b = P := by
            rw [d5]
            by_cases q : (16384 : Int32) ≤ b
            · rw [if_pos q]
            · rw [if_neg q, if_pos (l16.mpr (by have : ¬ (16384 ≤ b.toInt) := fun z => q (a16.mpr z); omega))]
          rw [tail _ e5 rfl]
          exact ⟨X, rfl, hs, hg, hok (by omega), hc, hb, hd, rfl, rfl, rfl⟩
