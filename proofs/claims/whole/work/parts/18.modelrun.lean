def v_X11_run_1 (S : St) (p0 : Int32) : Int32 := r_X11_in S p0 1 800
def v_X11_run_2 (S : St) (p0 : Int32) : Int32 := if (v_X11_run_1 S p0) = 0 then 1 else 0
def s_X11_run_3 (S : St) (p0 : Int32) : St := s_X11_holds S (v_X11_run_2 S p0)
def v_X11_run_4 (S : St) (p0 : Int32) : Int32 := r_X11_holds S (v_X11_run_2 S p0)
def itM (S : St) : Nat → St
  | 0 => S
  | i + 1 => s_X11_passes (itM S i)
def v_X11_run_5 (S : St) (p0 : Int32) : Int32 := ((itM (s_X11_run_3 S p0) p0.toNatClampNeg).1 24) - ((s_X11_run_3 S p0).1 24)
def s_X11_run_7 (S : St) (p0 : Int32) (i : Nat) : St := s_X11_passes (itM (s_X11_run_3 S p0) i)
def v_X11_run_8 (S : St) (p0 : Int32) (i : Nat) : Int32 := (nI i) + 1
def s_X11_run (S : St) (p0 : Int32) : St := if (v_X11_run_4 S p0) = 0 then (s_X11_run_3 S p0) else (itM (s_X11_run_3 S p0) p0.toNatClampNeg)
def r_X11_run (S : St) (p0 : Int32) : Int32 := if (v_X11_run_4 S p0) = 0 then 0 else (v_X11_run_5 S p0)
theorem al_k {S : St} {k : Nat} (h : k = 3 ∨ k = 9 ∨ k = 24) : (s_X11_aligns S).1 k = S.1 k := by
  have e4 : (s_X11_aligns_4 S).1 k = S.1 k := si_ne (by omega)
  have e8 : (s_X11_aligns_8 S).1 k = S.1 k := (si_ne (by omega)).trans e4
  have e11 : (s_X11_aligns_11 S).1 k = S.1 k := (si_ne (by omega)).trans e8
  have e14 : (s_X11_aligns_14 S).1 k = S.1 k := (si_ne (by omega)).trans e11
  have e16 : (s_X11_aligns_16 S).1 k = S.1 k := (si_ne (by omega)).trans e14
  have e18 : (s_X11_aligns_18 S).1 k = S.1 k := (si_ne (by omega)).trans e4
  have e19 : (s_X11_aligns_19 S).1 k = S.1 k := (si_ne (by omega)).trans e18
  have e21 : (s_X11_aligns_21 S).1 k = S.1 k := (si_ne (by omega)).trans e19
  have e23 : (s_X11_aligns_23 S).1 k = S.1 k := (si_ne (by omega)).trans e4
  have e24 : (s_X11_aligns_24 S).1 k = S.1 k := (si_ne (by omega)).trans e23
  have e25 : (s_X11_aligns_25 S).1 k = S.1 k := (si_ne (by omega)).trans e24
  unfold s_X11_aligns s_X11_aligns_26
  split
  · exact e25
  · split
    · split
      · exact e21
      · exact e16
    · exact e4
theorem ms_k {S : St} {p0 : Int32} {k : Nat} (h : k = 3 ∨ k = 9 ∨ k = 24) : (s_X11_measures S p0).1 k = S.1 k := by
  have e1 : (s_X11_measures_1 S p0).1 k = S.1 k := si_ne (by omega)
  have e5 : (s_X11_measures_5 S p0).1 k = S.1 k := (si_ne (by omega)).trans e1
  exact (si_ne (by omega)).trans e5
theorem rv_k {S : St} {k : Nat} (h : k = 3 ∨ k = 9) : (s_X11_receives S).1 k = S.1 k ∧ (s_X11_receives S).1 24 = S.1 24 + 1 := by
  have h' : k = 3 ∨ k = 9 ∨ k = 24 := by omega
  have a5 : ∀ j, (j = 3 ∨ j = 9 ∨ j = 24) → (s_X11_receives_5 S).1 j = S.1 j := fun j hj => si_ne (by omega)
  have a9 : ∀ j, (j = 3 ∨ j = 9 ∨ j = 24) → (s_X11_receives_9 S).1 j = S.1 j := fun j hj => (si_ne (by omega)).trans (a5 j hj)
  have a13 : ∀ j, (j = 3 ∨ j = 9 ∨ j = 24) → (s_X11_receives_13 S).1 j = S.1 j := fun j hj => (si_ne (by omega)).trans (a9 j hj)
  have a16 : ∀ j, (j = 3 ∨ j = 9 ∨ j = 24) → (s_X11_receives_16 S).1 j = S.1 j := fun j hj => a13 j hj
  have a17 : ∀ j, (j = 3 ∨ j = 9 ∨ j = 24) → (s_X11_receives_17 S).1 j = S.1 j := fun j hj => (si_ne (by omega)).trans (a16 j hj)
  have a20 : ∀ j, (j = 3 ∨ j = 9 ∨ j = 24) → (s_X11_receives_20 S).1 j = S.1 j := fun j hj => (si_ne (by omega)).trans (a17 j hj)
  have a22 : (s_X11_receives_22 S).1 k = S.1 k := (si_ne (by omega)).trans (a20 k h')
  have b22 : (s_X11_receives_22 S).1 24 = S.1 24 + 1 := (si_at _ _ _).trans (congrArg (· + 1) (a20 24 (by omega)))
  have a25 : ∀ j, (j = 3 ∨ j = 9 ∨ j = 24) → (s_X11_receives_25 S).1 j = (s_X11_receives_22 S).1 j := fun j hj => by
    unfold s_X11_receives_25
    split
    · rfl
    · exact ms_k hj
  have a29 : ∀ j, (j = 3 ∨ j = 9 ∨ j = 24) → (s_X11_receives_29 S).1 j = (s_X11_receives_25 S).1 j := fun j hj => (si_ne (by omega)).trans ((si_ne (by omega)).trans (si_ne (by omega)))
  have a30 : ∀ j, (j = 3 ∨ j = 9 ∨ j = 24) → (s_X11_receives S).1 j = (s_X11_receives_22 S).1 j := fun j hj => (al_k hj).trans ((a29 j hj).trans (a25 j hj))
  exact ⟨(a30 k h').trans a22, (a30 24 (by omega)).trans b22⟩
theorem okM_strob {n : Nat} {S : St} {p0 : Int32} (hn : n < 2000000) (h : okM n S) (hr : rc S + 1 ≤ n) : okM n (s_X11_strobes S p0) := by
  have h15 := okM_strobes (p0 := p0) h
  have q : ∀ k, (k = 3 ∨ k = 9 ∨ k = 24) → (s_X11_strobes_13 S p0).1 k = S.1 k := fun k hk => (st13 hk).trans ((st9 hk).trans (st5 hk))
  have q15 : (s_X11_strobes_15 S p0).1 24 = S.1 24 := (si_ne (by decide)).trans (q 24 (by decide))
  have hr15 : rc (s_X11_strobes_15 S p0) = rc S := by unfold rc; rw [q15]
  unfold s_X11_strobes s_X11_strobes_17
  split
  · exact okM_of h (q 3 (by decide)) (q 9 (by decide)) (q 24 (by decide))
  · exact okM_rc hn h15 (by omega) (rv_k (k := 3) (by decide)).1 (rv_k (k := 9) (by decide)).1 (rv_k (k := 3) (by decide)).2
theorem okM_pass {n : Nat} {S : St} (hn : n < 1000000) (h : okM n S) : okM (n + 1) (s_X11_passes S) := by
  have h18 := okM_passes hn h
  have e : (s_X11_passes_18 S).1 24 = S.1 24 := (si_ne (by decide)).trans ((ps15 (by decide)).trans ((ps7 (by decide)).trans (ps1 (by decide))))
  have hr : rc (s_X11_passes_18 S) = rc S := by unfold rc; rw [e]
  have := h.2.2.2
  exact okM_strob (by omega) h18 (by omega)
theorem okM_it {n : Nat} {S : St} (hn : n + 800 < 1000000) (h : okM n S) : ∀ i, i ≤ 800 → okM (n + i) (itM S i)
  | 0, _ => h
  | i + 1, hi => okM_pass (n := n + i) (by omega) (okM_it hn h i (by omega))
theorem run_g {p0 : Int32} (c : ¬ p0 < 1) (c2 : ¬ 800 < p0) : p0 = nI p0.toNatClampNeg ∧ p0.toNatClampNeg ≤ 800 := by
  have h0 : ¬ p0 < 0 := fun q => c (Int32.lt_trans q (by decide))
  obtain ⟨j, hj, rfl⟩ := nI_of h0
  rw [nI_clamp hj]
  exact ⟨rfl, Nat.le_of_not_lt fun q => c2 ((nI_ltI (a := 800) (b := j) (by omega) hj).mpr q)⟩
theorem run_gM {S : St} {p0 : Int32} (c : ¬ v_X11_run_4 S p0 = 0) : p0 = nI p0.toNatClampNeg ∧ p0.toNatClampNeg ≤ 800 := by
  apply run_g
  · intro q
    apply c
    show r_X11_holds S (if (if p0 < 1 then (0 : Int32) else if 800 < p0 then 0 else 1) = 0 then 1 else 0) = 0
    rw [if_pos q, if_pos rfl]
    exact hl1 S
  · intro q
    apply c
    show r_X11_holds S (if (if p0 < 1 then (0 : Int32) else if 800 < p0 then 0 else 1) = 0 then 1 else 0) = 0
    rw [if_pos q]
    by_cases h : p0 < 1
    · rw [if_pos h, if_pos rfl]; exact hl1 S
    · rw [if_neg h, if_pos rfl]; exact hl1 S
theorem lp_geP {p0 : Int32} {i : Nat} (hg : p0 = nI p0.toNatClampNeg ∧ p0.toNatClampNeg ≤ 800) (hi : i ≤ p0.toNatClampNeg) (c : p0 ≤ nI i) : i = p0.toNatClampNeg := lp_ge (by omega) hi (by rw [← hg.1]; exact c)
theorem lp_ltP {p0 : Int32} {i : Nat} (hg : p0 = nI p0.toNatClampNeg ∧ p0.toNatClampNeg ≤ 800) (hi : i ≤ p0.toNatClampNeg) (c : ¬ p0 ≤ nI i) : i < p0.toNatClampNeg := lp_lt (by omega) hi (by rw [← hg.1]; exact c)
def rm_X11_run : Room := { frames := 5, cells := 0, slots := 0, locals := 107 }
set_option maxRecDepth 100000 in
set_option maxHeartbeats 4000000 in
theorem k_X11_run (l : Launch) (D : va_G) (a : Nat → Nat) (cZ cI : ClassId) (S : St) (sz : Nat) (p0 : Int32) (n : Nat) (hn : n + 800 < 1000000) (hm : okM n S) : Met l yX11_run wsX11_run rm_X11_run (va_Pc [.ref (a 0), .int p0] (pW D (tyZI cZ cI) (wM a cZ cI S) sz nT)) (va_Qi (fun (r : Int32) (u : St) => u = s_X11_run S p0 ∧ r = r_X11_run S p0) (fun u t => oW D (tyZI cZ cI) (wM a cZ cI u) (aA (adM a) sz) t) (aA (adM a) sz)) 0 0 (aA (adM a) sz) := by
  refine Met.ofW (cc := cX11_run) (maxL := 4) (ret := (some .int)) (by decide +kernel) rfl ?_
  intro p e s m args below meth c s₁ B hml hv
  obtain ⟨rfl, hsz, hP0, hK, hD9, hN⟩ := hv
  have hx := B.exec
  have hb := B.bytes
  have hr := B.returns
  have hts := atoms_spec (ws := wsX11_run) B.pre
  have hown : s.vm.findClass RX11 = some m.cls := findClass_of_methodNamed B.named
  have hlocks := B.notSynchronized
  subst hsz
  have hD0 := aA_self (sz := s.heap.size) (as := adM a) hD9 rfl
  generalize hAe : aA (adM a) s.heap.size = A at hD0 ⊢
  have hA : ∀ q : Nat, s.heap.size ≤ q → A q := fun q h => by rw [← hAe]; exact Or.inr h
  have hAc : ∀ q : Nat, q ∈ adM a → A q := fun q h => by rw [← hAe]; exact Or.inl h
  have hS0 : va_S A s.heap s.heap [] := va_S.rf
  have hl0 := lv_entry ([.ref (a 0), .int p0]) (n := 4) (Nat.le_of_ble_eq_true rfl)
  rw [lg_entry_eq]
  generalize (lg_sl ([.ref (a 0), .int p0]) ++ List.replicate (4 - (lg_sl ([.ref (a 0), .int p0])).length) Slot.unset).toArray = ls0 at hl0 ⊢
  have hl0 : lv_has ls0 4 [(0, .ref (a 0)), (1, .int p0)] := hl0
  generalize hQ : MQ below _ _ s _ _ _ = Q
  clear hD9 B
  refine lv_aload_n hx hb dX11_run_0 rfl (lv_at hl0 0 rfl) ?_
  refine lv_iload_n hx hb dX11_run_1 rfl (lv_at hl0 1 rfl) ?_
  refine lv_iconst (v := 1) hx hb dX11_run_2 (by decide) ?_
  refine lv_sipush (v := 800) hx hb dX11_run_3 (by decide) ?_
  refine va_calli (va_runS (As := [.int p0, .int 1, .int 800]) (rest := [.ref (a 0)]) ⟨hx, hb, hml, hown, hts⟩ (k_X11_in l D a cZ cI S s.heap.size p0 1 800) (va_cwS 3 hts gX11_run_X11_in rfl rfl rfl (by decide +kernel) ⟨Nat.le_of_ble_eq_true rfl, Nat.le_of_ble_eq_true rfl⟩) ⟨blW okN_T, preW hP0 hK hD0 okN_T hN⟩ rfl rfl hl0.1 rfl (lv_room (Nat.le_of_ble_eq_true rfl)) dX11_run_6 ⟨Nat.zero_le _, Nat.zero_le _⟩) hS0 (aA_in hAc) (aA_free hAc hA hS0) (fun r1 u1 t1 H1 L1 ht1 hvm1 hw1 hB1 _ _ hS1 => ?_)
  obtain ⟨hP1, hD1⟩ := backW hB1 ht1 (aA_free hAc hA hS0)
  clear hB1 ht1 hvm1 t1
  obtain ⟨hu1, hr1⟩ := hw1
  subst u1; subst r1
  clear hP0 hD0 hS0
  refine lv_asi (y := (v_X11_run_1 S p0)) rfl ?_
  have J1_9 : W p l e (headSpec wsX11_run rm_X11_run).room s m ([.ref (a 0), .int p0] : List Value).toArray below meth c H1 L1 0 0 Q (F0 m 17 ls0 [.int (v_X11_run_2 S p0), .ref (a 0)]) := by
    refine va_calli (va_runV (As := [.int (v_X11_run_2 S p0)]) (rest := []) ⟨hx, hb, hml, hown, hts⟩ (k_X11_holds l D a cZ cI S H1.size (v_X11_run_2 S p0)) (cwV 1 hts gX11_run_X11_holds rfl rfl rfl (by decide +kernel) ⟨Nat.le_of_ble_eq_true rfl, Nat.le_of_ble_eq_true rfl⟩) ⟨blW okN_T, va_recv hK hP1 (ci := 11) (q0 := 0) rfl rfl, preW hP1 hK hD1 okN_T hN⟩ rfl rfl hl0.1 rfl (lv_room (Nat.le_of_ble_eq_true rfl)) dX11_run_17 ⟨Nat.zero_le _, Nat.zero_le _⟩) hS1 (aA_in hAc) (aA_free hAc hA hS1) (fun r2 u2 t2 H2 L2 ht2 hvm2 hw2 hB2 _ _ hS2 => ?_)
    obtain ⟨hP2, hD2⟩ := backW hB2 ht2 (aA_free hAc hA hS1)
    clear hB2 ht2 hvm2 t2
    obtain ⟨hu2, hr2⟩ := hw2
    subst u2; subst r2
    replace hP2 : va_P D vwCl (wM a cZ cI (s_X11_run_3 S p0)) H2 := hP2
    replace hD2 : va_D A (wM a cZ cI (s_X11_run_3 S p0)) := hD2
    clear hP1 hD1 hS1
    refine lv_asi (y := (v_X11_run_4 S p0)) rfl ?_
    refine lv_if_ne (tgt := 25) hx hb dX11_run_20 (by decide) (fun c2_20 => ?_) (fun c2_20 => ?_)
    · refine lv_aload_n hx hb dX11_run_25 rfl (lv_at hl0 0 rfl) ?_
      refine va_get (D := D) (ci := 11) (v := .int ((s_X11_run_3 S p0).1 24)) (C := RX11) (T := TX11) (N := 37) hx hb hts (fun _ h => List.mem_cons_of_mem _ (List.mem_append_right _ (h))) hown hK hP2 0 rfl rfl 24 (by decide) (hts (.fieldLink RX11 99 "PhaselockModel" "received" "I") (List.mem_cons_of_mem _ (List.mem_append_left _ (List.mem_append_left _ (List.mem_of_getElem? (i := 0) rfl))))) (fun _ h9 => h9) rfl dX11_run_26 ?_
      refine lv_istore_n (lv' := [(2, .int ((s_X11_run_3 S p0).1 24)), (0, .ref (a 0)), (1, .int p0)]) hx hb dX11_run_29 rfl hl0 (by decide) rfl (fun ls1 hl1 => ?_)
      clear hl0
      refine lv_iconst (v := 0) hx hb dX11_run_30 (by decide) ?_
      refine lv_istore_n (lv' := [(3, .int 0), (2, .int ((s_X11_run_3 S p0).1 24)), (0, .ref (a 0)), (1, .int p0)]) hx hb dX11_run_31 rfl hl1 (by decide) rfl (fun ls2 hl2 => ?_)
      clear hl1
      have LOOP : ∀ (fu i : Nat), i ≤ p0.toNatClampNeg → p0.toNatClampNeg < i + fu → ∀ (H3 : Heap) (L3 : List Loc), va_P D vwCl (wM a cZ cI (itM (s_X11_run_3 S p0) i)) H3 → va_D A (wM a cZ cI (itM (s_X11_run_3 S p0) i)) → va_S A s.heap H3 L3 → ∀ ls3 : Array Slot, lv_has ls3 4 [(3, .int (nI i)), (2, .int ((s_X11_run_3 S p0).1 24)), (0, .ref (a 0)), (1, .int p0)] → W p l e (headSpec wsX11_run rm_X11_run).room s m ([.ref (a 0), .int p0] : List Value).toArray below meth c H3 L3 0 0 Q (F0 m 32 ls3 []) := by
        clear hP2 hD2 hS2 hl2
        intro fu
        induction fu with
        | zero => exact fun i h1 h2 => absurd h2 (by omega)
        | succ fu ih =>
          intro i hi hin H3 L3 hP3 hD3 hS3 ls3 hl3
          have hg := run_gM c2_20
          refine lv_iload_n hx hb dX11_run_32 rfl (lv_at hl3 0 rfl) ?_
          refine lv_iload_n hx hb dX11_run_33 rfl (lv_at hl3 3 rfl) ?_
          refine lv_icmp_ge (tgt := 47) hx hb dX11_run_34 (by decide) (fun c3_34 => ?_) (fun c3_34 => ?_)
          · have hie : i = p0.toNatClampNeg := lp_geP hg hi c3_34
            subst hie
            refine lv_aload_n hx hb dX11_run_47 rfl (lv_at hl3 2 rfl) ?_
            refine va_get (D := D) (ci := 11) (v := .int ((itM (s_X11_run_3 S p0) p0.toNatClampNeg).1 24)) (C := RX11) (T := TX11) (N := 37) hx hb hts (fun _ h => List.mem_cons_of_mem _ (List.mem_append_right _ (h))) hown hK hP3 0 rfl rfl 24 (by decide) (hts (.fieldLink RX11 99 "PhaselockModel" "received" "I") (List.mem_cons_of_mem _ (List.mem_append_left _ (List.mem_append_left _ (List.mem_of_getElem? (i := 0) rfl))))) (fun _ h9 => h9) rfl dX11_run_48 ?_
            refine lv_iload_n hx hb dX11_run_51 rfl (lv_at hl3 1 rfl) ?_
            refine lv_isub hx hb dX11_run_52 ?_
            refine lv_asi (y := (v_X11_run_5 S p0)) rfl ?_
            subst hQ; exact W.iret (v := (v_X11_run_5 S p0)) hx hb hr (fun t ht hW => ⟨⟨(v_X11_run_5 S p0), (itM (s_X11_run_3 S p0) p0.toNatClampNeg), rfl, ⟨(show (itM (s_X11_run_3 S p0) p0.toNatClampNeg) = s_X11_run S p0 from (if_neg c2_20).symm), (show (v_X11_run_5 S p0) = r_X11_run S p0 from (if_neg c2_20).symm)⟩, endW hP3 hK hD3 ht hW⟩, hS3.F ht⟩) hS3.2.2 dX11_run_53
          · have hlt : i < p0.toNatClampNeg := lp_ltP hg hi c3_34
            refine lv_aload_n hx hb dX11_run_37 rfl (lv_at hl3 2 rfl) ?_
            refine va_callv (va_runV (As := []) (rest := []) ⟨hx, hb, hml, hown, hts⟩ (k_X11_passes l D a cZ cI (itM (s_X11_run_3 S p0) i) H3.size (n + i) (by omega) (okM_it hn (show okM n (s_X11_run_3 S p0) from hm) i (by omega))) (cwV 0 hts gX11_run_X11_passes rfl rfl rfl (by decide +kernel) ⟨Nat.le_of_ble_eq_true rfl, Nat.le_of_ble_eq_true rfl⟩) ⟨blW okN_T, va_recv hK hP3 (ci := 11) (q0 := 0) rfl rfl, preW hP3 hK hD3 okN_T hN⟩ rfl rfl hl3.1 rfl (lv_room (Nat.le_of_ble_eq_true rfl)) dX11_run_38 ⟨Nat.zero_le _, Nat.zero_le _⟩) hS3 (aA_in hAc) (aA_free hAc hA hS3) (fun u4 t4 H4 L4 ht4 hvm4 hw4 hB4 _ _ hS4 => ?_)
            obtain ⟨hP4, hD4⟩ := backW hB4 ht4 (aA_free hAc hA hS3)
            clear hB4 ht4 hvm4 t4
            have hu4 : u4 = _ := hw4
            clear hw4; subst u4
            replace hP4 : va_P D vwCl (wM a cZ cI (s_X11_run_7 S p0 i)) H4 := hP4
            replace hD4 : va_D A (wM a cZ cI (s_X11_run_7 S p0 i)) := hD4
            clear hP3 hD3 hS3
            refine lv_iinc (v := (v_X11_run_8 S p0 i)) (lv' := [(3, .int (v_X11_run_8 S p0 i)), (2, .int ((s_X11_run_3 S p0).1 24)), (0, .ref (a 0)), (1, .int p0)]) hx hb dX11_run_41 hl3 (k := 0) rfl rfl (by decide) rfl (fun ls4 hl4 => ?_)
            clear hl3
            refine lv_goto (tgt := 32) hx hb dX11_run_44 (by decide) ?_
            exact ih (i + 1) (by omega) (by omega) _ _ (va_asS (P := fun u => va_P D vwCl (wM a cZ cI u) H4) (show (itM (s_X11_run_3 S p0) (i + 1)) = (s_X11_run_7 S p0 i) from rfl) hP4) (va_asS (P := fun u => va_D A (wM a cZ cI u)) (show (itM (s_X11_run_3 S p0) (i + 1)) = (s_X11_run_7 S p0 i) from rfl) hD4) hS4 _ (by rw [show (nI (i + 1)) = (v_X11_run_8 S p0 i) from (nI_1 i).symm]; exact lv_sub (l' := [(3, .int (v_X11_run_8 S p0 i)), (2, .int ((s_X11_run_3 S p0).1 24)), (0, .ref (a 0)), (1, .int p0)]) hl4 [0, 1, 2, 3] rfl)
      exact LOOP (p0.toNatClampNeg + 1) 0 (Nat.zero_le _) (by omega) _ _ hP2 hD2 hS2 _ (lv_sub (l' := [(3, .int (nI 0)), (2, .int ((s_X11_run_3 S p0).1 24)), (0, .ref (a 0)), (1, .int p0)]) hl2 [0, 1, 2, 3] rfl)
    · refine lv_iconst (v := 0) hx hb dX11_run_23 (by decide) ?_
      subst hQ; exact W.iret (v := 0) hx hb hr (fun t ht hW => ⟨⟨0, (s_X11_run_3 S p0), rfl, ⟨(show (s_X11_run_3 S p0) = s_X11_run S p0 from (if_pos c2_20).symm), (show 0 = r_X11_run S p0 from (if_pos c2_20).symm)⟩, endW hP2 hK hD2 ht hW⟩, hS2.F ht⟩) hS2.2.2 dX11_run_24
  refine lv_if_eq (tgt := 16) hx hb dX11_run_9 (by decide) (fun c1_9 => ?_) (fun c1_9 => ?_)
  · refine lv_iconst (v := 1) hx hb dX11_run_16 (by decide) ?_
    refine lv_asi (y := (v_X11_run_2 S p0)) (show (v_X11_run_2 S p0) = 1 from (if_pos c1_9)).symm ?_
    exact J1_9
  · refine lv_iconst (v := 0) hx hb dX11_run_12 (by decide) ?_
    refine lv_goto (tgt := 17) hx hb dX11_run_13 (by decide) ?_
    refine lv_asi (y := (v_X11_run_2 S p0)) (show (v_X11_run_2 S p0) = 0 from (if_neg c1_9)).symm ?_
    exact J1_9
