theorem sub3 {L : Nat} (h : L ≤ 1536) : (nI L - 3).toInt = (L : Int) - 3 := by
  rw [Int32.toInt_sub, nI_toInt (by omega)]
  exact Int.bmod_eq_of_le (by show _ ≤ (L : Int) - 3; omega) (by show (L : Int) - 3 < _; omega)
set_option maxHeartbeats 4000000 in
set_option maxRecDepth 100000 in
theorem law_loop {p : Program} {l : Launch} {e : Env} {s : State} {m : MethodId} {below : List Frame} {meth : Method} {c : Code} {D : va_G} {b L : Nat} {xs : Nat → Int32} {a a2 : Nat → Nat} {cZ cI cJ cZ2 cI2 : ClassId} {o : Nat} (F : lwF p l s m meth c D b L xs cZ cI cJ cZ2 cI2) :
    ∀ (fu k : Nat), 3 * k ≤ L → L < 3 * k + fu → ∀ (C M : St) (fo : Nat → Int64) (H : Heap) (locs : List Loc) (ls : Array Slot), Rel (800 * k) C M → lwV s D a a2 cZ cI cJ cZ2 cI2 o C M fo H locs → lv_has ls 7 [(4, .int (nI (3 * k))), (0, .ref b), (1, .ref (a 0)), (2, .ref (a2 0)), (3, .ref o)] → W p l e room_1 s m #[Value.ref b] below meth c H locs (17 + k) (663 + 6 * k) (lw_Z below #[Value.ref b] s) (F0 m 23 ls []) := by
  intro fu
  induction fu with
  | zero => exact fun k h1 h2 => absurd h2 (by omega)
  | succ fu ih =>
    intro k h1 h2 C M fo H locs ls hR hV hl
    obtain ⟨⟨hx, hb, hr, hml, hown, hts0, hX, hbl, hlocks, hgv⟩, hL, hfl, hNY, hZ, hK⟩ := id F
    have hbA : ¬ lwA s b := Nat.not_le.mpr hbl
    have hS := hV.2.2
    refine lv_iload hx hb dL_law_23 (lv_at hl 0 rfl) ?_
    refine lv_aload_n hx hb dL_law_25 rfl (lv_at hl 1 rfl) ?_
    refine va_slen hx hb hX hbl hbA hS dL_law_26 ?_
    refine lv_iconst (v := 3) hx hb dL_law_27 (by decide) ?_
    refine lv_isub hx hb dL_law_28 ?_
    refine lv_icmp_gt (tgt := 891) hx hb dL_law_29 (by decide) (fun c1 => ?_) (fun c1 => ?_)
    · refine lv_iconst (v := 1) hx hb dL_law_891 (by decide) ?_
      refine va_forget (fun q hq => hS.2.2 q hq) ?_
      refine W.widen (k := 1052) (n := 8921) (by omega) (by omega) ?_
      exact lw_ret hx hb hr hlocks dL_law_892
    · have hle : nI (3 * k) ≤ nI L - 3 := Int32.not_lt.mp c1
      have hk : 3 * k + 2 < L := by
        have q := Int32.le_iff_toInt_le.mp hle
        rw [sub3 hL, nI_toInt (by omega)] at q
        omega
      have kont : lwN p l e s m below meth c D b a a2 cZ cI cJ cZ2 cI2 o k := by
        intro C1 M1 fo1 H1 L1 ls1 hR1 hV1 hl1
        refine lv_iinc (v := nI (3 * (k + 1))) (lv' := [(4, .int (nI (3 * (k + 1)))), (0, .ref b), (1, .ref (a 0)), (2, .ref (a2 0)), (3, .ref o)]) hx hb dL_law_885 hl1 (k := 0) rfl (nI_add (3 * k) 3) (by decide) rfl (fun ls2 hl2 => ?_)
        refine lv_goto (tgt := 23) hx hb dL_law_888 (by decide) ?_
        exact ih (k + 1) (by omega) (by omega) C1 M1 fo1 H1 L1 ls2 hR1 hV1 hl2
      refine lv_aload_n hx hb dL_law_32 rfl (lv_at hl 1 rfl) ?_
      refine lv_iload hx hb dL_law_33 (lv_at hl 0 rfl) ?_
      refine va_sld hx hb hX hbl hbA hS (vp_in_nI (by omega) (by omega)) dL_law_35 ?_
      refine lv_bipush (v := 31) hx hb dL_law_36 (by decide) ?_
      refine lv_iand hx hb dL_law_38 ?_
      obtain ⟨j, hj, ej⟩ := pk_andE (xs (nI (3 * k)).toNatClampNeg) (m := 31) 5 rfl
      refine lv_asi ej ?_
      have out : ∀ j : Nat, 27 < j → j < 32 → W p l e room_1 s m #[Value.ref b] below meth c H locs (17 + k) (663 + 6 * k) (lw_Z below #[Value.ref b] s) (F0 m 39 ls [.int (nI j)]) := by
        intro j hj1 hj2
        refine lv_tableOut (tgt := 885) hx hb dL_law_39 (Or.inr (by rw [nI_toInt (by omega)]; omega)) (by decide) ?_
        refine W.widen (k := 17 + (k + 1)) (n := 663 + 6 * (k + 1)) (by omega) (by omega) ?_
        exact kont C M fo H locs ls (Rel_up hR (by omega)) hV hl
      match j, hj with
      | 0, _ => exact lv_tableIn (off := 125) (tgt := 164) hx hb dL_law_39 (by decide) (by decide) (by decide) (by decide) (cs_setOffset F hk hR hV hl kont)
      | 1, _ => exact lv_tableIn (off := 181) (tgt := 220) hx hb dL_law_39 (by decide) (by decide) (by decide) (by decide) (cs_setJitter F hk hR hV hl kont)
      | 2, _ => exact lv_tableIn (off := 229) (tgt := 268) hx hb dL_law_39 (by decide) (by decide) (by decide) (by decide) (cs_setDetector F hk hR hV hl kont)
      | 3, _ => exact lv_tableIn (off := 285) (tgt := 324) hx hb dL_law_39 (by decide) (by decide) (by decide) (by decide) (cs_setGains F hk hR hV hl kont)
      | 4, _ => exact lv_tableIn (off := 333) (tgt := 372) hx hb dL_law_39 (by decide) (by decide) (by decide) (by decide) (cs_setPhase F hk hR hV hl kont)
      | 5, _ => exact lv_tableIn (off := 389) (tgt := 428) hx hb dL_law_39 (by decide) (by decide) (by decide) (by decide) (cs_release F hk hR hV hl kont)
      | 6, _ => exact lv_tableIn (off := 400) (tgt := 439) hx hb dL_law_39 (by decide) (by decide) (by decide) (by decide) (cs_run F hk hR hV hl kont)
      | 7, _ => exact lv_tableIn (off := 456) (tgt := 495) hx hb dL_law_39 (by decide) (by decide) (by decide) (by decide) (cs_ticks F hk hR hV hl kont)
      | 8, _ => exact lv_tableIn (off := 469) (tgt := 508) hx hb dL_law_39 (by decide) (by decide) (by decide) (by decide) (cs_sent F hk hR hV hl kont)
      | 9, _ => exact lv_tableIn (off := 482) (tgt := 521) hx hb dL_law_39 (by decide) (by decide) (by decide) (by decide) (cs_line F hk hR hV hl kont)
      | 10, _ => exact lv_tableIn (off := 495) (tgt := 534) hx hb dL_law_39 (by decide) (by decide) (by decide) (by decide) (cs_level F hk hR hV hl kont)
      | 11, _ => exact lv_tableIn (off := 508) (tgt := 547) hx hb dL_law_39 (by decide) (by decide) (by decide) (by decide) (cs_sender F hk hR hV hl kont)
      | 12, _ => exact lv_tableIn (off := 521) (tgt := 560) hx hb dL_law_39 (by decide) (by decide) (by decide) (by decide) (cs_receiver F hk hR hV hl kont)
      | 13, _ => exact lv_tableIn (off := 534) (tgt := 573) hx hb dL_law_39 (by decide) (by decide) (by decide) (by decide) (cs_error F hk hR hV hl kont)
      | 14, _ => exact lv_tableIn (off := 547) (tgt := 586) hx hb dL_law_39 (by decide) (by decide) (by decide) (by decide) (cs_integral F hk hR hV hl kont)
      | 15, _ => exact lv_tableIn (off := 560) (tgt := 599) hx hb dL_law_39 (by decide) (by decide) (by decide) (by decide) (cs_control F hk hR hV hl kont)
      | 16, _ => exact lv_tableIn (off := 573) (tgt := 612) hx hb dL_law_39 (by decide) (by decide) (by decide) (by decide) (cs_received F hk hR hV hl kont)
      | 17, _ => exact lv_tableIn (off := 586) (tgt := 625) hx hb dL_law_39 (by decide) (by decide) (by decide) (by decide) (cs_bit F hk hR hV hl kont)
      | 18, _ => exact lv_tableIn (off := 642) (tgt := 681) hx hb dL_law_39 (by decide) (by decide) (by decide) (by decide) (cs_phase F hk hR hV hl kont)
      | 19, _ => exact lv_tableIn (off := 686) (tgt := 725) hx hb dL_law_39 (by decide) (by decide) (by decide) (by decide) (cs_repeated F hk hR hV hl kont)
      | 20, _ => exact lv_tableIn (off := 699) (tgt := 738) hx hb dL_law_39 (by decide) (by decide) (by decide) (by decide) (cs_skipped F hk hR hV hl kont)
      | 21, _ => exact lv_tableIn (off := 712) (tgt := 751) hx hb dL_law_39 (by decide) (by decide) (by decide) (by decide) (cs_isLocked F hk hR hV hl kont)
      | 22, _ => exact lv_tableIn (off := 725) (tgt := 764) hx hb dL_law_39 (by decide) (by decide) (by decide) (by decide) (cs_wander F hk hR hV hl kont)
      | 23, _ => exact lv_tableIn (off := 738) (tgt := 777) hx hb dL_law_39 (by decide) (by decide) (by decide) (by decide) (cs_alignment F hk hR hV hl kont)
      | 24, _ => exact lv_tableIn (off := 751) (tgt := 790) hx hb dL_law_39 (by decide) (by decide) (by decide) (by decide) (cs_frames F hk hR hV hl kont)
      | 25, _ => exact lv_tableIn (off := 764) (tgt := 803) hx hb dL_law_39 (by decide) (by decide) (by decide) (by decide) (cs_losses F hk hR hV hl kont)
      | 26, _ => exact lv_tableIn (off := 777) (tgt := 816) hx hb dL_law_39 (by decide) (by decide) (by decide) (by decide) (cs_bestPhase F hk hR hV hl kont)
      | 27, _ => exact lv_tableIn (off := 790) (tgt := 829) hx hb dL_law_39 (by decide) (by decide) (by decide) (by decide) (cs_cost F hk hR hV hl kont)
      | n + 28, hn => exact out (n + 28) (by omega) hn
