theorem st_vk {own tx : String} {k : Nat} {A : Array Value} {s : State} (h1 : (Cond.stringRef own k tx).before A s = true) (h2 : (Cond.exactly (.string own k) "java/lang/String").before A s = true) : ∃ sa, vk_R own k tx sa s := by
  obtain ⟨a, c, cA, kA, q1, -⟩ := Cond.exactly_spec (args := A) (first := s) (o := none) (s := s) (idx := []) (t := .string own k) (cls := "java/lang/String") h2
  exact ⟨a, vk_R.of h1 q1⟩
set_option maxRecDepth 100000 in
set_option maxHeartbeats 4000000 in
theorem st_nP {A : Array Value} {s : State} (hts : ∀ w ∈ lw_tbl, w.before A s = true) : nP s := ⟨va_Nw.of rfl (hts (.methodLinkNest RX6 41 yX10_isWithin RX10) (by decide +kernel)), va_Nw.of rfl (hts (.methodLinkNest RX7 25 yX10_isWithin RX10) (by decide +kernel)), va_Nw.of rfl (hts (.methodLinkNest RX1 24 yX10_isWithin RX10) (by decide +kernel))⟩
set_option maxRecDepth 100000 in
set_option maxHeartbeats 4000000 in
theorem st_nC {A : Array Value} {s : State} (hts : ∀ w ∈ lw_tbl, w.before A s = true) : nC s := ⟨va_Nw.of rfl (hts (.methodLinkNest RX10 9 yX9_init RX10) (by decide +kernel)), va_Nw.of rfl (hts (.methodLinkNest RX10 18 yX3_init RX10) (by decide +kernel)), va_Nw.of rfl (hts (.methodLinkNest RX10 25 yX2_init RX10) (by decide +kernel)), va_Nw.of rfl (hts (.methodLinkNest RX10 32 yX5_init RX10) (by decide +kernel)), va_Nw.of rfl (hts (.methodLinkNest RX10 39 yX6_init RX10) (by decide +kernel)), va_Nw.of rfl (hts (.methodLinkNest RX10 46 yX4_init RX10) (by decide +kernel)), va_Nw.of rfl (hts (.methodLinkNest RX10 53 yX1_init RX10) (by decide +kernel)), va_Nw.of rfl (hts (.methodLinkNest RX10 60 yX8_init RX10) (by decide +kernel)), va_Nw.of rfl (hts (.methodLinkNest RX10 67 yX7_init RX10) (by decide +kernel)), va_Nw.of rfl (hts (.methodLinkNest RX10 74 yX0_init RX10) (by decide +kernel))⟩
set_option maxRecDepth 100000 in
set_option maxHeartbeats 4000000 in
theorem st_nY {A : Array Value} {s : State} (hts : ∀ w ∈ lw_tbl, w.before A s = true) (hgv : (Jvm.Cond.and given_1 narrow_1).before A s = true) : nY s := by
  have hs := flat_of_before _ hgv
  exact ⟨st_nP hts, va_Nw.of rfl (hts (.castable "java/lang/IllegalArgumentException" "java/lang/IllegalArgumentException") (by decide +kernel)), va_Nw.of rfl (hts (.castable "java/lang/IndexOutOfBoundsException" "java/lang/IndexOutOfBoundsException") (by decide +kernel)), va_Nw.of rfl (hts (.castable "java/lang/IllegalStateException" "java/lang/IllegalStateException") (by decide +kernel)), va_Nw.of rfl (hts (.declares ⟨"java/lang/RuntimeException", "<init>", "(Ljava/lang/String;)V"⟩) (by decide +kernel)), va_Nw.of rfl (hts (.declares ⟨"java/lang/Exception", "<init>", "(Ljava/lang/String;)V"⟩) (by decide +kernel)), va_Nw.of rfl (hts (.declares ⟨"java/lang/Throwable", "<init>", "(Ljava/lang/String;)V"⟩) (by decide +kernel)), st_vk (hts (.stringRef RX10 85 "offset is out of range") (by decide +kernel)) (hs (.exactly (.string "Phaselock" 85) "java/lang/String") (by decide +kernel)), st_vk (hts (.stringRef RX10 94 "jitter is out of range") (by decide +kernel)) (hs (.exactly (.string "Phaselock" 94) "java/lang/String") (by decide +kernel)), st_vk (hts (.stringRef RX10 96 "seed is out of range") (by decide +kernel)) (hs (.exactly (.string "Phaselock" 96) "java/lang/String") (by decide +kernel)), st_vk (hts (.stringRef RX10 105 "detector is out of range") (by decide +kernel)) (hs (.exactly (.string "Phaselock" 105) "java/lang/String") (by decide +kernel)), st_vk (hts (.stringRef RX10 110 "p is out of range") (by decide +kernel)) (hs (.exactly (.string "Phaselock" 110) "java/lang/String") (by decide +kernel)), st_vk (hts (.stringRef RX10 112 "i is out of range") (by decide +kernel)) (hs (.exactly (.string "Phaselock" 112) "java/lang/String") (by decide +kernel)), st_vk (hts (.stringRef RX10 121 "phase is out of range") (by decide +kernel)) (hs (.exactly (.string "Phaselock" 121) "java/lang/String") (by decide +kernel)), st_vk (hts (.stringRef RX10 132 "ticks is out of range") (by decide +kernel)) (hs (.exactly (.string "Phaselock" 132) "java/lang/String") (by decide +kernel)), st_vk (hts (.stringRef RX10 163 "there is no such bit") (by decide +kernel)) (hs (.exactly (.string "Phaselock" 163) "java/lang/String") (by decide +kernel)), st_vk (hts (.stringRef RX10 173 "there was no data strobe") (by decide +kernel)) (hs (.exactly (.string "Phaselock" 173) "java/lang/String") (by decide +kernel)), st_vk (hts (.stringRef RX10 204 "remainder is out of range") (by decide +kernel)) (hs (.exactly (.string "Phaselock" 204) "java/lang/String") (by decide +kernel))⟩
set_option maxRecDepth 100000 in
set_option maxHeartbeats 4000000 in
theorem st_xZ {A : Array Value} {s : State} (hts : ∀ w ∈ lw_tbl, w.before A s = true) (hgv : (Jvm.Cond.and given_1 narrow_1).before A s = true) : xZ (lwA s) s s.heap := by
  have hs := flat_of_before _ hgv
  have hA : ∀ a : Nat, a < s.heap.size → ¬ lwA s a := fun a h => Nat.not_le.mpr h
  exact ⟨vx_Zqof (hts (.laysStatic Bundle.tN "UNASSIGNED_STACK" Bundle.steD) (by decide +kernel)) (hts (.initialized Bundle.tN) (by decide +kernel)) (hs (.isRef (.static Bundle.tN "UNASSIGNED_STACK" Bundle.steD)) (by decide +kernel)) hA, vx_Zqof (hts (.laysStatic Bundle.tN "SUPPRESSED_SENTINEL" Bundle.listD) (by decide +kernel)) (hts (.initialized Bundle.tN) (by decide +kernel)) (hs (.isRef (.static Bundle.tN "SUPPRESSED_SENTINEL" Bundle.listD)) (by decide +kernel)) hA⟩
theorem st_fl {l : Launch} (h : l.flags = flags0) : l.stackTraces = false := by
  unfold Launch.stackTraces
  rw [h]
  decide +kernel
set_option maxRecDepth 100000 in
set_option maxHeartbeats 4000000 in
theorem st_K {A : Array Value} {s : State} (hts : ∀ w ∈ lw_tbl, w.before A s = true) : ∃ D : va_G, va_K D vwCl [] s := by
  obtain ⟨c0, i0, h0⟩ := u_known (C := RX0) (T := TX0) (N := 6) (n := 6) hts inX0 (hts (.instantiable RX0 6) (by decide +kernel))
  obtain ⟨c1, i1, h1⟩ := u_known (C := RX1) (T := TX1) (N := 2) (n := 2) hts inX1 (hts (.instantiable RX1 2) (by decide +kernel))
  obtain ⟨c2, i2, h2⟩ := u_known (C := RX2) (T := TX2) (N := 2) (n := 2) hts inX2 (hts (.instantiable RX2 2) (by decide +kernel))
  obtain ⟨c3, i3, h3⟩ := u_known (C := RX3) (T := TX3) (N := 1) (n := 1) hts inX3 (hts (.instantiable RX3 1) (by decide +kernel))
  obtain ⟨c4, i4, h4⟩ := u_known (C := RX4) (T := TX4) (N := 5) (n := 5) hts inX4 (hts (.instantiable RX4 5) (by decide +kernel))
  obtain ⟨c5, i5, h5⟩ := u_known (C := RX5) (T := TX5) (N := 1) (n := 1) hts inX5 (hts (.instantiable RX5 1) (by decide +kernel))
  obtain ⟨c6, i6, h6⟩ := u_known (C := RX6) (T := TX6) (N := 7) (n := 7) hts inX6 (hts (.instantiable RX6 7) (by decide +kernel))
  obtain ⟨c7, i7, h7⟩ := u_known (C := RX7) (T := TX7) (N := 4) (n := 4) hts inX7 (hts (.instantiable RX7 4) (by decide +kernel))
  obtain ⟨c8, i8, h8⟩ := u_known (C := RX8) (T := TX8) (N := 4) (n := 4) hts inX8 (hts (.instantiable RX8 4) (by decide +kernel))
  obtain ⟨c9, i9, h9⟩ := u_known (C := RX9) (T := TX9) (N := 7) (n := 7) hts inX9 (hts (.instantiable RX9 7) (by decide +kernel))
  obtain ⟨c10, i10, h10⟩ := u_known (C := RX10) (T := TX10) (N := 10) (n := 10) hts inX10 (hts (.instantiable RX10 10) (by decide +kernel))
  refine ⟨(fun k => match k with | 0 => c0 | 1 => c1 | 2 => c2 | 3 => c3 | 4 => c4 | 5 => c5 | 6 => c6 | 7 => c7 | 8 => c8 | 9 => c9 | _ => c10, fun k => match k with | 0 => i0 | 1 => i1 | 2 => i2 | 3 => i3 | 4 => i4 | 5 => i5 | 6 => i6 | 7 => i7 | 8 => i8 | 9 => i9 | _ => i10), fun k q hq => ?_, fun k q h => by simp at h⟩
  match k, hq with
  | 0, hq => cases hq; exact h0
  | 1, hq => cases hq; exact h1
  | 2, hq => cases hq; exact h2
  | 3, hq => cases hq; exact h3
  | 4, hq => cases hq; exact h4
  | 5, hq => cases hq; exact h5
  | 6, hq => cases hq; exact h6
  | 7, hq => cases hq; exact h7
  | 8, hq => cases hq; exact h8
  | 9, hq => cases hq; exact h9
  | 10, hq => cases hq; exact h10
  | k + 11, hq => simp [vwCl] at hq
