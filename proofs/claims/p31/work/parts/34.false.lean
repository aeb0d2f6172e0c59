theorem lw_pre_spec {args : Array Value} {s : State} (h : (Jvm.Cond.and given_1 narrow_1).before args s = true) (hr : rest_1_c.before args s = true) : ∃ (b : Addr) (xs : List Int32), lw_P b xs args s := by
  have hs := flat_of_before _ h
  have hq := flat_of_before _ hr
  have hc : (Cond.count 1).before args s = true := hs _ (by decide +kernel)
  have harr : (Cond.arrayOf (.arg 0) .int).before args s = true := hs _ (by decide +kernel)
  have hle : (Cond.le (.length (.arg 0)) (.int 260)).before args s = true := hs _ (by decide +kernel)
  have hlen : (Cond.isInt (.length (.arg 0))).before args s = true := hq _ (by decide +kernel)
  have hall : (Cond.all (.arg 0) (.isInt (.elem (.arg 0) (.index 0)))).before args s = true := hq _ (by decide +kernel)
  obtain ⟨b, xs, hb, hx⟩ := State.ints_of_pre rfl harr hlen hall
  have hsm : xs.length < 2 ^ 31 := hx.choose_spec.2.2.2
  have hev : (Term.length (.arg 0)).eval args s none [] s = some (.int xs.length.toInt32) := hx.length_eval hb
  have hv := Cond.le_ints hev (show (Term.int 260).eval args s none [] s = some (.int 260) from rfl)
  have hd : xs.length.toInt32 ≤ 260 := by
    simpa [Cond.before, Cond.holds, hv] using hle
  have hN : xs.length ≤ 260 := (Int32.ofNat_le_ofNat hsm (by decide)).mp (show Int32.ofNat xs.length ≤ Int32.ofNat 260 from hd)
  exact ⟨b, xs, Cond.one_arg hc (show args[0]? = some (.ref b) from hb), hx, hN, h⟩
/-! THE START: the printed witness's state, with a script of 56 fives (release, 56 times) in the stead of its own -/
def script9 : Array Value := (List.replicate 56 (Value.int 5)).toArray
def about9 : State := start1.aboutOf script9
theorem warm9 : start1.about.WarmedH about9.vm := State.WarmedH.refl start1.about
set_option maxRecDepth 100000 in
set_option maxHeartbeats 4000000 in
theorem rest9_1 : tables_1_1.all (fun c => goodWord c || c.before start1.args0 about9) = true := by decide +kernel
set_option maxRecDepth 100000 in
set_option maxHeartbeats 4000000 in
theorem rest9_2 : tables_1_2.all (fun c => goodWord c || c.before start1.args0 about9) = true := by decide +kernel
set_option maxRecDepth 100000 in
set_option maxHeartbeats 4000000 in
theorem rest9_3 : tables_1_3.all (fun c => goodWord c || c.before start1.args0 about9) = true := by decide +kernel
theorem word9 {c : Cond} (hb : c.before start1.args0 start1.about = true) (h : (goodWord c || c.before start1.args0 about9) = true) : c.before start1.args0 about9 = true := by
  cases hg : goodWord c with
  | true => exact word_at warm9 (good_of_word hg) hb
  | false => rw [hg] at h; exact h
theorem words9 : ∀ c ∈ (Cond.code x code maxLocals ret :: tables_1), c.before start1.args0 about9 = true := by
  intro c hc
  have hb := start1.words c hc
  rcases List.mem_cons.mp hc with h | h
  · subst h
    exact word_at warm9 (good_of_word (by rfl)) hb
  · refine word9 hb ?_
    have h1 : c ∈ tables_1_1 ++ (tables_1_2 ++ tables_1_3) := h
    rcases List.mem_append.mp h1 with h2 | h1
    · exact List.all_eq_true.mp rest9_1 c h2
    rcases List.mem_append.mp h1 with h2 | h1
    · exact List.all_eq_true.mp rest9_2 c h2
    · exact List.all_eq_true.mp rest9_3 c h1
set_option maxRecDepth 100000 in
set_option maxHeartbeats 4000000 in
theorem rest9 : rest_1_c.before start1.args0 about9 = true := by decide +kernel
set_option maxRecDepth 100000 in
set_option maxHeartbeats 4000000 in
theorem given9 : (Cond.and given_1 narrow_1).before start1.args0 about9 = true := by decide +kernel
set_option maxRecDepth 100000 in
set_option maxHeartbeats 4000000 in
theorem fits9 : heapFits about9 = true := by decide +kernel
set_option maxRecDepth 100000 in
set_option maxHeartbeats 4000000 in
theorem args9 : argsFit about9.vm ⟨0, 0⟩ start1.args0 = true := by decide +kernel
set_option maxRecDepth 100000 in
set_option maxHeartbeats 4000000 in
theorem applies9_1 : (headSpec (Cond.code x code maxLocals ret :: tables_1) room_1).applies x start1.e0.platform about9 = true :=
  (Spec.applies_iff rfl).mpr ⟨rfl, rfl, rfl, by decide +kernel, by decide +kernel, by decide +kernel, launch0.hasRoom_least _ room_1 (by decide +kernel) (by decide +kernel) (by decide +kernel) (by decide +kernel) (by decide +kernel) (by decide +kernel), atoms_intro words9⟩
set_option maxRecDepth 100000 in
set_option maxHeartbeats 4000000 in
theorem applies9_9 : (headSpec (Cond.code x code maxLocals ret :: tables_1) room_9).applies x start1.e0.platform about9 = true :=
  (Spec.applies_iff rfl).mpr ⟨rfl, rfl, rfl, by decide +kernel, by decide +kernel, by decide +kernel, launch0.hasRoom_least _ room_9 (by decide +kernel) (by decide +kernel) (by decide +kernel) (by decide +kernel) (by decide +kernel) (by decide +kernel), atoms_intro words9⟩
theorem atStart9 : AtStart classFile x code maxLocals ret World_1 tables_1 room_1 Calls_1 rest_1 Pre_1 launch0 start1.p0 start1.e0 about9 ⟨0, 0⟩ start1.args0 Lib.HandBits.below0 :=
  ⟨lists_1, trivial, launch0.admits_env _ _ _, launch0.least_env, fairChoices_fair.cas, fairChoices_fair.clock, rfl, args9, fits9, applies9_1, trivial, rest9, given9⟩
/-- the script is one of 56 fives -/
def unInt9 : Value → Int32
  | .int v => v
  | _ => 0
theorem fives9 {b : Addr} {xs : List Int32} (h : lw_P b xs start1.args0 about9) : xs.length = 56 ∧ ∀ k, k < 56 → xs.getD k 0 = 5 := by
  obtain ⟨h1, ⟨cell, h2, h3, -⟩, -, -⟩ := h
  have hb : b = 0 := by
    have q : (#[Value.ref 0] : Array Value) = #[Value.ref b] := h1
    have q2 := congrArg (fun z : Array Value => z[0]?) q
    simp at q2
    exact q2.symm
  subst hb
  obtain ⟨h4, -⟩ := State.arrayAt?_spec h2
  have h5 : about9.heap[0]? = some { cls := 23, slots := script9, vm := .none } := rfl
  have h6 : cell.slots = script9 := by
    have q := h4.symm.trans h5
    cases q
    rfl
  rw [h6] at h3
  have h7 : xs = List.replicate 56 5 := by
    have q := congrArg (List.map unInt9) h3
    rw [List.map_map] at q
    have e : (unInt9 ∘ Value.int) = id := rfl
    rw [e, List.map_id] at q
    exact q.symm
  subst h7
  refine ⟨rfl, fun k hk => ?_⟩
  rw [List.getD_eq_getElem?_getD, List.getElem?_replicate, if_pos hk]
  rfl
/-- what the run comes to: true, behind at least 210 new objects and arrays -/
theorem run9 : ∃ (n : Nat) (o : Outcome), (∀ k, k < n → Within (stepsAlone start1.p0.tables start1.e0 k about9) Lib.HandBits.below0) ∧ (stepsAlone start1.p0.tables start1.e0 n about9).status = .running ∧ Ended (stepsAlone start1.p0.tables start1.e0 n about9) Lib.HandBits.below0 o ∧ o = .returned (some (.int 1)) ∧ about9.heap.size + 210 ≤ (stepsAlone start1.p0.tables start1.e0 n about9).heap.size := by
  obtain ⟨b, xs, hP⟩ := lw_pre_spec given9 rest9
  obtain ⟨hL, h5⟩ := fives9 hP
  obtain ⟨n, o, h1, h2, h3, h4, h6⟩ := lw_walk launch0 rfl b xs hL h5 start1.p0 start1.e0 (launch0.admits_env _ _ _) fairChoices_fair.cas fairChoices_fair.clock about9 ⟨0, 0⟩ start1.args0 Lib.HandBits.below0 rfl ((Spec.applies_iff_loose rfl).mp applies9_9).1 hP trivial
  exact ⟨n, o, h1, h2, h3, h4, h6⟩
/-- so many cells no frame of 209 holds -/
theorem noFrame9 {o : Outcome} {t : State} {L : List Loc} (h : about9.heap.size + 210 ≤ t.heap.size) : ¬ Framed about9 o t L 209 2116 := by
  rintro ⟨-, -, -, -, q, -⟩
  have q2 : t.heap.size ≤ about9.heap.size + 209 := q
  omega
theorem refuted_1_1 : RefutedClaimed_1_1 := by
  obtain ⟨n, o, h1, h2, h3, h4, h5⟩ := run9
  exact ⟨launch0, start1.p0, start1.e0, about9, ⟨0, 0⟩, start1.args0, Lib.HandBits.below0, rfl, atStart9, n, o, h1, h2, h3, fun q => noFrame9 h5 q.2⟩
theorem refuted_1_2 : RefutedClaimed_1_2 := by
  obtain ⟨n, o, h1, h2, h3, h4, h5⟩ := run9
  exact ⟨launch0, start1.p0, start1.e0, about9, ⟨0, 0⟩, start1.args0, Lib.HandBits.below0, rfl, atStart9, n, o, h1, h2, h3, fun q => noFrame9 h5 q.2⟩
/-- no contract of the law holds that promises a frame of 209 cells: its run is the one above -/
theorem noArm9 {P : Tables → Env → Array Value → State → Outcome → State → Prop} (hP : ∀ tb e a o t, P tb e a about9 o t → ∃ L, Framed about9 o t L 209 2116) : ¬ ArmFor flags0 classFile x code maxLocals ret World_1 tables_1 room_1 Calls_1 rest_1 Pre_1 P := by
  intro h
  obtain ⟨n, o, h1, h2, h3, h4, h5⟩ := run9
  obtain ⟨n2, o2, g1, g2, g3, g4⟩ := h launch0 rfl lists_1 trivial start1.p0 start1.e0 (launch0.admits_env _ _ _) fairChoices_fair.cas fairChoices_fair.clock about9 ⟨0, 0⟩ start1.args0 Lib.HandBits.below0 rfl args9 fits9 applies9_1 ⟨trivial, rest9, given9⟩
  have e : n = n2 := by
    rcases Nat.lt_trichotomy n n2 with q | q | q
    · exact absurd (g1 n q) h3.not_within
    · exact q
    · exact absurd (h1 n2 q) g3.not_within
  subst e
  obtain ⟨L, hF⟩ := hP _ _ _ _ _ g4
  exact noFrame9 h5 hF
/-- p31's first owed half is false, the law returning behind more cells than the claim has room for -/
theorem false_1_1 : ¬ Claimed_1_1 := noArm9 fun _ _ _ _ _ q => ⟨_, q.2⟩
theorem false_1_2 : ¬ Claimed_1_2 := noArm9 fun _ _ _ _ _ q => ⟨_, q.2⟩
theorem p31_false : ¬ (Claimed_1_1 ∧ Claimed_1_2) := fun h => false_1_1 h.1
