theorem apX {α : Type} {X Y : List α} {i : Nat} {q : α} (h : X[i]? = some q) : (X ++ Y)[i]? = some q := by
  rw [List.getElem?_append_left (List.getElem?_eq_some_iff.mp h).1]; exact h
theorem apY {α : Type} {X Y : List α} {i : Nat} {q : α} (h : Y[i]? = some q) : (X ++ Y)[X.length + i]? = some q := by
  rw [List.getElem?_append_right (Nat.le_add_right _ _), Nat.add_sub_cancel_left]; exact h
theorem subP {D : va_G} {X C Y : va_W} {H : Heap} (h : va_P D vwCl (X ++ (C ++ Y)) H) : va_P D vwCl C H := fun k q hk => h (X.length + k) q (apY (apX hk))
theorem subD {A : Nat → Prop} {X C Y : va_W} (h : va_D A (X ++ (C ++ Y))) : va_D A C := ⟨fun i j p q hi hj e => Nat.add_left_cancel (h.1 (X.length + i) (X.length + j) p q (apY (apX hi)) (apY (apX hj)) e), fun k q hk => h.2 (X.length + k) q (apY (apX hk))⟩
theorem reD {A : Nat → Prop} {ws ws2 : va_W} (h : va_D A ws) (e : ws2.map (fun q => q.1) = ws.map (fun q => q.1)) : va_D A ws2 := by
  have g : ∀ (i : Nat) (p : Nat × va_E), ws2[i]? = some p → ∃ p' : Nat × va_E, ws[i]? = some p' ∧ p'.1 = p.1 := fun i p hp => by
    have h1 : (ws2.map (fun q => q.1))[i]? = some p.1 := by rw [List.getElem?_map, hp]; rfl
    rw [e, List.getElem?_map] at h1
    cases hw : ws[i]? with
    | none => rw [hw] at h1; cases h1
    | some p' => rw [hw] at h1; exact ⟨p', rfl, Option.some.inj h1⟩
  refine ⟨fun i j p q hi hj hpq => ?_, fun k q hk => ?_⟩
  · obtain ⟨p', h1, e1⟩ := g i p hi
    obtain ⟨q', h2, e2⟩ := g j q hj
    exact h.1 i j p' q' h1 h2 (by rw [e1, e2]; exact hpq)
  · obtain ⟨q', h1, e1⟩ := g k q hk
    rw [← e1]
    exact h.2 k q' h1
/-- behind a call whose world is the middle of the list: what came back stands in its place -/
theorem joinW {D : va_G} {A0 : Nat → Prop} {X C C1 Y : va_W} {as : List Nat} {H H1 : Heap} (hP : va_P D vwCl (X ++ (C ++ Y)) H) (hD : va_D A0 (X ++ (C ++ Y))) (eC : C.map (fun q => q.1) = as) (eC1 : C1.map (fun q => q.1) = as) (hk : ∀ q : Nat, q < H.size → ¬ aA as H.size q → H1[q]? = H[q]?) (hP1 : va_P D vwCl C1 H1) : va_P D vwCl (X ++ (C1 ++ Y)) H1 ∧ va_D A0 (X ++ (C1 ++ Y)) := by
  have far : ∀ (i : Nat) (q : Nat × va_E), (X ++ (C ++ Y))[i]? = some q → (∀ j, j < C.length → i ≠ X.length + j) → H1[q.1]? = H[q.1]? := fun i q hi hne => by
    refine hk q.1 (hP i q hi).lt (fun h => ?_)
    rcases h with h | h
    · rw [← eC] at h
      obtain ⟨c, hc, e⟩ := List.mem_map.mp h
      obtain ⟨j, hj⟩ := List.getElem?_of_mem hc
      exact hne j (List.getElem?_eq_some_iff.mp hj).1 (hD.1 i (X.length + j) q c hi (apY (apX hj)) e.symm)
    · exact absurd (hP i q hi).lt (Nat.not_lt.mpr h)
  refine ⟨fun k q hq => ?_, reD hD (by simp only [List.map_append, eC, eC1])⟩
  rcases List.mem_append.mp (List.mem_of_getElem? hq) with h | h
  · obtain ⟨i, hi⟩ := List.getElem?_of_mem h
    have h1 : (X ++ (C ++ Y))[i]? = some q := apX hi
    exact (hP i q h1).kept (far i q h1 (fun j _ => by have := (List.getElem?_eq_some_iff.mp hi).1; omega))
  · rcases List.mem_append.mp h with h | h
    · obtain ⟨i, hi⟩ := List.getElem?_of_mem h
      exact hP1 i q hi
    · obtain ⟨i, hi⟩ := List.getElem?_of_mem h
      have h1 : (X ++ (C ++ Y))[X.length + (C.length + i)]? = some q := apY (apY hi)
      exact (hP _ q h1).kept (far _ q h1 (fun j hj => by omega))
