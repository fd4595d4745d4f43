/-- the classes' and array classes' numbers at a state -/
theorem mg_inst : ∀ q ∈ mg_cl, Jvm.Cond.instantiable q.1 q.2.2 ∈ mg_TB := List.forall_mem_cons.mpr ⟨mg_t1 22 (by decide +kernel) rfl, List.forall_mem_cons.mpr ⟨mg_t1 30 (by decide +kernel) rfl, List.forall_mem_cons.mpr ⟨mg_t1 53 (by decide +kernel) rfl, List.forall_mem_cons.mpr ⟨mg_t1 44 (by decide +kernel) rfl, List.forall_mem_cons.mpr ⟨mg_t1 107 (by decide +kernel) rfl, List.forall_mem_cons.mpr ⟨mg_t1 99 (by decide +kernel) rfl, List.forall_mem_cons.mpr ⟨mg_t1 90 (by decide +kernel) rfl, List.forall_mem_cons.mpr ⟨mg_t1 184 (by decide +kernel) rfl, List.forall_mem_cons.mpr ⟨mg_t1 178 (by decide +kernel) rfl, List.forall_mem_cons.mpr ⟨mg_t4 77 (by decide +kernel) rfl, fun _ h => absurd h List.not_mem_nil⟩⟩⟩⟩⟩⟩⟩⟩⟩⟩
theorem mg_K {s : State} {args : Array Value} {L : Nat} {xs : Nat → Int32} (hts : ∀ w ∈ mg_TB, w.before args s = true) : ∃ (D : va_G) (tA : Nat → ClassId), va_K D (ax_cl (mgT L xs)) (ax_tys tA (mgT L xs)) s := by
  have hk : ∀ c : Nat, ∃ x : ClassId × (Nat → Nat), ∀ q, mg_cl[c]? = some q → u_Kn s q.1 q.2.1 q.2.2 x.1 x.2 := by
    intro c
    cases hq : mg_cl[c]? with
    | none => exact ⟨(0, fun _ => 0), fun q h => by cases h⟩
    | some q =>
      obtain ⟨cC, iS, h⟩ := u_known hts (mg_okC c q hq).1 (hts _ (mg_inst q (List.mem_of_getElem? hq)))
      exact ⟨(cC, iS), fun q' h' => by cases h'; exact h⟩
  have ht : ∀ t : Nat, ∃ cA : ClassId, ∀ ty, mg_ty[t]? = some ty → ArrOfT s cA ty ∧ va_RA s cA ty := by
    intro t
    cases hq : mg_ty[t]? with
    | none => exact ⟨0, fun q h => by cases h⟩
    | some ty =>
      have hA := mg_okA ty (List.mem_of_getElem? hq)
      have prim : ∀ ty : FieldType, Jvm.Cond.arrayClass ty ∈ mg_TB → (∀ C, ty ≠ .object C) → ∃ cA : ClassId, ∀ ty', some ty = some ty' → ArrOfT s cA ty' ∧ va_RA s cA ty' := by
        intro ty hm hno
        obtain ⟨c, k, comp, h1, h2, h3⟩ := Cond.arrayClass_spec (hts _ hm)
        refine ⟨c, fun ty' h' => ?_⟩
        cases h'
        refine ⟨fun n z => ⟨fun k h => (by cases h), k, h2, comp, h3⟩, ?_⟩
        cases ty <;> first | exact h1 | exact absurd rfl (hno _)
      cases ty with
      | int => exact prim .int hA (fun C h => by cases h)
      | char => exact prim .char hA (fun C h => by cases h)
      | long => exact prim .long hA (fun C h => by cases h)
      | object C =>
        obtain ⟨comp, c, k, h1, h2, h3, h4, h5⟩ := Cond.arrayOver_spec (hts _ hA)
        refine ⟨c, fun ty' h' => ?_⟩
        cases h'
        exact ⟨fun n z => ⟨fun k h => (by cases h), k, h3, comp, h4⟩, k, comp, h3, h4, h1, h5⟩
      | _ => exact absurd (List.mem_of_getElem? hq) (by simp [mg_ty])
  refine ⟨(fun c => (Classical.choose (hk c)).1, fun c => (Classical.choose (hk c)).2), fun t => Classical.choose (ht t), fun c q hq => Classical.choose_spec (hk c) q hq, fun k q hq => ?_⟩
  unfold ax_tys at hq
  rw [List.getElem?_map, Option.map_eq_some_iff] at hq
  obtain ⟨t, h1, h2⟩ := hq
  have hlt : k < mg_ty.length := by
    have := (List.getElem?_eq_some_iff.mp h1).1
    rw [List.length_range] at this
    exact this
  have h1 : (List.range mg_ty.length)[k]? = some t := h1
  rw [List.getElem?_range hlt] at h1
  cases h1
  cases h2
  have hty : mg_ty[k]? = some ((ax_ty (mgT L xs)).getD k .int) := by
    show mg_ty[k]? = some (mg_ty.getD k .int)
    rw [List.getD_eq_getElem?_getD, List.getElem?_eq_getElem hlt]
    rfl
  exact Classical.choose_spec (ht k) _ hty
def mg_h0 : ax_H := (fun _ => none, 0, 0, 0)
