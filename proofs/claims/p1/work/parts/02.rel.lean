/-! The abstract machine's runs are the machine's: cells, values, locals. -/
def ax_tv (as : Nat → Nat) : Value → Value
  | .ref i => .ref (as i)
  | v => v
def ax_tA (as : Nat → Nat) (a : vp_A) : vp_A := (a.1, match a.2 with
  | .inr (.inr (.inr (.inr f))) => .inr (.inr (.inr (.inr (fun j => (f j).map as))))
  | x => x)
def ax_tc (as : Nat → Nat) (tA : Nat → ClassId) : ax_C → va_E
  | .inl a => .inl (tA a.1, ax_tA as a.2)
  | .inr o => .inr (o.1, o.2.map (ax_tv as))
/-- where the cells stand: those that are made one behind the other from b on, the others below -/
def ax_As (b : Nat) (as : Nat → Nat) : Prop := (∀ i, i < ax_big → as i = b + i) ∧ ∀ i, ax_big ≤ i → as i < b
def ax_R (b : Nat) (as : Nat → Nat) (D : va_G) (cl : List vw_C) (tA : Nat → ClassId) (h : ax_H) (H : Heap) : Prop :=
  H.size = b + h.2.1 ∧ h.2.1 ≤ ax_big ∧ ∀ (i : Nat) (c : ax_C), h.1 i = some c → (i < h.2.1 ∨ ax_big ≤ i) ∧ va_at D cl (as i, ax_tc as tA c) H
def ax_lr (as : Nat → Nat) (ls : ax_L) (a : Array Slot) : Prop :=
  a.size = ls.length ∧ lv_wf a ∧ ∀ (i : Nat) (v : Value), ls[i]? = some (some v) → a[i]? = some (.val (ax_tv as v))
theorem ax_tv_cat (as : Nat → Nat) (v : Value) : (ax_tv as v).category = v.category := by cases v <;> rfl
def ax_lv (as : Nat → Nat) (ls : ax_L) : List (Nat × Value) := (List.range ls.length).filterMap (fun i => (ax_ld ls i).map (fun v => (i, ax_tv as v)))
theorem ax_ld_iff {ls : ax_L} {i : Nat} {v : Value} : ax_ld ls i = some v ↔ ls[i]? = some (some v) := by
  unfold ax_ld
  cases h : ls[i]? with
  | none => simp
  | some o => simp
theorem ax_lv_mem {as : Nat → Nat} {ls : ax_L} {i : Nat} {v : Value} (h : ls[i]? = some (some v)) : (i, ax_tv as v) ∈ ax_lv as ls := by
  have hi : i < ls.length := (List.getElem?_eq_some_iff.mp h).1
  exact List.mem_filterMap.mpr ⟨i, List.mem_range.mpr hi, by rw [ax_ld_iff.mpr h]; rfl⟩
theorem ax_lr.has {as : Nat → Nat} {ls : ax_L} {a : Array Slot} (h : ax_lr as ls a) : lv_has a ls.length (ax_lv as ls) := by
  refine ⟨h.1, h.2.1, fun q hq => ?_⟩
  obtain ⟨i, -, hi⟩ := List.mem_filterMap.mp hq
  cases hv : ax_ld ls i with
  | none => rw [hv] at hi; cases hi
  | some v =>
    rw [hv] at hi
    cases hi
    exact h.2.2 i v (ax_ld_iff.mp hv)
theorem ax_lr.ld {as : Nat → Nat} {ls : ax_L} {a : Array Slot} (h : ax_lr as ls a) {i : Nat} {v : Value} (hv : ax_ld ls i = some v) : a[i]? = some (.val (ax_tv as v)) := h.2.2 i v (ax_ld_iff.mp hv)
theorem ax_kill_len (ls : ax_L) (i : Nat) : (ax_kill ls i).length = ls.length := by
  unfold ax_kill
  split
  · rfl
  · split
    · split <;> simp
    · rfl
theorem ax_set_len (ls : ax_L) (i : Nat) (v : Value) : (ax_set ls i v).length = ls.length := by
  unfold ax_set
  split <;> simp [ax_kill_len]
theorem ax_kill_get {ls : ax_L} {i j : Nat} {w : Value} (h : (ax_kill ls i)[j]? = some (some w)) : ls[j]? = some (some w) ∧ (j + 1 = i → ¬ w.category = 2) := by
  unfold ax_kill at h
  split at h
  · exact ⟨h, fun q => by omega⟩
  · rename_i k
    split at h
    · rename_i w' hw'
      split at h
      · rename_i hc
        rw [List.getElem?_set] at h
        split at h
        · split at h <;> cases h
        · rename_i hne
          exact ⟨h, fun q => by omega⟩
      · rename_i hc
        refine ⟨h, fun q => ?_⟩
        have : j = k := by omega
        subst this
        rw [hw'] at h
        cases h
        exact hc
    · rename_i hn
      refine ⟨h, fun q => ?_⟩
      have : j = k := by omega
      subst this
      exact absurd h (hn w)
theorem ax_set_get {ls : ax_L} {i j : Nat} {v w : Value} (h : (ax_set ls i v)[j]? = some (some w)) : (j = i ∧ w = v) ∨ (j ≠ i ∧ ls[j]? = some (some w) ∧ (j + 1 = i → ¬ w.category = 2) ∧ (v.category = 2 → j ≠ i + 1)) := by
  unfold ax_set at h
  split at h
  · rw [List.getElem?_set] at h
    split at h
    · split at h <;> cases h
    · rename_i hne
      rw [List.getElem?_set] at h
      split at h
      · rename_i he
        split at h
        · cases h; exact Or.inl ⟨he.symm, rfl⟩
        · cases h
      · rename_i hn2
        obtain ⟨g1, g2⟩ := ax_kill_get h
        exact Or.inr ⟨fun q => hn2 q.symm, g1, g2, fun _ q => hne q.symm⟩
  · rename_i hc
    rw [List.getElem?_set] at h
    split at h
    · rename_i he
      split at h
      · cases h; exact Or.inl ⟨he.symm, rfl⟩
      · cases h
    · rename_i hn2
      obtain ⟨g1, g2⟩ := ax_kill_get h
      exact Or.inr ⟨fun q => hn2 q.symm, g1, g2, fun q => absurd q hc⟩
theorem ax_lr.st1 {as : Nat → Nat} {ls : ax_L} {a' : Array Slot} {i : Nat} {v : Value} (hc : v.category = 1)
    (h : lv_has a' ls.length ((i, ax_tv as v) :: (ax_lv as ls).filter (fun q => !(q.1 == i) && !(q.1 + 1 == i && q.2.category == 2)))) : ax_lr as (ax_set ls i v) a' := by
  refine ⟨by rw [ax_set_len]; exact h.1, h.2.1, fun j w hw => ?_⟩
  rcases ax_set_get hw with ⟨rfl, rfl⟩ | ⟨h1, h2, h3, h4⟩
  · exact h.2.2 _ List.mem_cons_self
  · refine h.2.2 (j, ax_tv as w) (List.mem_cons_of_mem _ (List.mem_filter.mpr ⟨ax_lv_mem h2, ?_⟩))
    simp only [Bool.and_eq_true, Bool.not_eq_true', beq_eq_false_iff_ne, ne_eq, Bool.and_eq_false_imp, beq_iff_eq]
    refine ⟨h1, fun q => ?_⟩
    rw [ax_tv_cat]
    exact h3 q
theorem ax_lr.st2 {as : Nat → Nat} {ls : ax_L} {a' : Array Slot} {i : Nat} {v : Value} (hc : v.category = 2)
    (h : lv_has a' ls.length ((i, ax_tv as v) :: (ax_lv as ls).filter (fun q => !(q.1 == i) && (!(q.1 == i + 1) && !(q.1 + 1 == i && q.2.category == 2))))) : ax_lr as (ax_set ls i v) a' := by
  refine ⟨by rw [ax_set_len]; exact h.1, h.2.1, fun j w hw => ?_⟩
  rcases ax_set_get hw with ⟨rfl, rfl⟩ | ⟨h1, h2, h3, h4⟩
  · exact h.2.2 _ List.mem_cons_self
  · refine h.2.2 (j, ax_tv as w) (List.mem_cons_of_mem _ (List.mem_filter.mpr ⟨ax_lv_mem h2, ?_⟩))
    simp only [Bool.and_eq_true, Bool.not_eq_true', beq_eq_false_iff_ne, ne_eq, Bool.and_eq_false_imp, beq_iff_eq]
    refine ⟨h1, h4 hc, fun q => ?_⟩
    rw [ax_tv_cat]
    exact h3 q
theorem ax_jmp_eq {pc t : Nat} {off : Int} (h : ax_jmp pc off = some t) : (pc : Int) + off = (t : Int) := by
  unfold ax_jmp at h
  split at h
  · cases h; omega
  · cases h
