/-! a run that reads no script is a run at any script -/
section AX6
variable {m : Nat → MethodName × ByteArray × Nat × Option FieldType} {pl : Nat → Nat → Nat × Nat × Nat} {cl : List vw_C} {ft : Nat → Nat → FieldType} {ty : List FieldType} {hs : Nat → List (Nat × Nat × Nat × Nat)} {sc : Option (Nat × (Nat → Int32))}
variable {mi pc : Nat} {i : Instr} {ls : ax_L} {st : List Value} {h : ax_H}
theorem ax_ald_up {i : Instr} {j : Int32} {a : Nat} {r : List Value} {q : ax_S} (hp : ax_ald (m, pl, cl, ft, ty, hs, none) i j a pc ls r h = some q) : ax_ald (m, pl, cl, ft, ty, hs, sc) i j a pc ls r h = some q := by
  unfold ax_ald at hp ⊢
  split at hp
  · unfold ax_scr at hp
    split at hp <;> cases hp
  · rename_i hb
    rw [if_neg hb]
    exact hp
theorem ax_ald_no {i : Instr} {j : Int32} {a : Nat} {r : List Value} (hi : i ≠ .iaload) (hp : ax_ald (m, pl, cl, ft, ty, hs, none) i j a pc ls r h = none) : ax_ald (m, pl, cl, ft, ty, hs, sc) i j a pc ls r h = none := by
  unfold ax_ald at hp ⊢
  split at hp
  · rename_i hb
    rw [if_pos hb]
    unfold ax_scr
    split
    · exact absurd rfl hi
    · rfl
  · rename_i hb
    rw [if_neg hb]
    exact hp
theorem ax_alen_up {a : Nat} {r : List Value} {q : ax_S} (hp : ax_alen (m, pl, cl, ft, ty, hs, none) a pc ls r h = some q) : ax_alen (m, pl, cl, ft, ty, hs, sc) a pc ls r h = some q := by
  unfold ax_alen at hp ⊢
  split at hp
  · cases hp
  · rename_i hb
    rw [if_neg hb]
    exact hp
theorem ax_mem_up {q : ax_S} (hp : ax_mem (m, pl, cl, ft, ty, hs, none) mi i pc ls st h = some q) : ax_mem (m, pl, cl, ft, ty, hs, sc) mi i pc ls st h = some q := by
  unfold ax_mem at hp
  split at hp
  · exact hp
  · exact hp
  · exact ax_ald_up hp
  · exact ax_ald_up hp
  · exact ax_ald_up hp
  · exact ax_ald_up hp
  · exact hp
  · exact hp
  · exact hp
  · exact hp
  · exact ax_alen_up hp
  · exact hp
  · exact hp
  · exact hp
  · exact hp
  · exact hp
  · cases hp
theorem ax_mem_no (h1 : i ≠ .iaload) (h2 : i ≠ .arraylength) (hp : ax_mem (m, pl, cl, ft, ty, hs, none) mi i pc ls st h = none) : ax_mem (m, pl, cl, ft, ty, hs, sc) mi i pc ls st h = none := by
  unfold ax_mem at hp ⊢
  split at hp
  · exact hp
  · exact hp
  · exact absurd rfl h1
  · exact ax_ald_no (by decide) hp
  · exact ax_ald_no (by decide) hp
  · exact ax_ald_no (by decide) hp
  · exact hp
  · exact hp
  · exact hp
  · exact hp
  · exact absurd rfl h2
  · exact hp
  · exact hp
  · exact hp
  · exact hp
  · exact hp
  · exact hp
theorem ax_loop_up {cf cf' : Nat → List Value → ax_H → Option ax_O} (hcf : ∀ mj av h o, cf mj av h = some o → cf' mj av h = some o) : ∀ (n pc : Nat) (ls : ax_L) (st : List Value) (h : ax_H) (o : ax_O), ax_loop (m, pl, cl, ft, ty, hs, none) cf mi n pc ls st h = some o → ax_loop (m, pl, cl, ft, ty, hs, sc) cf' mi n pc ls st h = some o := by
  intro n
  induction n with
  | zero => intro pc ls st h o hr; cases hr
  | succ n ih =>
    intro pc ls st h o hr
    rw [ax_loop] at hr ⊢
    split at hr
    · rename_i i len hd
      have hd' : decode (ax_code (m, pl, cl, ft, ty, hs, sc) mi) pc = .ok (i, len) := hd
      rw [hd']
      dsimp only
      split at hr
      · exact ih _ _ _ _ _ hr
      · split at hr
        · rename_i hlen
          simp only [if_pos hlen]
          split at hr
          · rename_i hm
            simp only [ax_mem_up (sc := sc) hm]
            exact ih _ _ _ _ _ hr
          · rename_i hm
            by_cases h1 : i = .iaload
            · subst h1
              exact absurd hr (by simp [ax_inv, ax_pri, ax_thr, ax_ret])
            by_cases h2 : i = .arraylength
            · subst h2
              exact absurd hr (by simp [ax_inv, ax_pri, ax_thr, ax_ret])
            simp only [ax_mem_no (sc := sc) h1 h2 hm]
            split at hr
            · rename_i mj av r hi
              have hi' : ax_inv (m, pl, cl, ft, ty, hs, sc) mi i st h = some (mj, av, r) := hi
              simp only [hi']
              split at hr
              · rename_i hc
                simp only [hcf _ _ _ _ hc]
                exact ih _ _ _ _ _ hr
              · rename_i x h' hc
                simp only [hcf _ _ _ _ hc]
                split at hr
                · rename_i hcv
                  have hcv' : ax_cv (m, pl, cl, ft, ty, hs, sc) mi i = true := hcv
                  simp only [hcv', if_true]
                  split at hr
                  · rename_i pc' hh
                    have hh' : ax_hd (m, pl, cl, ft, ty, hs, sc) mi pc x = some pc' := hh
                    simp only [hh']
                    exact ih _ _ _ _ _ hr
                  · cases hr
                · cases hr
              · cases hr
            · rename_i hi
              have hi' : ax_inv (m, pl, cl, ft, ty, hs, sc) mi i st h = none := hi
              simp only [hi']
              split at hr
              · rename_i pc' st' hq
                have hq' : ax_pri (m, pl, cl, ft, ty, hs, sc) mi i pc st = some (pc', st') := hq
                simp only [hq']
                exact ih _ _ _ _ _ hr
              · rename_i hq
                have hq' : ax_pri (m, pl, cl, ft, ty, hs, sc) mi i pc st = none := hq
                simp only [hq']
                exact hr
        · cases hr
    · cases hr
theorem ax_call_up : ∀ (d n mi : Nat) (av : List Value) (h : ax_H) (o : ax_O), ax_call (m, pl, cl, ft, ty, hs, none) d n mi av h = some o → ax_call (m, pl, cl, ft, ty, hs, sc) d n mi av h = some o := by
  intro d
  induction d with
  | zero => intro n mi av h o hr; cases hr
  | succ d ih =>
    intro n mi av h o hr
    obtain ⟨hl, h1, h2⟩ := ax_call_spec hr
    have hl' : (ax_sl av).length ≤ ax_mx (m, pl, cl, ft, ty, hs, sc) mi := hl
    rw [ax_call, if_pos hl']
    have := ax_loop_up (sc := sc) (fun mj av h o => ih n mj av h o) n 0 (ax_entry (m, pl, cl, ft, ty, hs, none) mi av) [] h o h1
    have e : ax_loop (m, pl, cl, ft, ty, hs, sc) (ax_call (m, pl, cl, ft, ty, hs, sc) d n) mi n 0 (ax_entry (m, pl, cl, ft, ty, hs, sc) mi av) [] h = some o := this
    rw [e, Option.filter_eq_some_iff]
    exact ⟨rfl, h2⟩
end AX6
