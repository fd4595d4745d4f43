theorem dig46 : ¬ c_dig 46 = true := by decide
theorem f_digs_ex {g : Nat → Nat} : ∀ (m' i : Nat), ∃ m, m ≤ m' ∧ (∀ j, i ≤ j → j < i + m → c_dig (g j) = true) ∧ (m = m' ∨ ¬ c_dig (g (i + m)) = true) := by
  intro m'
  induction m' with
  | zero => intro i; exact ⟨0, Nat.le_refl _, fun j h1 h2 => by omega, Or.inl rfl⟩
  | succ m' ih =>
    intro i
    by_cases h : c_dig (g i) = true
    · obtain ⟨m, h1, h2, h3⟩ := ih (i + 1)
      refine ⟨m + 1, by omega, fun j a b => ?_, ?_⟩
      · by_cases e : j = i
        · subst e; exact h
        · exact h2 j (by omega) (by omega)
      · rcases h3 with h3 | h3
        · exact Or.inl (by omega)
        · exact Or.inr (by rw [show i + (m + 1) = i + 1 + m by omega]; exact h3)
    · exact ⟨0, by omega, fun j h1 h2 => by omega, Or.inr h⟩
theorem num_A {g : Nat → Nat} {to st b : Nat} (hst : st ≤ to) (h : t_num g st (f_find g 46 st (to - st)) 255 = some b) : (r_dg g to st).2 = f_find g 46 st (to - st) ∧ r_num g st 255 (r_dg g to st) = some b := by
  obtain ⟨a1, a2, a3, a4⟩ := f_find_s (g := g) (c := 46) (to - st) st
  generalize f_find g 46 st (to - st) = e at *
  rw [t_num] at h
  split at h
  · cases h
  · rename_i hc
    have hall : ∀ j, st ≤ j → j < st + (e - st) → c_dig (g j) = true := Classical.byContradiction (fun q => by rw [f_num_no _ _ _ q] at h; cases h)
    rw [f_num_val _ _ _ hall] at h
    split at h
    · rename_i hv
      cases h
      have hr : r_dg g to st = (f_val g 0 st (e - st), st + (e - st)) := by
        unfold r_dg
        refine f_digs_run _ _ _ _ hall (by split <;> omega) ?_
        by_cases he : e < to
        · right; rw [show st + (e - st) = e by omega, a4 (by omega)]; exact dig46
        · left; split <;> omega
      rw [hr]
      refine ⟨by show st + (e - st) = e; omega, ?_⟩
      rw [r_num, if_neg (by show ¬ (st + (e - st) = st ∨ 255 < f_val g 0 st (e - st) ∨ (st + 1 < st + (e - st) ∧ g st = 48)); omega)]
    · cases h
theorem num_B {g : Nat → Nat} {to st : Nat} (hst : st ≤ to) (h : t_num g st (f_find g 46 st (to - st)) 255 = none) : r_num g st 255 (r_dg g to st) = none ∨ ((r_dg g to st).2 < to ∧ ¬ g (r_dg g to st).2 = 46) := by
  obtain ⟨a1, a2, a3, a4⟩ := f_find_s (g := g) (c := 46) (to - st) st
  generalize f_find g 46 st (to - st) = e at *
  obtain ⟨m, h1, h2, h3⟩ := f_digs_ex (g := g) ((if st + 3 ≤ to then st + 3 else to) - st) st
  have hr : r_dg g to st = (f_val g 0 st m, st + m) := f_digs_run _ _ _ _ h2 h1 h3
  have hm : m ≤ 3 ∧ st + m ≤ to := by split at h1 <;> omega
  rw [hr]
  by_cases hq : st + m = st ∨ 255 < f_val g 0 st m ∨ (st + 1 < st + m ∧ g st = 48)
  · left; rw [r_num, if_pos hq]
  · right
    have hne : ¬ st + m = e := by
      intro hh
      rw [t_num, if_neg (by omega), show e - st = m by omega, f_num_val _ _ _ h2, if_pos (by omega)] at h
      cases h
    have hlt : st + m < e := by
      rcases Nat.lt_or_ge e (st + m) with q | q
      · have := h2 e a1 q
        rw [a4 (by omega)] at this
        exact absurd this dig46
      · omega
    exact ⟨by show st + m < to; omega, a3 (st + m) (by omega) hlt⟩
