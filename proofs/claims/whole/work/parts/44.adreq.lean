/-! class and reference read the same addresses -/
theorem f_find_s {g : Nat → Nat} {c : Nat} : ∀ (m i : Nat), i ≤ f_find g c i m ∧ f_find g c i m ≤ i + m ∧ (∀ j, i ≤ j → j < f_find g c i m → ¬ g j = c) ∧ (f_find g c i m < i + m → g (f_find g c i m) = c) := by
  intro m
  induction m with
  | zero => intro i; rw [f_find]; exact ⟨by omega, by omega, fun j h1 h2 => by omega, fun h => by omega⟩
  | succ m ih =>
    intro i
    rw [f_find]
    by_cases h : g i = c
    · rw [if_pos h]; exact ⟨by omega, by omega, fun j h1 h2 => by omega, fun _ => h⟩
    · rw [if_neg h]
      obtain ⟨a1, a2, a3, a4⟩ := ih (i + 1)
      refine ⟨by omega, by omega, fun j h1 h2 => ?_, fun q => a4 (by omega)⟩
      by_cases e : j = i
      · subst e; exact h
      · exact a3 j (by omega) h2
theorem f_addr_seg {g : Nat → Nat} {to acc cnt st : Nat} : ∀ (m i : Nat), i + m = to → f_addr g to (m + 1) acc cnt st i = (match t_num g st (f_find g 46 i m) 255 with
      | none => none
      | some b => if cnt = 4 then none else f_addr g to (to - f_find g 46 i m) (acc * 256 + b) (cnt + 1) (f_find g 46 i m + 1) (f_find g 46 i m + 1)) := by
  intro m
  induction m with
  | zero =>
    intro i hi
    rw [f_addr, if_pos (Or.inl (by omega)), f_find, show to - i = 0 by omega]
    cases t_num g st i 255 <;> rfl
  | succ m ih =>
    intro i hi
    rw [f_find]
    by_cases h : g i = 46
    · rw [if_pos h, f_addr, if_pos (Or.inr h), show to - i = m + 1 by omega]
      cases t_num g st i 255 <;> rfl
    · rw [if_neg h, f_addr, if_neg (by omega), ih (i + 1) (by omega)]
def f_val (g : Nat → Nat) : Nat → Nat → Nat → Nat
  | v, _, 0 => v
  | v, i, m + 1 => f_val g (v * 10 + (g i - 48)) (i + 1) m
theorem f_num_val {g : Nat → Nat} {most : Nat} : ∀ (m v i : Nat), (∀ j, i ≤ j → j < i + m → c_dig (g j) = true) → f_num g most v i m = if f_val g v i m ≤ most then some (f_val g v i m) else none := by
  intro m
  induction m with
  | zero => intro v i _; rfl
  | succ m ih =>
    intro v i h
    have hd := dig_le (h i (by omega) (by omega))
    show _ = if f_val g (v * 10 + (g i - 48)) (i + 1) m ≤ most then some (f_val g (v * 10 + (g i - 48)) (i + 1) m) else none
    rw [f_num, if_pos hd]
    exact ih _ _ (fun j h1 h2 => h j (by omega) (by omega))
theorem f_num_no {g : Nat → Nat} {most : Nat} : ∀ (m v i : Nat), ¬ (∀ j, i ≤ j → j < i + m → c_dig (g j) = true) → f_num g most v i m = none := by
  intro m
  induction m with
  | zero => intro v i h; exact absurd (fun j h1 h2 => by omega) h
  | succ m ih =>
    intro v i h
    rw [f_num]
    by_cases hd : 48 ≤ g i ∧ g i ≤ 57
    · rw [if_pos hd]
      refine ih _ _ (fun q => h (fun j h1 h2 => ?_))
      by_cases e : j = i
      · subst e; unfold c_dig; rw [decide_eq_true hd.1, decide_eq_true hd.2]; rfl
      · exact q j (by omega) (by omega)
    · rw [if_neg hd]
theorem f_digs_run {g : Nat → Nat} : ∀ (m' m v i : Nat), (∀ j, i ≤ j → j < i + m → c_dig (g j) = true) → m ≤ m' → (m = m' ∨ ¬ c_dig (g (i + m)) = true) → f_digs g v i m' = (f_val g v i m, i + m) := by
  intro m'
  induction m' with
  | zero => intro m v i _ h _; have : m = 0 := by omega
            subst this; rfl
  | succ m' ih =>
    intro m v i h hm he
    cases m with
    | zero => rw [f_digs, if_neg (by rcases he with h | h; omega; exact h)]; rfl
    | succ m =>
      have hd := h i (by omega) (by omega)
      have hl := dig_le hd
      show _ = (f_val g (v * 10 + (g i - 48)) (i + 1) m, i + (m + 1))
      have hx : m = m' ∨ ¬ c_dig (g (i + 1 + m)) = true := by
        rcases he with h | h
        · exact Or.inl (by omega)
        · exact Or.inr (by rw [show i + 1 + m = i + (m + 1) by omega]; exact h)
      rw [f_digs, if_pos hd, ih m _ _ (fun j h1 h2 => h j (by omega) (by omega)) (by omega) hx, show 10 * v + g i - 48 = v * 10 + (g i - 48) by omega, show i + 1 + m = i + (m + 1) by omega]
