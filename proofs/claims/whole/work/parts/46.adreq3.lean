def a_end (to : Nat) (o : Option (Nat × Nat)) : Option Nat := o.bind (fun p => if p.2 = to then some p.1 else none)
theorem r_addr_off {g : Nat → Nat} {to v k : Nat} (hk : k < to) (hg : ¬ g k = 46) : ∀ m, m ≤ 3 → a_end to (r_addr g to m v k) = none := by
  intro m hm
  cases m with
  | zero => rw [r_addr]; exact if_neg (by show ¬ k = to; omega)
  | succ m => rw [r_addr, if_pos ⟨by omega, Or.inr hg⟩]; rfl
theorem r_addr_one {g : Nat → Nat} {to v st cnt m : Nat} (hst : st ≤ to) (hm : m ≤ 3) (hc : cnt + 1 = 4 - m)
    (ih : ∀ acc k, (k = to ∨ k < to ∧ g k = 46) → f_addr g to (to - k) acc (4 - m) (k + 1) (k + 1) = a_end to (r_addr g to m acc k)) :
    f_addr g to (to - st + 1) v cnt st st = a_end to (match r_num g st 255 (r_dg g to st) with
      | none => none
      | some b => r_addr g to m (v * 256 + b) (r_dg g to st).2) := by
  rw [f_addr_seg (to - st) st (by omega)]
  cases h : t_num g st (f_find g 46 st (to - st)) 255 with
  | none =>
    rcases num_B hst h with q | ⟨q1, q2⟩
    · rw [q]; rfl
    · cases r_num g st 255 (r_dg g to st) with
      | none => rfl
      | some b => exact (r_addr_off q1 q2 m hm).symm
  | some b =>
    obtain ⟨q1, q2⟩ := num_A hst h
    obtain ⟨a1, a2, a3, a4⟩ := f_find_s (g := g) (c := 46) (to - st) st
    rw [q2, q1]
    show (if cnt = 4 then none else _) = a_end to (r_addr g to m (v * 256 + b) (f_find g 46 st (to - st)))
    rw [if_neg (by omega), hc]
    refine ih _ _ ?_
    by_cases e : f_find g 46 st (to - st) = to
    · exact Or.inl e
    · exact Or.inr ⟨by omega, a4 (by omega)⟩
theorem adr_eq {g : Nat → Nat} {to : Nat} : ∀ m, m ≤ 3 → ∀ acc k, (k = to ∨ k < to ∧ g k = 46) → f_addr g to (to - k) acc (4 - m) (k + 1) (k + 1) = a_end to (r_addr g to m acc k) := by
  intro m
  induction m with
  | zero =>
    intro _ acc k hk
    rcases hk with rfl | ⟨h1, h2⟩
    · rw [show k - k = 0 by omega, f_addr, if_pos rfl, r_addr]; exact (if_pos rfl).symm
    · rw [show to - k = to - (k + 1) + 1 by omega, f_addr_seg (to - (k + 1)) (k + 1) (by omega), r_addr]
      refine Eq.trans ?_ (show none = a_end to (some (acc, k)) from (if_neg (by show ¬ k = to; omega)).symm)
      cases t_num g (k + 1) (f_find g 46 (k + 1) (to - (k + 1))) 255 <;> rfl
  | succ m ih =>
    intro hm acc k hk
    rcases hk with rfl | ⟨h1, h2⟩
    · rw [show k - k = 0 by omega, f_addr, if_neg (by omega), r_addr, if_pos ⟨by omega, Or.inl (Nat.le_refl _)⟩]; rfl
    · rw [show to - k = to - (k + 1) + 1 by omega, r_addr_one (m := m) (by omega) (by omega) (by omega) (ih (by omega)), r_addr, if_neg (by omega), if_pos (show m < 3 by omega)]
      cases r_num g (k + 1) 255 (r_dg g to (k + 1)) <;> rfl
/-- what the class reads is what the reference reads, if it ends where it must -/
theorem adr_same {g : Nat → Nat} {fr to : Nat} (h : fr ≤ to) : f_addr g to (to + 1 - fr) 0 0 fr fr = a_end to (r_addr g to 4 0 fr) := by
  rw [show to + 1 - fr = to - fr + 1 by omega, r_addr_one (m := 3) h (by omega) (by omega) (adr_eq 3 (by omega)), r_addr, if_neg (by omega), if_neg (show ¬ 3 < 3 by omega)]
  cases r_num g fr 255 (r_dg g to fr) <;> rfl
