/-! a text behind a text, in one -/
def t_app (f : Nat → Int32) (k : Nat) (h : Nat → Nat) (i m : Nat) : Nat → Int32 := fun j => if k ≤ j ∧ j < k + m then nI (h (i + (j - k))) else f j
theorem mg_T_self {s : mg_s} {a k : Nat} (hk : s.1 a 1 = nI k) : mg_T s a (s.2.1 (a + 1)) k = s := by
  refine mg_T_ext ?_ ?_ rfl
  · funext b j
    show (if b = a then upd (s.1 b) 1 (nI k) else s.1 b) j = s.1 b j
    by_cases e : b = a
    · subst e; rw [if_pos rfl]; unfold upd
      by_cases e2 : j = 1
      · subst e2; rw [if_pos rfl, hk]
      · rw [if_neg e2]
    · rw [if_neg e]
  · funext b
    show (if b = a + 1 then s.2.1 (a + 1) else s.2.1 b) = s.2.1 b
    by_cases e : b = a + 1
    · subst e; rw [if_pos rfl]
    · rw [if_neg e]
theorem mg_T_T (s : mg_s) (a n m : Nat) (f f' : Nat → Int32) : mg_T (mg_T s a f n) a f' m = mg_T s a f' m := by
  refine mg_T_ext ?_ ?_ rfl
  · funext b j
    show (if b = a then upd (if b = a then upd (s.1 b) 1 (nI n) else s.1 b) 1 (nI m) else (if b = a then upd (s.1 b) 1 (nI n) else s.1 b)) j = (if b = a then upd (s.1 b) 1 (nI m) else s.1 b) j
    by_cases e : b = a
    · rw [if_pos e, if_pos e, if_pos e]; unfold upd
      by_cases e2 : j = 1
      · rw [if_pos e2, if_pos e2]
      · rw [if_neg e2, if_neg e2, if_neg e2]
    · rw [if_neg e, if_neg e, if_neg e]
  · funext b
    show (if b = a + 1 then f' else (if b = a + 1 then f else s.2.1 b)) = (if b = a + 1 then f' else s.2.1 b)
    by_cases e : b = a + 1
    · rw [if_pos e, if_pos e]
    · rw [if_neg e, if_neg e, if_neg e]
theorem t_app_s (f : Nat → Int32) (k : Nat) (h : Nat → Nat) (i m : Nat) : t_app (upd f k (nI (h i))) (k + 1) h (i + 1) m = t_app f k h i (m + 1) := by
  funext j
  unfold t_app upd
  by_cases e : j = k
  · subst e
    rw [if_neg (by omega), if_pos rfl, if_pos (by omega)]
    congr 2
    omega
  · by_cases e2 : k + 1 ≤ j ∧ j < k + 1 + m
    · rw [if_pos e2, if_pos (by omega)]
      congr 2
      omega
    · rw [if_neg e2, if_neg e, if_neg (by omega)]
theorem s_app_eq {a b n2 : Nat} (hne : ¬ b = a) : ∀ (m : Nat) (s : mg_s) (k i : Nat), s.1 a 1 = nI k → s_app a b n2 m s k i = mg_T s a (t_app (s.2.1 (a + 1)) k (t_at s b n2) i m) (k + m) := by
  intro m
  induction m with
  | zero =>
    intro s k i hk
    have e : t_app (s.2.1 (a + 1)) k (t_at s b n2) i 0 = s.2.1 (a + 1) := by
      funext j; unfold t_app; rw [if_neg (by omega)]
    rw [s_app, e]; exact (mg_T_self hk).symm
  | succ m ih =>
    intro s k i hk
    have e1 : (mg_T s a (upd (s.2.1 (a + 1)) k (nI (t_at s b n2 i))) (k + 1)).2.1 (a + 1) = upd (s.2.1 (a + 1)) k (nI (t_at s b n2 i)) := if_pos rfl
    have e2 : t_at (mg_T s a (upd (s.2.1 (a + 1)) k (nI (t_at s b n2 i))) (k + 1)) b n2 = t_at s b n2 := by
      funext j; exact mg_T_at hne
    have e3 : (mg_T s a (upd (s.2.1 (a + 1)) k (nI (t_at s b n2 i))) (k + 1)).1 a 1 = nI (k + 1) := by
      show (if a = a then upd (s.1 a) 1 (nI (k + 1)) else s.1 a) 1 = nI (k + 1)
      rw [if_pos rfl]; rfl
    rw [s_app, ih _ _ _ e3, e1, e2, mg_T_T, t_app_s, show k + 1 + m = k + (m + 1) by omega]
