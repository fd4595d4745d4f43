/-! texts as lists; the table's rows -/
def gl (l : List Nat) (i : Nat) : Nat := l.getD i 0
def okc (l : List Nat) : Prop := ∀ x ∈ l, x < 128
/-- the text at a holds the letters l -/
def hold (s : mg_s) (a : Nat) (l : List Nat) : Prop := isTx s a l.length ∧ okc l ∧ ∀ i, i < l.length → s.2.1 (a + 1) i = nI (gl l i)
theorem gl_lt {l : List Nat} (h : okc l) (i : Nat) : gl l i < 128 := by
  unfold gl
  by_cases e : i < l.length
  · have : l.getD i 0 = l[i] := by simp [List.getD, e]
    rw [this]; exact h _ (List.getElem_mem e)
  · have : l.getD i 0 = 0 := by simp [List.getD, e]
    rw [this]; decide
theorem gl_out {l : List Nat} {i : Nat} (h : l.length ≤ i) : gl l i = 0 := by
  unfold gl
  simp [List.getD, h]
theorem hold_at {s : mg_s} {a : Nat} {l : List Nat} (h : hold s a l) : t_at s a l.length = gl l := by
  funext i
  unfold t_at
  by_cases e : i < l.length
  · rw [if_pos e, h.2.2 i e]
    exact nI_nat (by have := gl_lt h.2.1 i; omega)
  · rw [if_neg e, gl_out (by omega)]
theorem hold_of {s s' : mg_s} {a : Nat} {l : List Nat} (h : hold s a l) (h1 : s'.1 a = s.1 a) (h2 : s'.2.1 (a + 1) = s.2.1 (a + 1)) : hold s' a l :=
  ⟨⟨by rw [h1]; exact h.1.1, h.1.2⟩, h.2.1, fun i hi => by rw [h2]; exact h.2.2 i hi⟩
theorem gl_ext {l m : List Nat} (hn : l.length = m.length) (h : ∀ i, i < l.length → gl l i = gl m i) : l = m := by
  apply List.ext_getElem hn
  intro i h1 h2
  have := h i h1
  unfold gl at this
  simpa [List.getD, h1, h2] using this
theorem f_same_iff {g k : Nat → Nat} : ∀ (m i j : Nat), f_same g k i j m = true ↔ ∀ q, q < m → g (i + q) = k (j + q) := by
  intro m
  induction m with
  | zero => intro i j; exact ⟨fun _ q hq => by omega, fun _ => rfl⟩
  | succ m ih =>
    intro i j
    rw [f_same, Bool.and_eq_true, decide_eq_true_eq, ih]
    constructor
    · rintro ⟨h1, h2⟩ q hq
      cases q with
      | zero => exact h1
      | succ q => have := h2 q (by omega); rw [show i + (q + 1) = i + 1 + q by omega, show j + (q + 1) = j + 1 + q by omega]; exact this
    · intro h
      refine ⟨h 0 (by omega), fun q hq => ?_⟩
      have := h (q + 1) (by omega)
      rw [show i + (q + 1) = i + 1 + q by omega, show j + (q + 1) = j + 1 + q by omega] at this
      exact this
theorem t_same_eq (l m : List Nat) : t_same (gl l) 0 l.length (gl m) 0 m.length = decide (l = m) := by
  unfold t_same
  by_cases e : l = m
  · subst e
    simp only [decide_true, Bool.true_and]
    exact (f_same_iff _ _ _).mpr (fun q _ => rfl)
  · rw [decide_eq_false e]
    by_cases hn : l.length = m.length
    · rw [show decide (l.length - 0 = m.length - 0) = true from decide_eq_true (by omega), Bool.true_and]
      cases hf : f_same (gl l) (gl m) 0 0 (l.length - 0) with
      | false => rfl
      | true =>
        exfalso
        apply e
        refine gl_ext hn (fun i hi => ?_)
        have := (f_same_iff _ _ _).mp hf i (by omega)
        simpa using this
    · rw [show decide (l.length - 0 = m.length - 0) = false from decide_eq_false (by omega)]; rfl
abbrev rowT : Type := Nat × List Nat × List Nat × Int32
/-- the row at r is q: its kind, its name, its data, its address -/
def isRow (s : mg_s) (r : Nat) (q : rowT) : Prop := s.1 r 0 = nI q.1 ∧ q.1 ≤ 4 ∧ hold s (r + 1) q.2.1 ∧ hold s (r + 3) q.2.2.1 ∧ s.1 r 3 = q.2.2.2
theorem rw_form : ∀ r, r < 167 → (mg_sh.getD r (0, 0)).1 = 2 → (r - 7) % 5 = 0 := by decide +kernel
theorem rw_apart {r q : Nat} (H : isR r) (K : isR q) (h : ¬ r = q) : r + 5 ≤ q ∨ q + 5 ≤ r := by
  have h1 := rw_form r H.1 H.2
  have h2 := rw_form q K.1 K.2
  have h3 := rw_lt H
  have h4 := rw_lt K
  omega
theorem isRow_of {s s' : mg_s} {r : Nat} {q : rowT} (h : isRow s r q) (h1 : ∀ a, r ≤ a → a ≤ r + 4 → s'.1 a = s.1 a ∧ s'.2.1 a = s.2.1 a) : isRow s' r q := by
  obtain ⟨q1, q2, q3, q4, q5⟩ := h
  refine ⟨by rw [(h1 r (by omega) (by omega)).1]; exact q1, q2, hold_of q3 (h1 _ (by omega) (by omega)).1 (h1 _ (by omega) (by omega)).2, hold_of q4 (h1 _ (by omega) (by omega)).1 (h1 _ (by omega) (by omega)).2, by rw [(h1 r (by omega) (by omega)).1]; exact q5⟩
/-- the table: p says where the rows are -/
def isTab (s : mg_s) (p : Nat → Nat) (R : List rowT) : Prop := s.1 3 1 = nI R.length ∧ R.length ≤ 16 ∧ (∀ k, k < 16 → s.2.2.1 k = some (p k) ∧ isR (p k)) ∧ (∀ j k, j < 16 → k < 16 → p j = p k → j = k) ∧ ∀ k q, R[k]? = some q → isRow s (p k) q
theorem isTab_of {s s' : mg_s} {p : Nat → Nat} {R : List rowT} (h : isTab s p R) (h0 : s'.1 3 = s.1 3) (h1 : ∀ a, 7 ≤ a → a < 87 → s'.1 a = s.1 a ∧ s'.2.1 a = s.2.1 a) (h2 : s'.2.2.1 = s.2.2.1) : isTab s' p R := by
  obtain ⟨q1, q2, q3, q4, q5⟩ := h
  refine ⟨by rw [h0]; exact q1, q2, by rw [h2]; exact q3, q4, fun k q hk => isRow_of (q5 k q hk) (fun a ha hb => ?_)⟩
  have hk16 : k < 16 := Nat.lt_of_lt_of_le (List.getElem?_eq_some_iff.mp hk).1 q2
  have := rw_lt (q3 k hk16).2
  exact h1 a (by omega) (by omega)
