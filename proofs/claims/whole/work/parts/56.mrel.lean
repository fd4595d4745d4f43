/-! the reference's cells: texts, rows; boolean fields -/
theorem ax_fz {ty : FieldType} (e : ty = .boolean) {x : Int32} (h : x = 0 ∨ x = 1) : ax_fit ty (.int x) = true := by
  subst e
  rcases h with rfl | rfl <;> decide
section PZ
variable {L : Nat} {xs : Nat → Int32} {d mi pc : Nat} {ls : ax_L} {st : List Value} {s : mg_s} {Q : Option Value → mg_s → Prop}
theorem wg_putz {idx a cj k0 : Nat} {fs : List Value} {x : Int32} (hd : decode (ax_code (mgT L xs) mi) pc = .ok (.putfield idx, 3)) (hpl : ax_pl (mgT L xs) mi idx = (1, cj, k0)) (hl : a < 167) (ha : mg_c s a = .inr (cj, fs)) (hk : k0 < fs.length) (ht : ax_fty (mgT L xs) cj k0 = .boolean) (hx : x = 0 ∨ x = 1) (hn : ax_fin (mgT L xs) mi cj k0 = true) (hc : mg_c (mg_I s a k0 x) a = .inr (cj, fs.set k0 (.int x))) (k : wp L xs d mi (pc + 3) ls st (mg_I s a k0 x) Q) : wp L xs d mi pc ls (.int x :: .ref a :: st) s Q :=
  wp_up (fun h o S k => ag_put hd hpl (by rw [S.1 a hl, ha]) (Nat.lt_of_lt_of_le hl S.2.1) hk (ax_fz ht hx) hn k) hc mg_I_ne (fun q => q) k
end PZ
/-- the ints of the array a from z on are the letters l -/
def holdA (s : mg_s) (a z : Nat) (l : List Nat) : Prop := okc l ∧ ∀ i, i < l.length → s.2.1 a (z + i) = nI (gl l i)
theorem holdA_of {s s' : mg_s} {a z : Nat} {l : List Nat} (h : holdA s a z l) (h1 : s'.2.1 a = s.2.1 a) : holdA s' a z l := ⟨h.1, fun i hi => by rw [h1]; exact h.2 i hi⟩
/-- how long a row's text is -/
def rowsz (q : rowT) : Nat := if q.1 ≤ 2 then q.2.1.length + 1 + q.2.2.1.length else q.2.1.length
def isRowM (s : mg_s) (k : Nat) (q : rowT) : Prop := s.2.1 143 k = nI q.1 ∧ s.2.1 146 k = nI q.2.1.length ∧ s.2.1 145 k = nI (rowsz q) ∧ s.2.1 147 k = q.2.2.2 ∧ holdA s 144 (100 * k) q.2.1 ∧ holdA s 144 (100 * k + (q.2.1.length + 1)) q.2.2.1
/-- a row that the class lets in -/
def okrow (q : rowT) : Prop := q.1 ≤ 4 ∧ t_name (gl q.2.1) 0 q.2.1.length = true ∧ (q.1 ≤ 2 → 1 ≤ q.2.2.1.length) ∧ (2 < q.1 → q.2.2.1 = []) ∧ (q.1 = 1 → t_name (gl q.2.2.1) 0 q.2.2.1.length = true) ∧ rowsz q ≤ 100 ∧ (∀ x ∈ q.2.1, 32 ≤ x ∧ x < 127) ∧ (∀ x ∈ q.2.2.1, 32 ≤ x ∧ x < 127)
def isTabM (s : mg_s) (R : List rowT) : Prop := s.1 141 3 = nI R.length ∧ R.length ≤ 16 ∧ ∀ k q, R[k]? = some q → isRowM s k q ∧ okrow q
theorem isRowM_of {s s' : mg_s} {k : Nat} {q : rowT} (h : isRowM s k q) (h1 : ∀ a, 143 ≤ a → a ≤ 147 → s'.2.1 a = s.2.1 a) : isRowM s' k q := by
  obtain ⟨q1, q2, q3, q4, q5, q6⟩ := h
  exact ⟨by rw [h1 143 (by omega) (by omega)]; exact q1, by rw [h1 146 (by omega) (by omega)]; exact q2, by rw [h1 145 (by omega) (by omega)]; exact q3, by rw [h1 147 (by omega) (by omega)]; exact q4, holdA_of q5 (h1 144 (by omega) (by omega)), holdA_of q6 (h1 144 (by omega) (by omega))⟩
theorem isTabM_of {s s' : mg_s} {R : List rowT} (h : isTabM s R) (h0 : s'.1 141 3 = s.1 141 3) (h1 : ∀ a, 143 ≤ a → a ≤ 147 → s'.2.1 a = s.2.1 a) : isTabM s' R :=
  ⟨by rw [h0]; exact h.1, h.2.1, fun k q hk => ⟨isRowM_of (h.2.2 k q hk).1 h1, (h.2.2 k q hk).2⟩⟩
theorem t_name_len {g : Nat → Nat} {i j : Nat} (h : t_name g i j = true) : i < j ∧ j ≤ i + 48 := by
  unfold t_name at h
  rw [Bool.and_eq_true, decide_eq_true_eq] at h
  refine ⟨?_, h.1⟩
  have h2 := h.2
  by_cases e : i < j
  · exact e
  · rw [show j - i = 0 by omega] at h2
    cases h2
