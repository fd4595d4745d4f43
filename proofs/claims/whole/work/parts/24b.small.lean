/-! small rows that walks by program use -/
theorem ax_fi {ty : FieldType} (e : ty = .int) (x : Int32) : ax_fit ty (.int x) = true := by
  subst e
  show (decide (Value.int x = Value.int x) && true) = true
  rw [decide_eq_true rfl]; rfl
theorem ty_sv (m : Nat) : nI (8 * (m + 1)) - 8 = nI (8 * m) := by
  have h := pk_sub (a := 8 * (m + 1)) (b := 8) (by omega)
  rw [show 8 * (m + 1) - 8 = 8 * m by omega] at h
  exact h
theorem ty_dec (x : Int32) : x + Int32.ofInt (-8) = x - 8 := by rw [Int32.sub_eq_add_neg]; rfl
theorem ty_s1 (m : Nat) : nI (m + 1) - 1 = nI m := by
  have h := pk_sub (a := m + 1) (b := 1) (by omega)
  rw [show m + 1 - 1 = m by omega] at h
  exact h
theorem ty_d1 (x : Int32) : x + Int32.ofInt (-1) = x - 1 := by rw [Int32.sub_eq_add_neg]; rfl
