/-! the String constants at the start -/
theorem sx_f_of {args : Array Value} {s : State} {t : Jvm.Term} {a : Nat} {n d : String} {v : Value} (ht : t.eval args s none [] s = some (.ref a)) (hv : (Jvm.Term.field t Lib.str n d).eval args s none [] s = some v) : sx_f n d v a s s.heap := by
  cases hfo : s.fieldFound? Lib.str n d with
  | none =>
    rw [va_fe ht] at hv
    simp [State.fieldOf?, State.fieldNamed?, hfo] at hv
  | some x =>
    obtain ⟨cf, k, fi, f⟩ := x
    obtain ⟨g1, cell, g2, g3, g4, g5, g6⟩ := Term.field_spec hfo ht hv
    exact ⟨cf, k, fi, f, cell, hfo, g1, g2, g3, g4, g5, g6⟩
def sx_ws (q : String × Nat × String × List Nat) : List Jvm.Cond := [.exactly (.string q.1 q.2.1) Lib.str, .eq (.field (.string q.1 q.2.1) Lib.str "coder" "B") (.int 0), .arrayOf (.field (.string q.1 q.2.1) Lib.str "value" "[B") .byte, .eq (.length (.field (.string q.1 q.2.1) Lib.str "value" "[B")) (.int (Int32.ofNat q.2.2.2.length))] ++ (List.range q.2.2.2.length).map (fun j => .eq (.elem (.field (.string q.1 q.2.1) Lib.str "value" "[B") (.int (Int32.ofNat j))) (.int (nI (q.2.2.2.getD j 0))))
theorem sx_k_of {args : Array Value} {s : State} {q : String × Nat × String × List Nat} (hl : q.2.2.2.length < 2 ^ 31) (h128 : ∀ x ∈ q.2.2.2, x < 128) (hSR : (Jvm.Cond.stringRef q.1 q.2.1 q.2.2.1).before args s = true) (hw : ∀ w ∈ sx_ws q, w.before args s = true) :
    ∃ a, a < s.heap.size ∧ vk_R q.1 q.2.1 q.2.2.1 a s ∧ sx_k s.heap.size a q.2.2.2 s s.heap := by
  have w0 := hw _ (List.mem_append_left _ (List.mem_of_getElem? (i := 0) rfl))
  have w1 := hw _ (List.mem_append_left _ (List.mem_of_getElem? (i := 1) rfl))
  have w2 := hw _ (List.mem_append_left _ (List.mem_of_getElem? (i := 2) rfl))
  have w3 := hw _ (List.mem_append_left _ (List.mem_of_getElem? (i := 3) rfl))
  have w4 : ∀ j : Nat, j < q.2.2.2.length → (Jvm.Cond.eq (.elem (.field (.string q.1 q.2.1) Lib.str "value" "[B") (.int (Int32.ofNat j))) (.int (nI (q.2.2.2.getD j 0)))).before args s = true := fun j hj => hw _ (List.mem_append_right _ (List.mem_map.mpr ⟨j, List.mem_range.mpr hj, rfl⟩))
  obtain ⟨a, c, cA, kA, q1, q2, q3, q4, q5, q6, q7⟩ := Cond.exactly_spec (args := args) (first := s) (o := none) (s := s) (idx := []) w0
  obtain ⟨t, ht, cT, t1, t2, t3, t4, t5, t6, -⟩ := va_Tof (f := fun j => .int (nI (q.2.2.2.getD j 0))) (A := fun _ => False) hl w2 (va_eqt w3) (fun j hj => va_eqt (w4 j hj)) (fun _ _ h => h)
  have ha := (Array.getElem?_eq_some_iff.mp q3).1
  exact ⟨a, ha, vk_R.of hSR q1, ha, ⟨cA, kA, q3, by rw [q6]; exact q2, by rw [q6]; exact q4, q5, q7⟩, sx_f_of q1 (va_eqt w1), hl, h128, t, cT, (Array.getElem?_eq_some_iff.mp t1).1, sx_f_of q1 ht, t1, t2, t3, t4, t5, t6⟩
theorem sx_st_of {args : Array Value} {s : State} {C n d : String} {v : Value} (hl : (Jvm.Cond.laysStatic C n d).before args s = true) (hi : (Jvm.Cond.initialized C).before args s = true) (hv : (Jvm.Term.static C n d).eval args s none [] s = some v) : sx_st C n d v s.heap.size s s.heap := by
  obtain ⟨c, k, i, f, a, cell, h1, h2, h3, h4, h5, h6, h7, h8, h9⟩ := Cond.laysStatic_spec hl
  obtain ⟨g1, a', cell', g2, g3, g4, g5⟩ := Term.static_spec h2 hv
  exact ⟨c, i, k, f, a', cell', h2, g1, Cond.initialized_spec h1 (State.fieldFound?_spec h2).1 hi, g2, g3, g4, g5, (Array.getElem?_eq_some_iff.mp g3).1⟩
theorem mg_str_l : ∀ q ∈ ax_str, q.2.2.2.length < 2 ^ 31 ∧ (∀ x ∈ q.2.2.2, x < 128) ∧ Jvm.Cond.stringRef q.1 q.2.1 q.2.2.1 ∈ lw_tbl := by decide +kernel
theorem mg_str_w : ∀ q ∈ ax_str, ∀ w ∈ sx_ws q, w ∈ flatC (Jvm.Cond.and given_1 narrow_1) := by decide +kernel
