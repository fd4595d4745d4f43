/-! texts: what is read of them -/
def bI (b : Bool) : Nat := cond b 1 0
theorem nar_b (b : Bool) : narrow .boolean (.int (nI (bI b))) = .int (nI (bI b)) := by cases b <;> rfl
theorem bI_t {b : Bool} (h : ¬ bI b = 0) : b = true := by cases b <;> first | rfl | exact absurd rfl h
theorem bI_f {b : Bool} (h : bI b = 0) : b = false := by cases b <;> first | rfl | exact absurd h (by decide)
theorem bI_lt (b : Bool) : bI b < 2 := by cases b <;> decide
def c_let (c : Nat) : Bool := decide (97 ≤ c) && decide (c ≤ 122)
def c_lab (c : Nat) : Bool := (decide (97 ≤ c) && decide (c ≤ 122)) || (decide (48 ≤ c) && decide (c ≤ 57)) || decide (c = 45) || decide (c = 95)
def f_find (g : Nat → Nat) (c : Nat) : Nat → Nat → Nat
  | i, 0 => i
  | i, m + 1 => if g i = c then i else f_find g c (i + 1) m
def f_skip (g : Nat → Nat) (c : Nat) : Nat → Nat → Nat
  | i, 0 => i
  | i, m + 1 => if g i = c then f_skip g c (i + 1) m else i
def f_run (g : Nat → Nat) : Nat → Nat → Nat → Bool
  | run, _, 0 => decide (0 < run)
  | run, i, m + 1 => if g i = 46 then decide (0 < run) && f_run g 0 (i + 1) m else decide (run < 16) && (c_lab (g i) && f_run g (run + 1) (i + 1) m)
/-- a name stands from i up to (not with) j -/
def t_name (g : Nat → Nat) (i j : Nat) : Bool := decide (j ≤ i + 48) && f_run g 0 i (j - i)
theorem d37_9 (L : Nat) (xs : Nat → Int32) : decode (ax_code (mgT L xs) 37) 9 = .ok (.aload_n 0, 1) := by
  show decode prog_9_method_17_code 9 = _
  decide +kernel
theorem d37_10 (L : Nat) (xs : Nat → Int32) : decode (ax_code (mgT L xs) 37) 10 = .ok (.iload 4, 2) := by
  show decode prog_9_method_17_code 10 = _
  decide +kernel
theorem d37_12 (L : Nat) (xs : Nat → Int32) : decode (ax_code (mgT L xs) 37) 12 = .ok (.invokevirtual 37, 3) := by
  show decode prog_9_method_17_code 12 = _
  decide +kernel
theorem d37_15 (L : Nat) (xs : Nat → Int32) : decode (ax_code (mgT L xs) 37) 15 = .ok (.iload_n 1, 1) := by
  show decode prog_9_method_17_code 15 = _
  decide +kernel
theorem d37_16 (L : Nat) (xs : Nat → Int32) : decode (ax_code (mgT L xs) 37) 16 = .ok (.if_icmp .ne 6, 3) := by
  show decode prog_9_method_17_code 16 = _
  decide +kernel
theorem d37_19 (L : Nat) (xs : Nat → Int32) : decode (ax_code (mgT L xs) 37) 19 = .ok (.iload 4, 2) := by
  show decode prog_9_method_17_code 19 = _
  decide +kernel
theorem d37_21 (L : Nat) (xs : Nat → Int32) : decode (ax_code (mgT L xs) 37) 21 = .ok (.ireturn, 1) := by
  show decode prog_9_method_17_code 21 = _
  decide +kernel
theorem d37_22 (L : Nat) (xs : Nat → Int32) : decode (ax_code (mgT L xs) 37) 22 = .ok (.iinc 4 1, 3) := by
  show decode prog_9_method_17_code 22 = _
  decide +kernel
theorem d37_25 (L : Nat) (xs : Nat → Int32) : decode (ax_code (mgT L xs) 37) 25 = .ok (.goto (-22), 3) := by
  show decode prog_9_method_17_code 25 = _
  decide +kernel
theorem d38_8 (L : Nat) (xs : Nat → Int32) : decode (ax_code (mgT L xs) 38) 8 = .ok (.iconst 0, 1) := by
  show decode prog_9_method_19_code 8 = _
  decide +kernel
theorem d38_9 (L : Nat) (xs : Nat → Int32) : decode (ax_code (mgT L xs) 38) 9 = .ok (.ireturn, 1) := by
  show decode prog_9_method_19_code 9 = _
  decide +kernel
theorem d38_21 (L : Nat) (xs : Nat → Int32) : decode (ax_code (mgT L xs) 38) 21 = .ok (.aload_n 0, 1) := by
  show decode prog_9_method_19_code 21 = _
  decide +kernel
theorem d38_22 (L : Nat) (xs : Nat → Int32) : decode (ax_code (mgT L xs) 38) 22 = .ok (.iload 4, 2) := by
  show decode prog_9_method_19_code 22 = _
  decide +kernel
theorem d38_24 (L : Nat) (xs : Nat → Int32) : decode (ax_code (mgT L xs) 38) 24 = .ok (.invokevirtual 37, 3) := by
  show decode prog_9_method_19_code 24 = _
  decide +kernel
theorem d38_27 (L : Nat) (xs : Nat → Int32) : decode (ax_code (mgT L xs) 38) 27 = .ok (.istore 5, 2) := by
  show decode prog_9_method_19_code 27 = _
  decide +kernel
theorem d38_29 (L : Nat) (xs : Nat → Int32) : decode (ax_code (mgT L xs) 38) 29 = .ok (.iload 5, 2) := by
  show decode prog_9_method_19_code 29 = _
  decide +kernel
theorem d38_31 (L : Nat) (xs : Nat → Int32) : decode (ax_code (mgT L xs) 38) 31 = .ok (.bipush 46, 2) := by
  show decode prog_9_method_19_code 31 = _
  decide +kernel
theorem d38_33 (L : Nat) (xs : Nat → Int32) : decode (ax_code (mgT L xs) 38) 33 = .ok (.if_icmp .ne 14, 3) := by
  show decode prog_9_method_19_code 33 = _
  decide +kernel
theorem d38_36 (L : Nat) (xs : Nat → Int32) : decode (ax_code (mgT L xs) 38) 36 = .ok (.iload_n 3, 1) := by
  show decode prog_9_method_19_code 36 = _
  decide +kernel
theorem d38_37 (L : Nat) (xs : Nat → Int32) : decode (ax_code (mgT L xs) 38) 37 = .ok (.ifCond .ne 5, 3) := by
  show decode prog_9_method_19_code 37 = _
  decide +kernel
theorem d38_40 (L : Nat) (xs : Nat → Int32) : decode (ax_code (mgT L xs) 38) 40 = .ok (.iconst 0, 1) := by
  show decode prog_9_method_19_code 40 = _
  decide +kernel
theorem d38_41 (L : Nat) (xs : Nat → Int32) : decode (ax_code (mgT L xs) 38) 41 = .ok (.ireturn, 1) := by
  show decode prog_9_method_19_code 41 = _
  decide +kernel
theorem d38_42 (L : Nat) (xs : Nat → Int32) : decode (ax_code (mgT L xs) 38) 42 = .ok (.iconst 0, 1) := by
  show decode prog_9_method_19_code 42 = _
  decide +kernel
theorem d38_43 (L : Nat) (xs : Nat → Int32) : decode (ax_code (mgT L xs) 38) 43 = .ok (.istore_n 3, 1) := by
  show decode prog_9_method_19_code 43 = _
  decide +kernel
theorem d38_44 (L : Nat) (xs : Nat → Int32) : decode (ax_code (mgT L xs) 38) 44 = .ok (.goto 22, 3) := by
  show decode prog_9_method_19_code 44 = _
  decide +kernel
theorem d38_47 (L : Nat) (xs : Nat → Int32) : decode (ax_code (mgT L xs) 38) 47 = .ok (.iinc 3 1, 3) := by
  show decode prog_9_method_19_code 47 = _
  decide +kernel
theorem d38_50 (L : Nat) (xs : Nat → Int32) : decode (ax_code (mgT L xs) 38) 50 = .ok (.iload_n 3, 1) := by
  show decode prog_9_method_19_code 50 = _
  decide +kernel
theorem d38_51 (L : Nat) (xs : Nat → Int32) : decode (ax_code (mgT L xs) 38) 51 = .ok (.bipush 16, 2) := by
  show decode prog_9_method_19_code 51 = _
  decide +kernel
theorem d38_53 (L : Nat) (xs : Nat → Int32) : decode (ax_code (mgT L xs) 38) 53 = .ok (.if_icmp .gt 11, 3) := by
  show decode prog_9_method_19_code 53 = _
  decide +kernel
theorem d38_56 (L : Nat) (xs : Nat → Int32) : decode (ax_code (mgT L xs) 38) 56 = .ok (.iload 5, 2) := by
  show decode prog_9_method_19_code 56 = _
  decide +kernel
theorem d38_58 (L : Nat) (xs : Nat → Int32) : decode (ax_code (mgT L xs) 38) 58 = .ok (.invokestatic 48, 3) := by
  show decode prog_9_method_19_code 58 = _
  decide +kernel
theorem d38_61 (L : Nat) (xs : Nat → Int32) : decode (ax_code (mgT L xs) 38) 61 = .ok (.ifCond .ne 5, 3) := by
  show decode prog_9_method_19_code 61 = _
  decide +kernel
theorem d38_64 (L : Nat) (xs : Nat → Int32) : decode (ax_code (mgT L xs) 38) 64 = .ok (.iconst 0, 1) := by
  show decode prog_9_method_19_code 64 = _
  decide +kernel
theorem d38_65 (L : Nat) (xs : Nat → Int32) : decode (ax_code (mgT L xs) 38) 65 = .ok (.ireturn, 1) := by
  show decode prog_9_method_19_code 65 = _
  decide +kernel
theorem d38_66 (L : Nat) (xs : Nat → Int32) : decode (ax_code (mgT L xs) 38) 66 = .ok (.iinc 4 1, 3) := by
  show decode prog_9_method_19_code 66 = _
  decide +kernel
theorem d38_69 (L : Nat) (xs : Nat → Int32) : decode (ax_code (mgT L xs) 38) 69 = .ok (.goto (-54), 3) := by
  show decode prog_9_method_19_code 69 = _
  decide +kernel
theorem d38_76 (L : Nat) (xs : Nat → Int32) : decode (ax_code (mgT L xs) 38) 76 = .ok (.iconst 1, 1) := by
  show decode prog_9_method_19_code 76 = _
  decide +kernel
theorem d38_77 (L : Nat) (xs : Nat → Int32) : decode (ax_code (mgT L xs) 38) 77 = .ok (.goto 4, 3) := by
  show decode prog_9_method_19_code 77 = _
  decide +kernel
theorem d39_0 (L : Nat) (xs : Nat → Int32) : decode (ax_code (mgT L xs) 39) 0 = .ok (.iload_n 0, 1) := by
  show decode prog_9_method_23_code 0 = _
  decide +kernel
theorem d39_1 (L : Nat) (xs : Nat → Int32) : decode (ax_code (mgT L xs) 39) 1 = .ok (.bipush 97, 2) := by
  show decode prog_9_method_23_code 1 = _
  decide +kernel
theorem d39_3 (L : Nat) (xs : Nat → Int32) : decode (ax_code (mgT L xs) 39) 3 = .ok (.if_icmp .lt 9, 3) := by
  show decode prog_9_method_23_code 3 = _
  decide +kernel
theorem d39_6 (L : Nat) (xs : Nat → Int32) : decode (ax_code (mgT L xs) 39) 6 = .ok (.iload_n 0, 1) := by
  show decode prog_9_method_23_code 6 = _
  decide +kernel
theorem d39_7 (L : Nat) (xs : Nat → Int32) : decode (ax_code (mgT L xs) 39) 7 = .ok (.bipush 122, 2) := by
  show decode prog_9_method_23_code 7 = _
  decide +kernel
theorem d39_9 (L : Nat) (xs : Nat → Int32) : decode (ax_code (mgT L xs) 39) 9 = .ok (.if_icmp .le 27, 3) := by
  show decode prog_9_method_23_code 9 = _
  decide +kernel
theorem d39_12 (L : Nat) (xs : Nat → Int32) : decode (ax_code (mgT L xs) 39) 12 = .ok (.iload_n 0, 1) := by
  show decode prog_9_method_23_code 12 = _
  decide +kernel
theorem d39_13 (L : Nat) (xs : Nat → Int32) : decode (ax_code (mgT L xs) 39) 13 = .ok (.bipush 48, 2) := by
  show decode prog_9_method_23_code 13 = _
  decide +kernel
theorem d39_15 (L : Nat) (xs : Nat → Int32) : decode (ax_code (mgT L xs) 39) 15 = .ok (.if_icmp .lt 9, 3) := by
  show decode prog_9_method_23_code 15 = _
  decide +kernel
theorem d39_18 (L : Nat) (xs : Nat → Int32) : decode (ax_code (mgT L xs) 39) 18 = .ok (.iload_n 0, 1) := by
  show decode prog_9_method_23_code 18 = _
  decide +kernel
theorem d39_19 (L : Nat) (xs : Nat → Int32) : decode (ax_code (mgT L xs) 39) 19 = .ok (.bipush 57, 2) := by
  show decode prog_9_method_23_code 19 = _
  decide +kernel
theorem d39_21 (L : Nat) (xs : Nat → Int32) : decode (ax_code (mgT L xs) 39) 21 = .ok (.if_icmp .le 15, 3) := by
  show decode prog_9_method_23_code 21 = _
  decide +kernel
theorem d39_24 (L : Nat) (xs : Nat → Int32) : decode (ax_code (mgT L xs) 39) 24 = .ok (.iload_n 0, 1) := by
  show decode prog_9_method_23_code 24 = _
  decide +kernel
theorem d39_25 (L : Nat) (xs : Nat → Int32) : decode (ax_code (mgT L xs) 39) 25 = .ok (.bipush 45, 2) := by
  show decode prog_9_method_23_code 25 = _
  decide +kernel
theorem d39_27 (L : Nat) (xs : Nat → Int32) : decode (ax_code (mgT L xs) 39) 27 = .ok (.if_icmp .eq 9, 3) := by
  show decode prog_9_method_23_code 27 = _
  decide +kernel
theorem d39_30 (L : Nat) (xs : Nat → Int32) : decode (ax_code (mgT L xs) 39) 30 = .ok (.iload_n 0, 1) := by
  show decode prog_9_method_23_code 30 = _
  decide +kernel
theorem d39_31 (L : Nat) (xs : Nat → Int32) : decode (ax_code (mgT L xs) 39) 31 = .ok (.bipush 95, 2) := by
  show decode prog_9_method_23_code 31 = _
  decide +kernel
theorem d39_33 (L : Nat) (xs : Nat → Int32) : decode (ax_code (mgT L xs) 39) 33 = .ok (.if_icmp .ne 7, 3) := by
  show decode prog_9_method_23_code 33 = _
  decide +kernel
theorem d39_36 (L : Nat) (xs : Nat → Int32) : decode (ax_code (mgT L xs) 39) 36 = .ok (.iconst 1, 1) := by
  show decode prog_9_method_23_code 36 = _
  decide +kernel
theorem d39_37 (L : Nat) (xs : Nat → Int32) : decode (ax_code (mgT L xs) 39) 37 = .ok (.goto 4, 3) := by
  show decode prog_9_method_23_code 37 = _
  decide +kernel
theorem d39_40 (L : Nat) (xs : Nat → Int32) : decode (ax_code (mgT L xs) 39) 40 = .ok (.iconst 0, 1) := by
  show decode prog_9_method_23_code 40 = _
  decide +kernel
theorem d39_41 (L : Nat) (xs : Nat → Int32) : decode (ax_code (mgT L xs) 39) 41 = .ok (.ireturn, 1) := by
  show decode prog_9_method_23_code 41 = _
  decide +kernel
theorem d61_0 (L : Nat) (xs : Nat → Int32) : decode (ax_code (mgT L xs) 61) 0 = .ok (.iload_n 0, 1) := by
  show decode prog_9_method_22_code 0 = _
  decide +kernel
theorem d61_1 (L : Nat) (xs : Nat → Int32) : decode (ax_code (mgT L xs) 61) 1 = .ok (.bipush 97, 2) := by
  show decode prog_9_method_22_code 1 = _
  decide +kernel
theorem d61_3 (L : Nat) (xs : Nat → Int32) : decode (ax_code (mgT L xs) 61) 3 = .ok (.if_icmp .lt 13, 3) := by
  show decode prog_9_method_22_code 3 = _
  decide +kernel
theorem d61_6 (L : Nat) (xs : Nat → Int32) : decode (ax_code (mgT L xs) 61) 6 = .ok (.iload_n 0, 1) := by
  show decode prog_9_method_22_code 6 = _
  decide +kernel
theorem d61_7 (L : Nat) (xs : Nat → Int32) : decode (ax_code (mgT L xs) 61) 7 = .ok (.bipush 122, 2) := by
  show decode prog_9_method_22_code 7 = _
  decide +kernel
theorem d61_9 (L : Nat) (xs : Nat → Int32) : decode (ax_code (mgT L xs) 61) 9 = .ok (.if_icmp .gt 7, 3) := by
  show decode prog_9_method_22_code 9 = _
  decide +kernel
theorem d61_12 (L : Nat) (xs : Nat → Int32) : decode (ax_code (mgT L xs) 61) 12 = .ok (.iconst 1, 1) := by
  show decode prog_9_method_22_code 12 = _
  decide +kernel
theorem d61_13 (L : Nat) (xs : Nat → Int32) : decode (ax_code (mgT L xs) 61) 13 = .ok (.goto 4, 3) := by
  show decode prog_9_method_22_code 13 = _
  decide +kernel
theorem d61_16 (L : Nat) (xs : Nat → Int32) : decode (ax_code (mgT L xs) 61) 16 = .ok (.iconst 0, 1) := by
  show decode prog_9_method_22_code 16 = _
  decide +kernel
theorem d61_17 (L : Nat) (xs : Nat → Int32) : decode (ax_code (mgT L xs) 61) 17 = .ok (.ireturn, 1) := by
  show decode prog_9_method_22_code 17 = _
  decide +kernel
theorem d94_0 (L : Nat) (xs : Nat → Int32) : decode (ax_code (mgT L xs) 94) 0 = .ok (.iload_n 1, 1) := by
  show decode prog_9_method_14_code 0 = _
  decide +kernel
theorem d94_1 (L : Nat) (xs : Nat → Int32) : decode (ax_code (mgT L xs) 94) 1 = .ok (.istore_n 3, 1) := by
  show decode prog_9_method_14_code 1 = _
  decide +kernel
theorem d94_2 (L : Nat) (xs : Nat → Int32) : decode (ax_code (mgT L xs) 94) 2 = .ok (.iload_n 3, 1) := by
  show decode prog_9_method_14_code 2 = _
  decide +kernel
theorem d94_3 (L : Nat) (xs : Nat → Int32) : decode (ax_code (mgT L xs) 94) 3 = .ok (.iload_n 2, 1) := by
  show decode prog_9_method_14_code 3 = _
  decide +kernel
theorem d94_4 (L : Nat) (xs : Nat → Int32) : decode (ax_code (mgT L xs) 94) 4 = .ok (.if_icmp .ge 21, 3) := by
  show decode prog_9_method_14_code 4 = _
  decide +kernel
theorem d94_7 (L : Nat) (xs : Nat → Int32) : decode (ax_code (mgT L xs) 94) 7 = .ok (.aload_n 0, 1) := by
  show decode prog_9_method_14_code 7 = _
  decide +kernel
theorem d94_8 (L : Nat) (xs : Nat → Int32) : decode (ax_code (mgT L xs) 94) 8 = .ok (.iload_n 3, 1) := by
  show decode prog_9_method_14_code 8 = _
  decide +kernel
theorem d94_9 (L : Nat) (xs : Nat → Int32) : decode (ax_code (mgT L xs) 94) 9 = .ok (.invokevirtual 37, 3) := by
  show decode prog_9_method_14_code 9 = _
  decide +kernel
theorem d94_12 (L : Nat) (xs : Nat → Int32) : decode (ax_code (mgT L xs) 94) 12 = .ok (.bipush 32, 2) := by
  show decode prog_9_method_14_code 12 = _
  decide +kernel
theorem d94_14 (L : Nat) (xs : Nat → Int32) : decode (ax_code (mgT L xs) 94) 14 = .ok (.if_icmp .eq 5, 3) := by
  show decode prog_9_method_14_code 14 = _
  decide +kernel
theorem d94_17 (L : Nat) (xs : Nat → Int32) : decode (ax_code (mgT L xs) 94) 17 = .ok (.iload_n 3, 1) := by
  show decode prog_9_method_14_code 17 = _
  decide +kernel
theorem d94_18 (L : Nat) (xs : Nat → Int32) : decode (ax_code (mgT L xs) 94) 18 = .ok (.ireturn, 1) := by
  show decode prog_9_method_14_code 18 = _
  decide +kernel
theorem d94_19 (L : Nat) (xs : Nat → Int32) : decode (ax_code (mgT L xs) 94) 19 = .ok (.iinc 3 1, 3) := by
  show decode prog_9_method_14_code 19 = _
  decide +kernel
theorem d94_22 (L : Nat) (xs : Nat → Int32) : decode (ax_code (mgT L xs) 94) 22 = .ok (.goto (-20), 3) := by
  show decode prog_9_method_14_code 22 = _
  decide +kernel
theorem d94_25 (L : Nat) (xs : Nat → Int32) : decode (ax_code (mgT L xs) 94) 25 = .ok (.iload_n 2, 1) := by
  show decode prog_9_method_14_code 25 = _
  decide +kernel
theorem d94_26 (L : Nat) (xs : Nat → Int32) : decode (ax_code (mgT L xs) 94) 26 = .ok (.ireturn, 1) := by
  show decode prog_9_method_14_code 26 = _
  decide +kernel
section TXB
variable {L : Nat} {xs : Nat → Int32} {d : Nat} {s : mg_s} {a n : Nat}
theorem tx_let {c : Nat} (hc : c < 65536) : ca L xs (d + 1) 61 [.int (nI c)] s (fun v s' => v = some (.int (nI (bI (c_let c)))) ∧ s = s') := by
  refine wg_call (Nat.le_of_ble_eq_true rfl) ?_
  show wp L xs d 61 0 [some (.int (nI c))] [] s _
  refine wg_iload_n (d61_0 L xs) rfl ?_
  refine wg_bipush (d61_1 L xs) (x := 97) (by decide) ?_
  refine wn_icmp_lt (d61_3 L xs) (x := c) (y := 97) (by omega) (by omega) (t := 16) (by decide) (fun h1 => ?_) (fun h1 => ?_)
  · refine wg_iconst (d61_16 L xs) (x := 0) (by decide) ?_
    exact wg_iret (d61_17 L xs) rfl rfl ⟨by rw [show c_let c = false by simp [c_let]; omega]; rfl, rfl⟩
  · refine wg_iload_n (d61_6 L xs) rfl ?_
    refine wg_bipush (d61_7 L xs) (x := 122) (by decide) ?_
    refine wn_icmp_gt (d61_9 L xs) (x := c) (y := 122) (by omega) (by omega) (t := 16) (by decide) (fun h2 => ?_) (fun h2 => ?_)
    · refine wg_iconst (d61_16 L xs) (x := 0) (by decide) ?_
      exact wg_iret (d61_17 L xs) rfl rfl ⟨by rw [show c_let c = false by simp [c_let]; omega]; rfl, rfl⟩
    · refine wg_iconst (d61_12 L xs) (x := 1) (by decide) ?_
      refine wg_goto (d61_13 L xs) (t := 17) (by decide) ?_
      exact wg_iret (d61_17 L xs) rfl rfl ⟨by rw [show c_let c = true by simp [c_let]; omega]; rfl, rfl⟩
theorem tx_lab {c : Nat} (hc : c < 65536) : ca L xs (d + 1) 39 [.int (nI c)] s (fun v s' => v = some (.int (nI (bI (c_lab c)))) ∧ s = s') := by
  refine wg_call (Nat.le_of_ble_eq_true rfl) ?_
  show wp L xs d 39 0 [some (.int (nI c))] [] s _
  refine wg_iload_n (d39_0 L xs) rfl ?_
  refine wg_bipush (d39_1 L xs) (x := 97) (by decide) ?_
  refine wn_icmp_lt (d39_3 L xs) (x := c) (y := 97) (by omega) (by omega) (t := 12) (by decide) (fun h1 => ?_) (fun h1 => ?_)
  · refine wg_iload_n (d39_12 L xs) rfl ?_
    refine wg_bipush (d39_13 L xs) (x := 48) (by decide) ?_
    refine wn_icmp_lt (d39_15 L xs) (x := c) (y := 48) (by omega) (by omega) (t := 24) (by decide) (fun h2 => ?_) (fun h2 => ?_)
    · refine wg_iload_n (d39_24 L xs) rfl ?_
      refine wg_bipush (d39_25 L xs) (x := 45) (by decide) ?_
      refine wn_icmp_eq (d39_27 L xs) (x := c) (y := 45) (by omega) (by omega) (t := 36) (by decide) (fun h3 => ?_) (fun h3 => ?_)
      · refine wg_iconst (d39_36 L xs) (x := 1) (by decide) ?_
        refine wg_goto (d39_37 L xs) (t := 41) (by decide) ?_
        exact wg_iret (d39_41 L xs) rfl rfl ⟨by rw [show c_lab c = true by simp [c_lab]; omega]; rfl, rfl⟩
      · refine wg_iload_n (d39_30 L xs) rfl ?_
        refine wg_bipush (d39_31 L xs) (x := 95) (by decide) ?_
        refine wn_icmp_ne (d39_33 L xs) (x := c) (y := 95) (by omega) (by omega) (t := 40) (by decide) (fun h4 => ?_) (fun h4 => ?_)
        · refine wg_iconst (d39_40 L xs) (x := 0) (by decide) ?_
          exact wg_iret (d39_41 L xs) rfl rfl ⟨by rw [show c_lab c = false by simp [c_lab]; omega]; rfl, rfl⟩
        · refine wg_iconst (d39_36 L xs) (x := 1) (by decide) ?_
          refine wg_goto (d39_37 L xs) (t := 41) (by decide) ?_
          exact wg_iret (d39_41 L xs) rfl rfl ⟨by rw [show c_lab c = true by simp [c_lab]; omega]; rfl, rfl⟩
    · refine wg_iload_n (d39_18 L xs) rfl ?_
      refine wg_bipush (d39_19 L xs) (x := 57) (by decide) ?_
      refine wn_icmp_le (d39_21 L xs) (x := c) (y := 57) (by omega) (by omega) (t := 36) (by decide) (fun h5 => ?_) (fun h5 => ?_)
      · refine wg_iconst (d39_36 L xs) (x := 1) (by decide) ?_
        refine wg_goto (d39_37 L xs) (t := 41) (by decide) ?_
        exact wg_iret (d39_41 L xs) rfl rfl ⟨by rw [show c_lab c = true by simp [c_lab]; omega]; rfl, rfl⟩
      · refine wg_iload_n (d39_24 L xs) rfl ?_
        refine wg_bipush (d39_25 L xs) (x := 45) (by decide) ?_
        refine wn_icmp_eq (d39_27 L xs) (x := c) (y := 45) (by omega) (by omega) (t := 36) (by decide) (fun h6 => ?_) (fun h6 => ?_)
        · refine wg_iconst (d39_36 L xs) (x := 1) (by decide) ?_
          refine wg_goto (d39_37 L xs) (t := 41) (by decide) ?_
          exact wg_iret (d39_41 L xs) rfl rfl ⟨by rw [show c_lab c = true by simp [c_lab]; omega]; rfl, rfl⟩
        · refine wg_iload_n (d39_30 L xs) rfl ?_
          refine wg_bipush (d39_31 L xs) (x := 95) (by decide) ?_
          refine wn_icmp_ne (d39_33 L xs) (x := c) (y := 95) (by omega) (by omega) (t := 40) (by decide) (fun h7 => ?_) (fun h7 => ?_)
          · refine wg_iconst (d39_40 L xs) (x := 0) (by decide) ?_
            exact wg_iret (d39_41 L xs) rfl rfl ⟨by rw [show c_lab c = false by simp [c_lab]; omega]; rfl, rfl⟩
          · refine wg_iconst (d39_36 L xs) (x := 1) (by decide) ?_
            refine wg_goto (d39_37 L xs) (t := 41) (by decide) ?_
            exact wg_iret (d39_41 L xs) rfl rfl ⟨by rw [show c_lab c = true by simp [c_lab]; omega]; rfl, rfl⟩
  · refine wg_iload_n (d39_6 L xs) rfl ?_
    refine wg_bipush (d39_7 L xs) (x := 122) (by decide) ?_
    refine wn_icmp_le (d39_9 L xs) (x := c) (y := 122) (by omega) (by omega) (t := 36) (by decide) (fun h8 => ?_) (fun h8 => ?_)
    · refine wg_iconst (d39_36 L xs) (x := 1) (by decide) ?_
      refine wg_goto (d39_37 L xs) (t := 41) (by decide) ?_
      exact wg_iret (d39_41 L xs) rfl rfl ⟨by rw [show c_lab c = true by simp [c_lab]; omega]; rfl, rfl⟩
    · refine wg_iload_n (d39_12 L xs) rfl ?_
      refine wg_bipush (d39_13 L xs) (x := 48) (by decide) ?_
      refine wn_icmp_lt (d39_15 L xs) (x := c) (y := 48) (by omega) (by omega) (t := 24) (by decide) (fun h9 => ?_) (fun h9 => ?_)
      · refine wg_iload_n (d39_24 L xs) rfl ?_
        refine wg_bipush (d39_25 L xs) (x := 45) (by decide) ?_
        refine wn_icmp_eq (d39_27 L xs) (x := c) (y := 45) (by omega) (by omega) (t := 36) (by decide) (fun h10 => ?_) (fun h10 => ?_)
        · refine wg_iconst (d39_36 L xs) (x := 1) (by decide) ?_
          refine wg_goto (d39_37 L xs) (t := 41) (by decide) ?_
          exact wg_iret (d39_41 L xs) rfl rfl ⟨by rw [show c_lab c = true by simp [c_lab]; omega]; rfl, rfl⟩
        · refine wg_iload_n (d39_30 L xs) rfl ?_
          refine wg_bipush (d39_31 L xs) (x := 95) (by decide) ?_
          refine wn_icmp_ne (d39_33 L xs) (x := c) (y := 95) (by omega) (by omega) (t := 40) (by decide) (fun h11 => ?_) (fun h11 => ?_)
          · refine wg_iconst (d39_40 L xs) (x := 0) (by decide) ?_
            exact wg_iret (d39_41 L xs) rfl rfl ⟨by rw [show c_lab c = false by simp [c_lab]; omega]; rfl, rfl⟩
          · refine wg_iconst (d39_36 L xs) (x := 1) (by decide) ?_
            refine wg_goto (d39_37 L xs) (t := 41) (by decide) ?_
            exact wg_iret (d39_41 L xs) rfl rfl ⟨by rw [show c_lab c = true by simp [c_lab]; omega]; rfl, rfl⟩
      · refine wg_iload_n (d39_18 L xs) rfl ?_
        refine wg_bipush (d39_19 L xs) (x := 57) (by decide) ?_
        refine wn_icmp_le (d39_21 L xs) (x := c) (y := 57) (by omega) (by omega) (t := 36) (by decide) (fun h12 => ?_) (fun h12 => ?_)
        · refine wg_iconst (d39_36 L xs) (x := 1) (by decide) ?_
          refine wg_goto (d39_37 L xs) (t := 41) (by decide) ?_
          exact wg_iret (d39_41 L xs) rfl rfl ⟨by rw [show c_lab c = true by simp [c_lab]; omega]; rfl, rfl⟩
        · refine wg_iload_n (d39_24 L xs) rfl ?_
          refine wg_bipush (d39_25 L xs) (x := 45) (by decide) ?_
          refine wn_icmp_eq (d39_27 L xs) (x := c) (y := 45) (by omega) (by omega) (t := 36) (by decide) (fun h13 => ?_) (fun h13 => ?_)
          · refine wg_iconst (d39_36 L xs) (x := 1) (by decide) ?_
            refine wg_goto (d39_37 L xs) (t := 41) (by decide) ?_
            exact wg_iret (d39_41 L xs) rfl rfl ⟨by rw [show c_lab c = true by simp [c_lab]; omega]; rfl, rfl⟩
          · refine wg_iload_n (d39_30 L xs) rfl ?_
            refine wg_bipush (d39_31 L xs) (x := 95) (by decide) ?_
            refine wn_icmp_ne (d39_33 L xs) (x := c) (y := 95) (by omega) (by omega) (t := 40) (by decide) (fun h14 => ?_) (fun h14 => ?_)
            · refine wg_iconst (d39_40 L xs) (x := 0) (by decide) ?_
              exact wg_iret (d39_41 L xs) rfl rfl ⟨by rw [show c_lab c = false by simp [c_lab]; omega]; rfl, rfl⟩
            · refine wg_iconst (d39_36 L xs) (x := 1) (by decide) ?_
              refine wg_goto (d39_37 L xs) (t := 41) (by decide) ?_
              exact wg_iret (d39_41 L xs) rfl rfl ⟨by rw [show c_lab c = true by simp [c_lab]; omega]; rfl, rfl⟩
theorem tx_find_l {c fr to : Nat} (H : isT a) (hn : isTx s a n) (hc : c < 65536) (hto : to < 2 ^ 30) : ∀ (m i : Nat), i + m = to → wp L xs (d + 1) 37 3 [some (.ref a), some (.int (nI c)), some (.int (nI fr)), some (.int (nI to)), some (.int (nI i))] [] s (fun v s' => v = some (.int (nI (f_find (t_at s a n) c i m))) ∧ s = s') := by
  have hlim := tx_m H
  have hn2 := hn.2
  intro m
  induction m with
  | zero =>
    intro i hi
    refine wg_iload (d37_3 L xs) rfl ?_
    refine wg_iload_n (d37_5 L xs) rfl ?_
    refine wn_icmp_ge (d37_6 L xs) (x := i) (y := to) (by omega) (by omega) (t := 28) (by decide) (fun h1 => ?_) (fun h1 => by omega)
    refine wg_iload_n (d37_28 L xs) rfl ?_
    exact wg_iret (d37_29 L xs) rfl rfl ⟨by rw [f_find, show to = i by omega], rfl⟩
  | succ m ih =>
    intro i hi
    refine wp_ch (fun hch => ?_)
    have hg : ∀ j, t_at s a n j < 65536 := fun j => t_at_lt H hn hch
    have hg0 := hg i
    refine wg_iload (d37_3 L xs) rfl ?_
    refine wg_iload_n (d37_5 L xs) rfl ?_
    refine wn_icmp_ge (d37_6 L xs) (x := i) (y := to) (by omega) (by omega) (t := 28) (by decide) (fun h1 => by omega) (fun h1 => ?_)
    refine wg_aload_n (d37_9 L xs) rfl ?_
    refine wg_iload (d37_10 L xs) rfl ?_
    refine wg_invv (d37_12 L xs) (kd := 7) (mj := 31) (n := 1) rfl (Or.inl rfl) (ys := [.int (nI i)]) (r := []) rfl rfl H.1 (tx_c H) rfl (Nat.le_of_ble_eq_true rfl) (tx_at (i := i) H hn (by omega)) ?_
    rintro _ _ ⟨rfl, rfl⟩
    refine wg_iload_n (d37_15 L xs) rfl ?_
    refine wn_icmp_ne (d37_16 L xs) (x := t_at s a n i) (y := c) (by omega) (by omega) (t := 22) (by decide) (fun h2 => ?_) (fun h2 => ?_)
    · refine wg_iinc (d37_22 L xs) (y := (nI (i + 1))) (ls' := [some (.ref a), some (.int (nI c)), some (.int (nI fr)), some (.int (nI to)), some (.int (nI (i + 1)))]) rfl (nI_add i 1) rfl ?_
      refine wg_goto (d37_25 L xs) (t := 3) (by decide) ?_
      rw [show f_find (t_at s a n) c i (m + 1) = f_find (t_at s a n) c (i + 1) m from if_neg (by omega)]; exact ih (i + 1) (by omega)
    · refine wg_iload (d37_19 L xs) rfl ?_
      exact wg_iret (d37_21 L xs) rfl rfl ⟨by rw [f_find, if_pos (by omega)], rfl⟩
theorem tx_find {c fr to : Nat} (H : isT a) (hn : isTx s a n) (hc : c < 65536) (hto : to < 2 ^ 30) (hf : fr ≤ to) : ca L xs (d + 2) 37 [.ref a, .int (nI c), .int (nI fr), .int (nI to)] s (fun v s' => v = some (.int (nI (f_find (t_at s a n) c fr (to - fr)))) ∧ s = s') := by
  refine wg_call (Nat.le_of_ble_eq_true rfl) ?_
  have hlim := tx_m H
  have hn2 := hn.2
  show wp L xs (d + 1) 37 0 [some (.ref a), some (.int (nI c)), some (.int (nI fr)), some (.int (nI to)), none] [] s _
  refine wg_iload_n (d37_0 L xs) rfl ?_
  refine wg_istore (d37_1 L xs) (ls' := [some (.ref a), some (.int (nI c)), some (.int (nI fr)), some (.int (nI to)), some (.int (nI fr))]) (Nat.le_of_ble_eq_true rfl) rfl ?_
  exact tx_find_l H hn hc hto (to - fr) fr (by omega)
theorem tx_skip_l {fr to : Nat} (H : isT a) (hn : isTx s a n) (hto : to < 2 ^ 30) : ∀ (m i : Nat), i + m = to → wp L xs (d + 1) 94 2 [some (.ref a), some (.int (nI fr)), some (.int (nI to)), some (.int (nI i))] [] s (fun v s' => v = some (.int (nI (f_skip (t_at s a n) 32 i m))) ∧ s = s') := by
  have hlim := tx_m H
  have hn2 := hn.2
  intro m
  induction m with
  | zero =>
    intro i hi
    refine wg_iload_n (d94_2 L xs) rfl ?_
    refine wg_iload_n (d94_3 L xs) rfl ?_
    refine wn_icmp_ge (d94_4 L xs) (x := i) (y := to) (by omega) (by omega) (t := 25) (by decide) (fun h1 => ?_) (fun h1 => by omega)
    refine wg_iload_n (d94_25 L xs) rfl ?_
    exact wg_iret (d94_26 L xs) rfl rfl ⟨by rw [f_skip, show to = i by omega], rfl⟩
  | succ m ih =>
    intro i hi
    refine wp_ch (fun hch => ?_)
    have hg : ∀ j, t_at s a n j < 65536 := fun j => t_at_lt H hn hch
    have hg0 := hg i
    refine wg_iload_n (d94_2 L xs) rfl ?_
    refine wg_iload_n (d94_3 L xs) rfl ?_
    refine wn_icmp_ge (d94_4 L xs) (x := i) (y := to) (by omega) (by omega) (t := 25) (by decide) (fun h1 => by omega) (fun h1 => ?_)
    refine wg_aload_n (d94_7 L xs) rfl ?_
    refine wg_iload_n (d94_8 L xs) rfl ?_
    refine wg_invv (d94_9 L xs) (kd := 7) (mj := 31) (n := 1) rfl (Or.inl rfl) (ys := [.int (nI i)]) (r := []) rfl rfl H.1 (tx_c H) rfl (Nat.le_of_ble_eq_true rfl) (tx_at (i := i) H hn (by omega)) ?_
    rintro _ _ ⟨rfl, rfl⟩
    refine wg_bipush (d94_12 L xs) (x := 32) (by decide) ?_
    refine wn_icmp_eq (d94_14 L xs) (x := t_at s a n i) (y := 32) (by omega) (by omega) (t := 19) (by decide) (fun h2 => ?_) (fun h2 => ?_)
    · refine wg_iinc (d94_19 L xs) (y := (nI (i + 1))) (ls' := [some (.ref a), some (.int (nI fr)), some (.int (nI to)), some (.int (nI (i + 1)))]) rfl (nI_add i 1) rfl ?_
      refine wg_goto (d94_22 L xs) (t := 2) (by decide) ?_
      rw [show f_skip (t_at s a n) 32 i (m + 1) = f_skip (t_at s a n) 32 (i + 1) m from if_pos (by omega)]; exact ih (i + 1) (by omega)
    · refine wg_iload_n (d94_17 L xs) rfl ?_
      exact wg_iret (d94_18 L xs) rfl rfl ⟨by rw [f_skip, if_neg (by omega)], rfl⟩
theorem tx_skip {fr to : Nat} (H : isT a) (hn : isTx s a n) (hto : to < 2 ^ 30) (hf : fr ≤ to) : ca L xs (d + 2) 94 [.ref a, .int (nI fr), .int (nI to)] s (fun v s' => v = some (.int (nI (f_skip (t_at s a n) 32 fr (to - fr)))) ∧ s = s') := by
  refine wg_call (Nat.le_of_ble_eq_true rfl) ?_
  have hlim := tx_m H
  have hn2 := hn.2
  show wp L xs (d + 1) 94 0 [some (.ref a), some (.int (nI fr)), some (.int (nI to)), none] [] s _
  refine wg_iload_n (d94_0 L xs) rfl ?_
  refine wg_istore_n (d94_1 L xs) (ls' := [some (.ref a), some (.int (nI fr)), some (.int (nI to)), some (.int (nI fr))]) (Nat.le_of_ble_eq_true rfl) rfl ?_
  exact tx_skip_l H hn hto (to - fr) fr (by omega)
theorem tx_name_l {fr to : Nat} (H : isT a) (hn : isTx s a n) (hto : to < 2 ^ 30) : ∀ (m i run : Nat) (c5 : Option Value), i + m = to → run ≤ 16 → wp L xs (d + 1) 38 15 [some (.ref a), some (.int (nI fr)), some (.int (nI to)), some (.int (nI run)), some (.int (nI i)), c5] [] s (fun v s' => v = some (.int (nI (bI (f_run (t_at s a n) run i m)))) ∧ s = s') := by
  have hlim := tx_m H
  have hn2 := hn.2
  intro m
  induction m with
  | zero =>
    intro i run c5 hi hr
    refine wg_iload (d38_15 L xs) rfl ?_
    refine wg_iload_n (d38_17 L xs) rfl ?_
    refine wn_icmp_ge (d38_18 L xs) (x := i) (y := to) (by omega) (by omega) (t := 72) (by decide) (fun h1 => ?_) (fun h1 => by omega)
    refine wg_iload_n (d38_72 L xs) rfl ?_
    refine wn_if_le (d38_73 L xs) (x := run) (by omega) (t := 80) (by decide) (fun h2 => ?_) (fun h2 => ?_)
    · refine wg_iconst (d38_80 L xs) (x := 0) (by decide) ?_
      exact wg_iret (d38_81 L xs) rfl rfl ⟨by rw [f_run, show decide (0 < run) = false by simp; omega]; rfl, rfl⟩
    · refine wg_iconst (d38_76 L xs) (x := 1) (by decide) ?_
      refine wg_goto (d38_77 L xs) (t := 81) (by decide) ?_
      exact wg_iret (d38_81 L xs) rfl rfl ⟨by rw [f_run, show decide (0 < run) = true by simp; omega]; rfl, rfl⟩
  | succ m ih =>
    intro i run c5 hi hr
    refine wp_ch (fun hch => ?_)
    have hg : ∀ j, t_at s a n j < 65536 := fun j => t_at_lt H hn hch
    have hg0 := hg i
    have hb0 := bI_lt (c_lab (t_at s a n i))
    refine wg_iload (d38_15 L xs) rfl ?_
    refine wg_iload_n (d38_17 L xs) rfl ?_
    refine wn_icmp_ge (d38_18 L xs) (x := i) (y := to) (by omega) (by omega) (t := 72) (by decide) (fun h1 => by omega) (fun h1 => ?_)
    refine wg_aload_n (d38_21 L xs) rfl ?_
    refine wg_iload (d38_22 L xs) rfl ?_
    refine wg_invv (d38_24 L xs) (kd := 7) (mj := 31) (n := 1) rfl (Or.inl rfl) (ys := [.int (nI i)]) (r := []) rfl rfl H.1 (tx_c H) rfl (Nat.le_of_ble_eq_true rfl) (tx_at (i := i) H hn (by omega)) ?_
    rintro _ _ ⟨rfl, rfl⟩
    refine wg_istore (d38_27 L xs) (ls' := [some (.ref a), some (.int (nI fr)), some (.int (nI to)), some (.int (nI run)), some (.int (nI i)), some (.int (nI (t_at s a n i)))]) (Nat.le_of_ble_eq_true rfl) rfl ?_
    refine wg_iload (d38_29 L xs) rfl ?_
    refine wg_bipush (d38_31 L xs) (x := 46) (by decide) ?_
    refine wn_icmp_ne (d38_33 L xs) (x := t_at s a n i) (y := 46) (by omega) (by omega) (t := 47) (by decide) (fun h2 => ?_) (fun h2 => ?_)
    · refine wg_iinc (d38_47 L xs) (y := (nI (run + 1))) (ls' := [some (.ref a), some (.int (nI fr)), some (.int (nI to)), some (.int (nI (run + 1))), some (.int (nI i)), some (.int (nI (t_at s a n i)))]) rfl (nI_add run 1) rfl ?_
      refine wg_iload_n (d38_50 L xs) rfl ?_
      refine wg_bipush (d38_51 L xs) (x := 16) (by decide) ?_
      refine wn_icmp_gt (d38_53 L xs) (x := run + 1) (y := 16) (by omega) (by omega) (t := 64) (by decide) (fun h3 => ?_) (fun h3 => ?_)
      · refine wg_iconst (d38_64 L xs) (x := 0) (by decide) ?_
        exact wg_iret (d38_65 L xs) rfl rfl ⟨by rw [f_run, if_neg (by omega), decide_eq_false (by omega), Bool.false_and]; rfl, rfl⟩
      · refine wg_iload (d38_56 L xs) rfl ?_
        refine wg_invs (d38_58 L xs) (kd := 6) (mj := 39) (n := 1) rfl (Or.inl rfl) (ys := [.int (nI (t_at s a n i))]) (r := []) rfl rfl (Nat.le_of_ble_eq_true rfl) (tx_lab (by omega)) ?_
        rintro _ _ ⟨rfl, rfl⟩
        refine wn_if_ne (d38_61 L xs) (x := bI (c_lab (t_at s a n i))) (by omega) (t := 66) (by decide) (fun h4 => ?_) (fun h4 => ?_)
        · refine wg_iinc (d38_66 L xs) (y := (nI (i + 1))) (ls' := [some (.ref a), some (.int (nI fr)), some (.int (nI to)), some (.int (nI (run + 1))), some (.int (nI (i + 1))), some (.int (nI (t_at s a n i)))]) rfl (nI_add i 1) rfl ?_
          refine wg_goto (d38_69 L xs) (t := 15) (by decide) ?_
          rw [show f_run (t_at s a n) run i (m + 1) = f_run (t_at s a n) (run + 1) (i + 1) m by rw [f_run, if_neg (by omega), decide_eq_true (by omega), Bool.true_and, show c_lab (t_at s a n i) = true from bI_t (by omega), Bool.true_and]]; exact ih (i + 1) (run + 1) _ (by omega) (by omega)
        · refine wg_iconst (d38_64 L xs) (x := 0) (by decide) ?_
          exact wg_iret (d38_65 L xs) rfl rfl ⟨by rw [f_run, if_neg (by omega), show c_lab (t_at s a n i) = false from bI_f (by omega), Bool.false_and, Bool.and_false]; rfl, rfl⟩
    · refine wg_iload_n (d38_36 L xs) rfl ?_
      refine wn_if_ne (d38_37 L xs) (x := run) (by omega) (t := 42) (by decide) (fun h5 => ?_) (fun h5 => ?_)
      · refine wg_iconst (d38_42 L xs) (x := 0) (by decide) ?_
        refine wg_istore_n (d38_43 L xs) (ls' := [some (.ref a), some (.int (nI fr)), some (.int (nI to)), some (.int 0), some (.int (nI i)), some (.int (nI (t_at s a n i)))]) (Nat.le_of_ble_eq_true rfl) rfl ?_
        refine wg_goto (d38_44 L xs) (t := 66) (by decide) ?_
        refine wg_iinc (d38_66 L xs) (y := (nI (i + 1))) (ls' := [some (.ref a), some (.int (nI fr)), some (.int (nI to)), some (.int 0), some (.int (nI (i + 1))), some (.int (nI (t_at s a n i)))]) rfl (nI_add i 1) rfl ?_
        refine wg_goto (d38_69 L xs) (t := 15) (by decide) ?_
        rw [show f_run (t_at s a n) run i (m + 1) = f_run (t_at s a n) 0 (i + 1) m by rw [f_run, if_pos (by omega), decide_eq_true (by omega), Bool.true_and]]; exact ih (i + 1) 0 _ (by omega) (by omega)
      · refine wg_iconst (d38_40 L xs) (x := 0) (by decide) ?_
        exact wg_iret (d38_41 L xs) rfl rfl ⟨by rw [f_run, if_pos (by omega), decide_eq_false (by omega), Bool.false_and]; rfl, rfl⟩
theorem tx_isName {fr to : Nat} (H : isT a) (hn : isTx s a n) (hto : to < 2 ^ 30) (hf : fr ≤ to) : ca L xs (d + 2) 38 [.ref a, .int (nI fr), .int (nI to)] s (fun v s' => v = some (.int (nI (bI (t_name (t_at s a n) fr to)))) ∧ s = s') := by
  refine wg_call (Nat.le_of_ble_eq_true rfl) ?_
  have hlim := tx_m H
  have hn2 := hn.2
  show wp L xs (d + 1) 38 0 [some (.ref a), some (.int (nI fr)), some (.int (nI to)), none, none, none] [] s _
  refine wg_iload_n (d38_0 L xs) rfl ?_
  refine wg_iload_n (d38_1 L xs) rfl ?_
  refine wg_isub (d38_2 L xs) ?_
  refine wg_top (y := (nI (to - fr))) (pk_sub (a := to) (b := fr) (by omega)) ?_
  refine wg_bipush (d38_3 L xs) (x := 48) (by decide) ?_
  refine wn_icmp_le (d38_5 L xs) (x := to - fr) (y := 48) (by omega) (by omega) (t := 10) (by decide) (fun h1 => ?_) (fun h1 => ?_)
  · refine wg_iconst (d38_10 L xs) (x := 0) (by decide) ?_
    refine wg_istore_n (d38_11 L xs) (ls' := [some (.ref a), some (.int (nI fr)), some (.int (nI to)), some (.int 0), none, none]) (Nat.le_of_ble_eq_true rfl) rfl ?_
    refine wg_iload_n (d38_12 L xs) rfl ?_
    refine wg_istore (d38_13 L xs) (ls' := [some (.ref a), some (.int (nI fr)), some (.int (nI to)), some (.int 0), some (.int (nI fr)), none]) (Nat.le_of_ble_eq_true rfl) rfl ?_
    have key := tx_name_l (fr := fr) H hn hto (d := d) (L := L) (xs := xs) (to - fr) fr 0 none (by omega) (by omega)
    rw [show t_name (t_at s a n) fr to = f_run (t_at s a n) 0 fr (to - fr) by rw [t_name, decide_eq_true (by omega), Bool.true_and]]
    exact key
  · refine wg_iconst (d38_8 L xs) (x := 0) (by decide) ?_
    exact wg_iret (d38_9 L xs) rfl rfl ⟨by rw [t_name, decide_eq_false (by omega), Bool.false_and]; rfl, rfl⟩
theorem tx_isName0 (H : isT a) (hn : isTx s a n) : ca L xs (d + 3) 46 [.ref a] s (fun v s' => v = some (.int (nI (bI (t_name (t_at s a n) 0 n)))) ∧ s = s') := by
  refine wg_call (Nat.le_of_ble_eq_true rfl) ?_
  have hlim := tx_m H
  have hn2 := hn.2
  show wp L xs (d + 2) 46 0 [some (.ref a)] [] s _
  refine wg_aload_n (d46_0 L xs) rfl ?_
  refine wg_iconst (d46_1 L xs) (x := 0) (by decide) ?_
  refine wg_aload_n (d46_2 L xs) rfl ?_
  refine wg_get (d46_3 L xs) (kd := 1) (cj := 1) (k0 := 1) rfl (Or.inl rfl) H.1 (tx_c H) rfl ?_
  refine wg_top (y := (nI n)) hn.1 ?_
  refine wg_invv (d46_6 L xs) (kd := 7) (mj := 38) (n := 2) rfl (Or.inl rfl) (ys := [.int (nI n), .int 0]) (r := []) rfl rfl H.1 (tx_c H) rfl (Nat.le_of_ble_eq_true rfl) (tx_isName (fr := 0) (to := n) H hn (by omega) (by omega)) ?_
  rintro _ _ ⟨rfl, rfl⟩
  exact wg_iret (d46_9 L xs) rfl (nar_b _) ⟨rfl, rfl⟩
end TXB
