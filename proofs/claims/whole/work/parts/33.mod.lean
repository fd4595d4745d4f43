/-! the reference: signs, names -/
def isA (a N : Nat) : Prop := a < 167 ∧ mg_sh.getD a (0, 0) = (5, N)
theorem ar_d {s : mg_s} {a N : Nat} (H : isA a N) : mg_c s a = .inl (0, N, .inl (s.2.1 a)) := by
  unfold mg_c; rw [H.2]; rfl
def c_dig (c : Nat) : Bool := decide (48 ≤ c) && decide (c ≤ 57)
theorem lab_t {c : Nat} (h : ¬ bI (c_let c) = 0 ∨ ¬ bI (c_dig c) = 0 ∨ c = 45 ∨ c = 95) : c_lab c = true := by
  unfold c_lab
  rcases h with h | h | h | h
  · have := bI_t h; unfold c_let at this; rw [this]; rfl
  · have := bI_t h; unfold c_dig at this; rw [this]; simp
  · rw [decide_eq_true h]; simp
  · rw [decide_eq_true h]; simp
theorem lab_f {c : Nat} (h1 : bI (c_let c) = 0) (h2 : bI (c_dig c) = 0) (h3 : ¬ c = 45) (h4 : ¬ c = 95) : c_lab c = false := by
  unfold c_lab
  have e1 := bI_f h1; have e2 := bI_f h2
  unfold c_let at e1; unfold c_dig at e2
  rw [e1, e2, decide_eq_false h3, decide_eq_false h4]; rfl
theorem run_f {g : Nat → Nat} {b : Bool} {run i m : Nat} (h : bI b = 0 ∨ (g i = 46 ∧ run = 0) ∨ (¬ g i = 46 ∧ (16 ≤ run ∨ (bI (c_let (g i)) = 0 ∧ bI (c_dig (g i)) = 0 ∧ ¬ g i = 45 ∧ ¬ g i = 95)))) : (b && f_run g run i (m + 1)) = false := by
  rcases h with h | ⟨h, h'⟩ | ⟨h, h' | ⟨h1, h2, h3, h4⟩⟩
  · rw [bI_f h]; rfl
  · rw [f_run, if_pos h, decide_eq_false (by omega)]; simp
  · rw [f_run, if_neg h, decide_eq_false (by omega)]; simp
  · rw [f_run, if_neg h, lab_f h1 h2 h3 h4]; simp
theorem run_t1 {g : Nat → Nat} {b : Bool} {run i m : Nat} (hb : ¬ bI b = 0) (h : g i = 46) (hr : 0 < run) : (b && f_run g run i (m + 1)) = f_run g 0 (i + 1) m := by
  rw [f_run, if_pos h, bI_t hb, decide_eq_true hr]; rfl
theorem run_t2 {g : Nat → Nat} {b : Bool} {run i m : Nat} (hb : ¬ bI b = 0) (h : ¬ g i = 46) (hr : run < 16) (hl : ¬ bI (c_let (g i)) = 0 ∨ ¬ bI (c_dig (g i)) = 0 ∨ g i = 45 ∨ g i = 95) : (b && f_run g run i (m + 1)) = f_run g (run + 1) (i + 1) m := by
  rw [f_run, if_neg h, bI_t hb, decide_eq_true hr, lab_t hl]; rfl
theorem d110_7 (L : Nat) (xs : Nat → Int32) : decode (ax_code (mgT L xs) 110) 7 = .ok (.iload_n 2, 1) := by
  show decode prog_11_method_8_code 7 = _
  decide +kernel
theorem d110_8 (L : Nat) (xs : Nat → Int32) : decode (ax_code (mgT L xs) 110) 8 = .ok (.iload_n 1, 1) := by
  show decode prog_11_method_8_code 8 = _
  decide +kernel
theorem d110_9 (L : Nat) (xs : Nat → Int32) : decode (ax_code (mgT L xs) 110) 9 = .ok (.isub, 1) := by
  show decode prog_11_method_8_code 9 = _
  decide +kernel
theorem d110_10 (L : Nat) (xs : Nat → Int32) : decode (ax_code (mgT L xs) 110) 10 = .ok (.bipush 48, 2) := by
  show decode prog_11_method_8_code 10 = _
  decide +kernel
theorem d110_12 (L : Nat) (xs : Nat → Int32) : decode (ax_code (mgT L xs) 110) 12 = .ok (.if_icmp .le 5, 3) := by
  show decode prog_11_method_8_code 12 = _
  decide +kernel
theorem d110_17 (L : Nat) (xs : Nat → Int32) : decode (ax_code (mgT L xs) 110) 17 = .ok (.iconst 0, 1) := by
  show decode prog_11_method_8_code 17 = _
  decide +kernel
theorem d110_18 (L : Nat) (xs : Nat → Int32) : decode (ax_code (mgT L xs) 110) 18 = .ok (.istore_n 3, 1) := by
  show decode prog_11_method_8_code 18 = _
  decide +kernel
theorem d110_19 (L : Nat) (xs : Nat → Int32) : decode (ax_code (mgT L xs) 110) 19 = .ok (.iconst 1, 1) := by
  show decode prog_11_method_8_code 19 = _
  decide +kernel
theorem d110_20 (L : Nat) (xs : Nat → Int32) : decode (ax_code (mgT L xs) 110) 20 = .ok (.istore 4, 2) := by
  show decode prog_11_method_8_code 20 = _
  decide +kernel
theorem d110_22 (L : Nat) (xs : Nat → Int32) : decode (ax_code (mgT L xs) 110) 22 = .ok (.iload_n 1, 1) := by
  show decode prog_11_method_8_code 22 = _
  decide +kernel
theorem d110_23 (L : Nat) (xs : Nat → Int32) : decode (ax_code (mgT L xs) 110) 23 = .ok (.istore 5, 2) := by
  show decode prog_11_method_8_code 23 = _
  decide +kernel
theorem d110_25 (L : Nat) (xs : Nat → Int32) : decode (ax_code (mgT L xs) 110) 25 = .ok (.iload 5, 2) := by
  show decode prog_11_method_8_code 25 = _
  decide +kernel
theorem d110_27 (L : Nat) (xs : Nat → Int32) : decode (ax_code (mgT L xs) 110) 27 = .ok (.iload_n 2, 1) := by
  show decode prog_11_method_8_code 27 = _
  decide +kernel
theorem d110_28 (L : Nat) (xs : Nat → Int32) : decode (ax_code (mgT L xs) 110) 28 = .ok (.if_icmp .ge 94, 3) := by
  show decode prog_11_method_8_code 28 = _
  decide +kernel
theorem d110_31 (L : Nat) (xs : Nat → Int32) : decode (ax_code (mgT L xs) 110) 31 = .ok (.aload_n 0, 1) := by
  show decode prog_11_method_8_code 31 = _
  decide +kernel
theorem d110_32 (L : Nat) (xs : Nat → Int32) : decode (ax_code (mgT L xs) 110) 32 = .ok (.iload 5, 2) := by
  show decode prog_11_method_8_code 32 = _
  decide +kernel
theorem d110_34 (L : Nat) (xs : Nat → Int32) : decode (ax_code (mgT L xs) 110) 34 = .ok (.iaload, 1) := by
  show decode prog_11_method_8_code 34 = _
  decide +kernel
theorem d110_35 (L : Nat) (xs : Nat → Int32) : decode (ax_code (mgT L xs) 110) 35 = .ok (.istore 6, 2) := by
  show decode prog_11_method_8_code 35 = _
  decide +kernel
theorem d110_37 (L : Nat) (xs : Nat → Int32) : decode (ax_code (mgT L xs) 110) 37 = .ok (.iload 6, 2) := by
  show decode prog_11_method_8_code 37 = _
  decide +kernel
theorem d110_39 (L : Nat) (xs : Nat → Int32) : decode (ax_code (mgT L xs) 110) 39 = .ok (.bipush 46, 2) := by
  show decode prog_11_method_8_code 39 = _
  decide +kernel
theorem d110_41 (L : Nat) (xs : Nat → Int32) : decode (ax_code (mgT L xs) 110) 41 = .ok (.if_icmp .ne 24, 3) := by
  show decode prog_11_method_8_code 41 = _
  decide +kernel
theorem d110_44 (L : Nat) (xs : Nat → Int32) : decode (ax_code (mgT L xs) 110) 44 = .ok (.iload 4, 2) := by
  show decode prog_11_method_8_code 44 = _
  decide +kernel
theorem d110_46 (L : Nat) (xs : Nat → Int32) : decode (ax_code (mgT L xs) 110) 46 = .ok (.ifCond .eq 11, 3) := by
  show decode prog_11_method_8_code 46 = _
  decide +kernel
theorem d110_49 (L : Nat) (xs : Nat → Int32) : decode (ax_code (mgT L xs) 110) 49 = .ok (.iload_n 3, 1) := by
  show decode prog_11_method_8_code 49 = _
  decide +kernel
theorem d110_50 (L : Nat) (xs : Nat → Int32) : decode (ax_code (mgT L xs) 110) 50 = .ok (.ifCond .le 7, 3) := by
  show decode prog_11_method_8_code 50 = _
  decide +kernel
theorem d110_53 (L : Nat) (xs : Nat → Int32) : decode (ax_code (mgT L xs) 110) 53 = .ok (.iconst 1, 1) := by
  show decode prog_11_method_8_code 53 = _
  decide +kernel
theorem d110_54 (L : Nat) (xs : Nat → Int32) : decode (ax_code (mgT L xs) 110) 54 = .ok (.goto 4, 3) := by
  show decode prog_11_method_8_code 54 = _
  decide +kernel
theorem d110_57 (L : Nat) (xs : Nat → Int32) : decode (ax_code (mgT L xs) 110) 57 = .ok (.iconst 0, 1) := by
  show decode prog_11_method_8_code 57 = _
  decide +kernel
theorem d110_58 (L : Nat) (xs : Nat → Int32) : decode (ax_code (mgT L xs) 110) 58 = .ok (.istore 4, 2) := by
  show decode prog_11_method_8_code 58 = _
  decide +kernel
theorem d110_60 (L : Nat) (xs : Nat → Int32) : decode (ax_code (mgT L xs) 110) 60 = .ok (.iconst 0, 1) := by
  show decode prog_11_method_8_code 60 = _
  decide +kernel
theorem d110_61 (L : Nat) (xs : Nat → Int32) : decode (ax_code (mgT L xs) 110) 61 = .ok (.istore_n 3, 1) := by
  show decode prog_11_method_8_code 61 = _
  decide +kernel
theorem d110_62 (L : Nat) (xs : Nat → Int32) : decode (ax_code (mgT L xs) 110) 62 = .ok (.goto 54, 3) := by
  show decode prog_11_method_8_code 62 = _
  decide +kernel
theorem d110_65 (L : Nat) (xs : Nat → Int32) : decode (ax_code (mgT L xs) 110) 65 = .ok (.iinc 3 1, 3) := by
  show decode prog_11_method_8_code 65 = _
  decide +kernel
theorem d110_68 (L : Nat) (xs : Nat → Int32) : decode (ax_code (mgT L xs) 110) 68 = .ok (.iload 4, 2) := by
  show decode prog_11_method_8_code 68 = _
  decide +kernel
theorem d110_70 (L : Nat) (xs : Nat → Int32) : decode (ax_code (mgT L xs) 110) 70 = .ok (.ifCond .eq 43, 3) := by
  show decode prog_11_method_8_code 70 = _
  decide +kernel
theorem d110_73 (L : Nat) (xs : Nat → Int32) : decode (ax_code (mgT L xs) 110) 73 = .ok (.iload_n 3, 1) := by
  show decode prog_11_method_8_code 73 = _
  decide +kernel
theorem d110_74 (L : Nat) (xs : Nat → Int32) : decode (ax_code (mgT L xs) 110) 74 = .ok (.bipush 16, 2) := by
  show decode prog_11_method_8_code 74 = _
  decide +kernel
theorem d110_76 (L : Nat) (xs : Nat → Int32) : decode (ax_code (mgT L xs) 110) 76 = .ok (.if_icmp .gt 37, 3) := by
  show decode prog_11_method_8_code 76 = _
  decide +kernel
theorem d110_79 (L : Nat) (xs : Nat → Int32) : decode (ax_code (mgT L xs) 110) 79 = .ok (.iload 6, 2) := by
  show decode prog_11_method_8_code 79 = _
  decide +kernel
theorem d110_81 (L : Nat) (xs : Nat → Int32) : decode (ax_code (mgT L xs) 110) 81 = .ok (.invokestatic 89, 3) := by
  show decode prog_11_method_8_code 81 = _
  decide +kernel
theorem d110_84 (L : Nat) (xs : Nat → Int32) : decode (ax_code (mgT L xs) 110) 84 = .ok (.ifCond .ne 25, 3) := by
  show decode prog_11_method_8_code 84 = _
  decide +kernel
theorem d110_87 (L : Nat) (xs : Nat → Int32) : decode (ax_code (mgT L xs) 110) 87 = .ok (.iload 6, 2) := by
  show decode prog_11_method_8_code 87 = _
  decide +kernel
theorem d110_89 (L : Nat) (xs : Nat → Int32) : decode (ax_code (mgT L xs) 110) 89 = .ok (.invokestatic 93, 3) := by
  show decode prog_11_method_8_code 89 = _
  decide +kernel
theorem d110_92 (L : Nat) (xs : Nat → Int32) : decode (ax_code (mgT L xs) 110) 92 = .ok (.ifCond .ne 17, 3) := by
  show decode prog_11_method_8_code 92 = _
  decide +kernel
theorem d110_95 (L : Nat) (xs : Nat → Int32) : decode (ax_code (mgT L xs) 110) 95 = .ok (.iload 6, 2) := by
  show decode prog_11_method_8_code 95 = _
  decide +kernel
theorem d110_97 (L : Nat) (xs : Nat → Int32) : decode (ax_code (mgT L xs) 110) 97 = .ok (.bipush 45, 2) := by
  show decode prog_11_method_8_code 97 = _
  decide +kernel
theorem d110_99 (L : Nat) (xs : Nat → Int32) : decode (ax_code (mgT L xs) 110) 99 = .ok (.if_icmp .eq 10, 3) := by
  show decode prog_11_method_8_code 99 = _
  decide +kernel
theorem d110_102 (L : Nat) (xs : Nat → Int32) : decode (ax_code (mgT L xs) 110) 102 = .ok (.iload 6, 2) := by
  show decode prog_11_method_8_code 102 = _
  decide +kernel
theorem d110_104 (L : Nat) (xs : Nat → Int32) : decode (ax_code (mgT L xs) 110) 104 = .ok (.bipush 95, 2) := by
  show decode prog_11_method_8_code 104 = _
  decide +kernel
theorem d110_106 (L : Nat) (xs : Nat → Int32) : decode (ax_code (mgT L xs) 110) 106 = .ok (.if_icmp .ne 7, 3) := by
  show decode prog_11_method_8_code 106 = _
  decide +kernel
theorem d110_109 (L : Nat) (xs : Nat → Int32) : decode (ax_code (mgT L xs) 110) 109 = .ok (.iconst 1, 1) := by
  show decode prog_11_method_8_code 109 = _
  decide +kernel
theorem d110_110 (L : Nat) (xs : Nat → Int32) : decode (ax_code (mgT L xs) 110) 110 = .ok (.goto 4, 3) := by
  show decode prog_11_method_8_code 110 = _
  decide +kernel
theorem d110_113 (L : Nat) (xs : Nat → Int32) : decode (ax_code (mgT L xs) 110) 113 = .ok (.iconst 0, 1) := by
  show decode prog_11_method_8_code 113 = _
  decide +kernel
theorem d110_114 (L : Nat) (xs : Nat → Int32) : decode (ax_code (mgT L xs) 110) 114 = .ok (.istore 4, 2) := by
  show decode prog_11_method_8_code 114 = _
  decide +kernel
theorem d110_116 (L : Nat) (xs : Nat → Int32) : decode (ax_code (mgT L xs) 110) 116 = .ok (.iinc 5 1, 3) := by
  show decode prog_11_method_8_code 116 = _
  decide +kernel
theorem d110_119 (L : Nat) (xs : Nat → Int32) : decode (ax_code (mgT L xs) 110) 119 = .ok (.goto (-94), 3) := by
  show decode prog_11_method_8_code 119 = _
  decide +kernel
theorem d110_122 (L : Nat) (xs : Nat → Int32) : decode (ax_code (mgT L xs) 110) 122 = .ok (.iload 4, 2) := by
  show decode prog_11_method_8_code 122 = _
  decide +kernel
theorem d110_124 (L : Nat) (xs : Nat → Int32) : decode (ax_code (mgT L xs) 110) 124 = .ok (.ifCond .eq 11, 3) := by
  show decode prog_11_method_8_code 124 = _
  decide +kernel
theorem d110_127 (L : Nat) (xs : Nat → Int32) : decode (ax_code (mgT L xs) 110) 127 = .ok (.iload_n 3, 1) := by
  show decode prog_11_method_8_code 127 = _
  decide +kernel
theorem d110_128 (L : Nat) (xs : Nat → Int32) : decode (ax_code (mgT L xs) 110) 128 = .ok (.ifCond .le 7, 3) := by
  show decode prog_11_method_8_code 128 = _
  decide +kernel
theorem d110_131 (L : Nat) (xs : Nat → Int32) : decode (ax_code (mgT L xs) 110) 131 = .ok (.iconst 1, 1) := by
  show decode prog_11_method_8_code 131 = _
  decide +kernel
theorem d110_132 (L : Nat) (xs : Nat → Int32) : decode (ax_code (mgT L xs) 110) 132 = .ok (.goto 4, 3) := by
  show decode prog_11_method_8_code 132 = _
  decide +kernel
theorem d110_135 (L : Nat) (xs : Nat → Int32) : decode (ax_code (mgT L xs) 110) 135 = .ok (.iconst 0, 1) := by
  show decode prog_11_method_8_code 135 = _
  decide +kernel
theorem d110_136 (L : Nat) (xs : Nat → Int32) : decode (ax_code (mgT L xs) 110) 136 = .ok (.ireturn, 1) := by
  show decode prog_11_method_8_code 136 = _
  decide +kernel
theorem d111_0 (L : Nat) (xs : Nat → Int32) : decode (ax_code (mgT L xs) 111) 0 = .ok (.iload_n 0, 1) := by
  show decode prog_11_method_7_code 0 = _
  decide +kernel
theorem d111_1 (L : Nat) (xs : Nat → Int32) : decode (ax_code (mgT L xs) 111) 1 = .ok (.bipush 97, 2) := by
  show decode prog_11_method_7_code 1 = _
  decide +kernel
theorem d111_3 (L : Nat) (xs : Nat → Int32) : decode (ax_code (mgT L xs) 111) 3 = .ok (.if_icmp .lt 13, 3) := by
  show decode prog_11_method_7_code 3 = _
  decide +kernel
theorem d111_6 (L : Nat) (xs : Nat → Int32) : decode (ax_code (mgT L xs) 111) 6 = .ok (.iload_n 0, 1) := by
  show decode prog_11_method_7_code 6 = _
  decide +kernel
theorem d111_7 (L : Nat) (xs : Nat → Int32) : decode (ax_code (mgT L xs) 111) 7 = .ok (.bipush 122, 2) := by
  show decode prog_11_method_7_code 7 = _
  decide +kernel
theorem d111_9 (L : Nat) (xs : Nat → Int32) : decode (ax_code (mgT L xs) 111) 9 = .ok (.if_icmp .gt 7, 3) := by
  show decode prog_11_method_7_code 9 = _
  decide +kernel
theorem d111_12 (L : Nat) (xs : Nat → Int32) : decode (ax_code (mgT L xs) 111) 12 = .ok (.iconst 1, 1) := by
  show decode prog_11_method_7_code 12 = _
  decide +kernel
theorem d111_13 (L : Nat) (xs : Nat → Int32) : decode (ax_code (mgT L xs) 111) 13 = .ok (.goto 4, 3) := by
  show decode prog_11_method_7_code 13 = _
  decide +kernel
theorem d111_16 (L : Nat) (xs : Nat → Int32) : decode (ax_code (mgT L xs) 111) 16 = .ok (.iconst 0, 1) := by
  show decode prog_11_method_7_code 16 = _
  decide +kernel
theorem d111_17 (L : Nat) (xs : Nat → Int32) : decode (ax_code (mgT L xs) 111) 17 = .ok (.ireturn, 1) := by
  show decode prog_11_method_7_code 17 = _
  decide +kernel
theorem d112_0 (L : Nat) (xs : Nat → Int32) : decode (ax_code (mgT L xs) 112) 0 = .ok (.iload_n 0, 1) := by
  show decode prog_11_method_6_code 0 = _
  decide +kernel
theorem d112_1 (L : Nat) (xs : Nat → Int32) : decode (ax_code (mgT L xs) 112) 1 = .ok (.bipush 48, 2) := by
  show decode prog_11_method_6_code 1 = _
  decide +kernel
theorem d112_3 (L : Nat) (xs : Nat → Int32) : decode (ax_code (mgT L xs) 112) 3 = .ok (.if_icmp .lt 13, 3) := by
  show decode prog_11_method_6_code 3 = _
  decide +kernel
theorem d112_6 (L : Nat) (xs : Nat → Int32) : decode (ax_code (mgT L xs) 112) 6 = .ok (.iload_n 0, 1) := by
  show decode prog_11_method_6_code 6 = _
  decide +kernel
theorem d112_7 (L : Nat) (xs : Nat → Int32) : decode (ax_code (mgT L xs) 112) 7 = .ok (.bipush 57, 2) := by
  show decode prog_11_method_6_code 7 = _
  decide +kernel
theorem d112_9 (L : Nat) (xs : Nat → Int32) : decode (ax_code (mgT L xs) 112) 9 = .ok (.if_icmp .gt 7, 3) := by
  show decode prog_11_method_6_code 9 = _
  decide +kernel
theorem d112_12 (L : Nat) (xs : Nat → Int32) : decode (ax_code (mgT L xs) 112) 12 = .ok (.iconst 1, 1) := by
  show decode prog_11_method_6_code 12 = _
  decide +kernel
theorem d112_13 (L : Nat) (xs : Nat → Int32) : decode (ax_code (mgT L xs) 112) 13 = .ok (.goto 4, 3) := by
  show decode prog_11_method_6_code 13 = _
  decide +kernel
theorem d112_16 (L : Nat) (xs : Nat → Int32) : decode (ax_code (mgT L xs) 112) 16 = .ok (.iconst 0, 1) := by
  show decode prog_11_method_6_code 16 = _
  decide +kernel
theorem d112_17 (L : Nat) (xs : Nat → Int32) : decode (ax_code (mgT L xs) 112) 17 = .ok (.ireturn, 1) := by
  show decode prog_11_method_6_code 17 = _
  decide +kernel
section MDA
variable {L : Nat} {xs : Nat → Int32} {d : Nat} {s : mg_s}
theorem md_let {c : Nat} (hc : c < 2 ^ 31) : ca L xs (d + 1) 111 [.int (nI c)] s (fun v s' => v = some (.int (nI (bI (c_let c)))) ∧ s = s') := by
  refine wg_call (Nat.le_of_ble_eq_true rfl) ?_
  show wp L xs d 111 0 [some (.int (nI c))] [] s _
  refine wg_iload_n (d111_0 L xs) rfl ?_
  refine wg_bipush (d111_1 L xs) (x := 97) (by decide) ?_
  refine wn_icmp_lt (d111_3 L xs) (x := c) (y := 97) (by omega) (by omega) (t := 16) (by decide) (fun h1 => ?_) (fun h1 => ?_)
  · refine wg_iconst (d111_16 L xs) (x := 0) (by decide) ?_
    exact wg_iret (d111_17 L xs) rfl rfl ⟨by rw [show c_let c = false by simp [c_let]; omega]; rfl, rfl⟩
  · refine wg_iload_n (d111_6 L xs) rfl ?_
    refine wg_bipush (d111_7 L xs) (x := 122) (by decide) ?_
    refine wn_icmp_gt (d111_9 L xs) (x := c) (y := 122) (by omega) (by omega) (t := 16) (by decide) (fun h2 => ?_) (fun h2 => ?_)
    · refine wg_iconst (d111_16 L xs) (x := 0) (by decide) ?_
      exact wg_iret (d111_17 L xs) rfl rfl ⟨by rw [show c_let c = false by simp [c_let]; omega]; rfl, rfl⟩
    · refine wg_iconst (d111_12 L xs) (x := 1) (by decide) ?_
      refine wg_goto (d111_13 L xs) (t := 17) (by decide) ?_
      exact wg_iret (d111_17 L xs) rfl rfl ⟨by rw [show c_let c = true by simp [c_let]; omega]; rfl, rfl⟩
theorem md_dig {c : Nat} (hc : c < 2 ^ 31) : ca L xs (d + 1) 112 [.int (nI c)] s (fun v s' => v = some (.int (nI (bI (c_dig c)))) ∧ s = s') := by
  refine wg_call (Nat.le_of_ble_eq_true rfl) ?_
  show wp L xs d 112 0 [some (.int (nI c))] [] s _
  refine wg_iload_n (d112_0 L xs) rfl ?_
  refine wg_bipush (d112_1 L xs) (x := 48) (by decide) ?_
  refine wn_icmp_lt (d112_3 L xs) (x := c) (y := 48) (by omega) (by omega) (t := 16) (by decide) (fun h1 => ?_) (fun h1 => ?_)
  · refine wg_iconst (d112_16 L xs) (x := 0) (by decide) ?_
    exact wg_iret (d112_17 L xs) rfl rfl ⟨by rw [show c_dig c = false by simp [c_dig]; omega]; rfl, rfl⟩
  · refine wg_iload_n (d112_6 L xs) rfl ?_
    refine wg_bipush (d112_7 L xs) (x := 57) (by decide) ?_
    refine wn_icmp_gt (d112_9 L xs) (x := c) (y := 57) (by omega) (by omega) (t := 16) (by decide) (fun h2 => ?_) (fun h2 => ?_)
    · refine wg_iconst (d112_16 L xs) (x := 0) (by decide) ?_
      exact wg_iret (d112_17 L xs) rfl rfl ⟨by rw [show c_dig c = false by simp [c_dig]; omega]; rfl, rfl⟩
    · refine wg_iconst (d112_12 L xs) (x := 1) (by decide) ?_
      refine wg_goto (d112_13 L xs) (t := 17) (by decide) ?_
      exact wg_iret (d112_17 L xs) rfl rfl ⟨by rw [show c_dig c = true by simp [c_dig]; omega]; rfl, rfl⟩
theorem zz {b : Bool} {run : Nat} (h : bI b = 0 ∨ run = 0) : (b && decide (0 < run)) = false := by
  rcases h with h | h
  · rw [bI_f h]; rfl
  · rw [decide_eq_false (by omega)]; simp
theorem md_name_l {q N fr to : Nat} {g : Nat → Nat} (Hq : isA q N) (hg : ∀ k, k < to → s.2.1 q k = nI (g k) ∧ g k < 65536) (hto : to ≤ N) (hN : N < 2 ^ 20) : ∀ (m i run : Nat) (b : Bool) (c5 : Option Value), i + m = to → run ≤ i → wp L xs (d + 1) 110 25 [some (.ref q), some (.int (nI fr)), some (.int (nI to)), some (.int (nI run)), some (.int (nI (bI b))), some (.int (nI i)), c5] [] s (fun v s' => v = some (.int (nI (bI (b && f_run g run i m)))) ∧ s = s') := by
  intro m
  induction m with
  | zero =>
    intro i run b c5 hi hr
    have hb0 := bI_lt b
    refine wg_iload (d110_25 L xs) rfl ?_
    refine wg_iload_n (d110_27 L xs) rfl ?_
    refine wn_icmp_ge (d110_28 L xs) (x := i) (y := to) (by omega) (by omega) (t := 122) (by decide) (fun h1 => ?_) (fun h1 => by omega)
    refine wg_iload (d110_122 L xs) rfl ?_
    refine wn_if_eq (d110_124 L xs) (x := bI b) (by omega) (t := 135) (by decide) (fun h2 => ?_) (fun h2 => ?_)
    · refine wg_iconst (d110_135 L xs) (x := 0) (by decide) ?_
      exact wg_iret (d110_136 L xs) rfl rfl ⟨by rw [f_run, show (b && decide (0 < run)) = false from zz (by omega)]; rfl, rfl⟩
    · refine wg_iload_n (d110_127 L xs) rfl ?_
      refine wn_if_le (d110_128 L xs) (x := run) (by omega) (t := 135) (by decide) (fun h3 => ?_) (fun h3 => ?_)
      · refine wg_iconst (d110_135 L xs) (x := 0) (by decide) ?_
        exact wg_iret (d110_136 L xs) rfl rfl ⟨by rw [f_run, show (b && decide (0 < run)) = false from zz (by omega)]; rfl, rfl⟩
      · refine wg_iconst (d110_131 L xs) (x := 1) (by decide) ?_
        refine wg_goto (d110_132 L xs) (t := 136) (by decide) ?_
        exact wg_iret (d110_136 L xs) rfl rfl ⟨by rw [f_run, bI_t (b := b) (by omega), decide_eq_true (by omega)]; rfl, rfl⟩
  | succ m ih =>
    intro i run b c5 hi hr
    have hb0 := bI_lt b
    have hg0 := (hg i (by omega)).2
    have hb1 := bI_lt (c_let (g i))
    have hb2 := bI_lt (c_dig (g i))
    refine wg_iload (d110_25 L xs) rfl ?_
    refine wg_iload_n (d110_27 L xs) rfl ?_
    refine wn_icmp_ge (d110_28 L xs) (x := i) (y := to) (by omega) (by omega) (t := 122) (by decide) (fun h1 => by omega) (fun h1 => ?_)
    refine wg_aload_n (d110_31 L xs) rfl ?_
    refine wg_iload (d110_32 L xs) rfl ?_
    refine wg_iald (d110_34 L xs) Hq.1 (ar_d Hq) (vp_in_nI (n := i) (by omega) (by omega)) ?_
    refine wg_top (y := nI (g i)) (by rw [nI_nat (by omega)]; exact (hg i (by omega)).1) ?_
    refine wg_istore (d110_35 L xs) (ls' := [some (.ref q), some (.int (nI fr)), some (.int (nI to)), some (.int (nI run)), some (.int (nI (bI b))), some (.int (nI i)), some (.int (nI (g i)))]) (Nat.le_of_ble_eq_true rfl) rfl ?_
    refine wg_iload (d110_37 L xs) rfl ?_
    refine wg_bipush (d110_39 L xs) (x := 46) (by decide) ?_
    refine wn_icmp_ne (d110_41 L xs) (x := g i) (y := 46) (by omega) (by omega) (t := 65) (by decide) (fun h2 => ?_) (fun h2 => ?_)
    · refine wg_iinc (d110_65 L xs) (y := (nI (run + 1))) (ls' := [some (.ref q), some (.int (nI fr)), some (.int (nI to)), some (.int (nI (run + 1))), some (.int (nI (bI b))), some (.int (nI i)), some (.int (nI (g i)))]) rfl (nI_add run 1) rfl ?_
      refine wg_iload (d110_68 L xs) rfl ?_
      refine wn_if_eq (d110_70 L xs) (x := bI b) (by omega) (t := 113) (by decide) (fun h3 => ?_) (fun h3 => ?_)
      · refine wg_iconst (d110_113 L xs) (x := 0) (by decide) ?_
        refine wg_istore (d110_114 L xs) (ls' := [some (.ref q), some (.int (nI fr)), some (.int (nI to)), some (.int (nI (run + 1))), some (.int 0), some (.int (nI i)), some (.int (nI (g i)))]) (Nat.le_of_ble_eq_true rfl) rfl ?_
        refine wg_iinc (d110_116 L xs) (y := (nI (i + 1))) (ls' := [some (.ref q), some (.int (nI fr)), some (.int (nI to)), some (.int (nI (run + 1))), some (.int 0), some (.int (nI (i + 1))), some (.int (nI (g i)))]) rfl (nI_add i 1) rfl ?_
        refine wg_goto (d110_119 L xs) (t := 25) (by decide) ?_
        rw [run_f (by omega)]; exact ih (i + 1) (run + 1) false _ (by omega) (by omega)
      · refine wg_iload_n (d110_73 L xs) rfl ?_
        refine wg_bipush (d110_74 L xs) (x := 16) (by decide) ?_
        refine wn_icmp_gt (d110_76 L xs) (x := run + 1) (y := 16) (by omega) (by omega) (t := 113) (by decide) (fun h4 => ?_) (fun h4 => ?_)
        · refine wg_iconst (d110_113 L xs) (x := 0) (by decide) ?_
          refine wg_istore (d110_114 L xs) (ls' := [some (.ref q), some (.int (nI fr)), some (.int (nI to)), some (.int (nI (run + 1))), some (.int 0), some (.int (nI i)), some (.int (nI (g i)))]) (Nat.le_of_ble_eq_true rfl) rfl ?_
          refine wg_iinc (d110_116 L xs) (y := (nI (i + 1))) (ls' := [some (.ref q), some (.int (nI fr)), some (.int (nI to)), some (.int (nI (run + 1))), some (.int 0), some (.int (nI (i + 1))), some (.int (nI (g i)))]) rfl (nI_add i 1) rfl ?_
          refine wg_goto (d110_119 L xs) (t := 25) (by decide) ?_
          rw [run_f (by omega)]; exact ih (i + 1) (run + 1) false _ (by omega) (by omega)
        · refine wg_iload (d110_79 L xs) rfl ?_
          refine wg_invs (d110_81 L xs) (kd := 6) (mj := 111) (n := 1) rfl (Or.inl rfl) (ys := [.int (nI (g i))]) (r := []) rfl rfl (Nat.le_of_ble_eq_true rfl) (md_let (by omega)) ?_
          rintro _ _ ⟨rfl, rfl⟩
          refine wn_if_ne (d110_84 L xs) (x := bI (c_let (g i))) (by omega) (t := 109) (by decide) (fun h5 => ?_) (fun h5 => ?_)
          · refine wg_iconst (d110_109 L xs) (x := 1) (by decide) ?_
            refine wg_goto (d110_110 L xs) (t := 114) (by decide) ?_
            refine wg_istore (d110_114 L xs) (ls' := [some (.ref q), some (.int (nI fr)), some (.int (nI to)), some (.int (nI (run + 1))), some (.int 1), some (.int (nI i)), some (.int (nI (g i)))]) (Nat.le_of_ble_eq_true rfl) rfl ?_
            refine wg_iinc (d110_116 L xs) (y := (nI (i + 1))) (ls' := [some (.ref q), some (.int (nI fr)), some (.int (nI to)), some (.int (nI (run + 1))), some (.int 1), some (.int (nI (i + 1))), some (.int (nI (g i)))]) rfl (nI_add i 1) rfl ?_
            refine wg_goto (d110_119 L xs) (t := 25) (by decide) ?_
            rw [run_t2 (by omega) (by omega) (by omega) (by omega)]; exact ih (i + 1) (run + 1) true _ (by omega) (by omega)
          · refine wg_iload (d110_87 L xs) rfl ?_
            refine wg_invs (d110_89 L xs) (kd := 6) (mj := 112) (n := 1) rfl (Or.inl rfl) (ys := [.int (nI (g i))]) (r := []) rfl rfl (Nat.le_of_ble_eq_true rfl) (md_dig (by omega)) ?_
            rintro _ _ ⟨rfl, rfl⟩
            refine wn_if_ne (d110_92 L xs) (x := bI (c_dig (g i))) (by omega) (t := 109) (by decide) (fun h6 => ?_) (fun h6 => ?_)
            · refine wg_iconst (d110_109 L xs) (x := 1) (by decide) ?_
              refine wg_goto (d110_110 L xs) (t := 114) (by decide) ?_
              refine wg_istore (d110_114 L xs) (ls' := [some (.ref q), some (.int (nI fr)), some (.int (nI to)), some (.int (nI (run + 1))), some (.int 1), some (.int (nI i)), some (.int (nI (g i)))]) (Nat.le_of_ble_eq_true rfl) rfl ?_
              refine wg_iinc (d110_116 L xs) (y := (nI (i + 1))) (ls' := [some (.ref q), some (.int (nI fr)), some (.int (nI to)), some (.int (nI (run + 1))), some (.int 1), some (.int (nI (i + 1))), some (.int (nI (g i)))]) rfl (nI_add i 1) rfl ?_
              refine wg_goto (d110_119 L xs) (t := 25) (by decide) ?_
              rw [run_t2 (by omega) (by omega) (by omega) (by omega)]; exact ih (i + 1) (run + 1) true _ (by omega) (by omega)
            · refine wg_iload (d110_95 L xs) rfl ?_
              refine wg_bipush (d110_97 L xs) (x := 45) (by decide) ?_
              refine wn_icmp_eq (d110_99 L xs) (x := g i) (y := 45) (by omega) (by omega) (t := 109) (by decide) (fun h7 => ?_) (fun h7 => ?_)
              · refine wg_iconst (d110_109 L xs) (x := 1) (by decide) ?_
                refine wg_goto (d110_110 L xs) (t := 114) (by decide) ?_
                refine wg_istore (d110_114 L xs) (ls' := [some (.ref q), some (.int (nI fr)), some (.int (nI to)), some (.int (nI (run + 1))), some (.int 1), some (.int (nI i)), some (.int (nI (g i)))]) (Nat.le_of_ble_eq_true rfl) rfl ?_
                refine wg_iinc (d110_116 L xs) (y := (nI (i + 1))) (ls' := [some (.ref q), some (.int (nI fr)), some (.int (nI to)), some (.int (nI (run + 1))), some (.int 1), some (.int (nI (i + 1))), some (.int (nI (g i)))]) rfl (nI_add i 1) rfl ?_
                refine wg_goto (d110_119 L xs) (t := 25) (by decide) ?_
                rw [run_t2 (by omega) (by omega) (by omega) (by omega)]; exact ih (i + 1) (run + 1) true _ (by omega) (by omega)
              · refine wg_iload (d110_102 L xs) rfl ?_
                refine wg_bipush (d110_104 L xs) (x := 95) (by decide) ?_
                refine wn_icmp_ne (d110_106 L xs) (x := g i) (y := 95) (by omega) (by omega) (t := 113) (by decide) (fun h8 => ?_) (fun h8 => ?_)
                · refine wg_iconst (d110_113 L xs) (x := 0) (by decide) ?_
                  refine wg_istore (d110_114 L xs) (ls' := [some (.ref q), some (.int (nI fr)), some (.int (nI to)), some (.int (nI (run + 1))), some (.int 0), some (.int (nI i)), some (.int (nI (g i)))]) (Nat.le_of_ble_eq_true rfl) rfl ?_
                  refine wg_iinc (d110_116 L xs) (y := (nI (i + 1))) (ls' := [some (.ref q), some (.int (nI fr)), some (.int (nI to)), some (.int (nI (run + 1))), some (.int 0), some (.int (nI (i + 1))), some (.int (nI (g i)))]) rfl (nI_add i 1) rfl ?_
                  refine wg_goto (d110_119 L xs) (t := 25) (by decide) ?_
                  rw [run_f (by omega)]; exact ih (i + 1) (run + 1) false _ (by omega) (by omega)
                · refine wg_iconst (d110_109 L xs) (x := 1) (by decide) ?_
                  refine wg_goto (d110_110 L xs) (t := 114) (by decide) ?_
                  refine wg_istore (d110_114 L xs) (ls' := [some (.ref q), some (.int (nI fr)), some (.int (nI to)), some (.int (nI (run + 1))), some (.int 1), some (.int (nI i)), some (.int (nI (g i)))]) (Nat.le_of_ble_eq_true rfl) rfl ?_
                  refine wg_iinc (d110_116 L xs) (y := (nI (i + 1))) (ls' := [some (.ref q), some (.int (nI fr)), some (.int (nI to)), some (.int (nI (run + 1))), some (.int 1), some (.int (nI (i + 1))), some (.int (nI (g i)))]) rfl (nI_add i 1) rfl ?_
                  refine wg_goto (d110_119 L xs) (t := 25) (by decide) ?_
                  rw [run_t2 (by omega) (by omega) (by omega) (by omega)]; exact ih (i + 1) (run + 1) true _ (by omega) (by omega)
    · refine wg_iload (d110_44 L xs) rfl ?_
      refine wn_if_eq (d110_46 L xs) (x := bI b) (by omega) (t := 57) (by decide) (fun h9 => ?_) (fun h9 => ?_)
      · refine wg_iconst (d110_57 L xs) (x := 0) (by decide) ?_
        refine wg_istore (d110_58 L xs) (ls' := [some (.ref q), some (.int (nI fr)), some (.int (nI to)), some (.int (nI run)), some (.int 0), some (.int (nI i)), some (.int (nI (g i)))]) (Nat.le_of_ble_eq_true rfl) rfl ?_
        refine wg_iconst (d110_60 L xs) (x := 0) (by decide) ?_
        refine wg_istore_n (d110_61 L xs) (ls' := [some (.ref q), some (.int (nI fr)), some (.int (nI to)), some (.int 0), some (.int 0), some (.int (nI i)), some (.int (nI (g i)))]) (Nat.le_of_ble_eq_true rfl) rfl ?_
        refine wg_goto (d110_62 L xs) (t := 116) (by decide) ?_
        refine wg_iinc (d110_116 L xs) (y := (nI (i + 1))) (ls' := [some (.ref q), some (.int (nI fr)), some (.int (nI to)), some (.int 0), some (.int 0), some (.int (nI (i + 1))), some (.int (nI (g i)))]) rfl (nI_add i 1) rfl ?_
        refine wg_goto (d110_119 L xs) (t := 25) (by decide) ?_
        rw [run_f (by omega)]; exact ih (i + 1) 0 false _ (by omega) (by omega)
      · refine wg_iload_n (d110_49 L xs) rfl ?_
        refine wn_if_le (d110_50 L xs) (x := run) (by omega) (t := 57) (by decide) (fun h10 => ?_) (fun h10 => ?_)
        · refine wg_iconst (d110_57 L xs) (x := 0) (by decide) ?_
          refine wg_istore (d110_58 L xs) (ls' := [some (.ref q), some (.int (nI fr)), some (.int (nI to)), some (.int (nI run)), some (.int 0), some (.int (nI i)), some (.int (nI (g i)))]) (Nat.le_of_ble_eq_true rfl) rfl ?_
          refine wg_iconst (d110_60 L xs) (x := 0) (by decide) ?_
          refine wg_istore_n (d110_61 L xs) (ls' := [some (.ref q), some (.int (nI fr)), some (.int (nI to)), some (.int 0), some (.int 0), some (.int (nI i)), some (.int (nI (g i)))]) (Nat.le_of_ble_eq_true rfl) rfl ?_
          refine wg_goto (d110_62 L xs) (t := 116) (by decide) ?_
          refine wg_iinc (d110_116 L xs) (y := (nI (i + 1))) (ls' := [some (.ref q), some (.int (nI fr)), some (.int (nI to)), some (.int 0), some (.int 0), some (.int (nI (i + 1))), some (.int (nI (g i)))]) rfl (nI_add i 1) rfl ?_
          refine wg_goto (d110_119 L xs) (t := 25) (by decide) ?_
          rw [run_f (by omega)]; exact ih (i + 1) 0 false _ (by omega) (by omega)
        · refine wg_iconst (d110_53 L xs) (x := 1) (by decide) ?_
          refine wg_goto (d110_54 L xs) (t := 58) (by decide) ?_
          refine wg_istore (d110_58 L xs) (ls' := [some (.ref q), some (.int (nI fr)), some (.int (nI to)), some (.int (nI run)), some (.int 1), some (.int (nI i)), some (.int (nI (g i)))]) (Nat.le_of_ble_eq_true rfl) rfl ?_
          refine wg_iconst (d110_60 L xs) (x := 0) (by decide) ?_
          refine wg_istore_n (d110_61 L xs) (ls' := [some (.ref q), some (.int (nI fr)), some (.int (nI to)), some (.int 0), some (.int 1), some (.int (nI i)), some (.int (nI (g i)))]) (Nat.le_of_ble_eq_true rfl) rfl ?_
          refine wg_goto (d110_62 L xs) (t := 116) (by decide) ?_
          refine wg_iinc (d110_116 L xs) (y := (nI (i + 1))) (ls' := [some (.ref q), some (.int (nI fr)), some (.int (nI to)), some (.int 0), some (.int 1), some (.int (nI (i + 1))), some (.int (nI (g i)))]) rfl (nI_add i 1) rfl ?_
          refine wg_goto (d110_119 L xs) (t := 25) (by decide) ?_
          rw [run_t1 (by omega) (by omega) (by omega)]; exact ih (i + 1) 0 true _ (by omega) (by omega)
theorem t_name_f {g : Nat → Nat} {i j : Nat} (h : j - i < 1 ∨ 48 < j - i) : t_name g i j = false := by
  unfold t_name
  by_cases h' : j ≤ i + 48
  · rw [show j - i = 0 by omega, f_run]; simp
  · rw [decide_eq_false h']; rfl
theorem md_isName {q N fr to : Nat} {g : Nat → Nat} (Hq : isA q N) (hg : ∀ k, k < to → s.2.1 q k = nI (g k) ∧ g k < 65536) (hto : to ≤ N) (hN : N < 2 ^ 20) (hf : fr ≤ to) : ca L xs (d + 2) 110 [.ref q, .int (nI fr), .int (nI to)] s (fun v s' => v = some (.int (nI (bI (t_name g fr to)))) ∧ s = s') := by
  refine wg_call (Nat.le_of_ble_eq_true rfl) ?_
  show wp L xs (d + 1) 110 0 [some (.ref q), some (.int (nI fr)), some (.int (nI to)), none, none, none, none] [] s _
  refine wg_iload_n (d110_0 L xs) rfl ?_
  refine wg_iload_n (d110_1 L xs) rfl ?_
  refine wg_isub (d110_2 L xs) ?_
  refine wg_top (y := (nI (to - fr))) (pk_sub (a := to) (b := fr) (by omega)) ?_
  refine wg_iconst (d110_3 L xs) (x := 1) (by decide) ?_
  refine wn_icmp_lt (d110_4 L xs) (x := to - fr) (y := 1) (by omega) (by omega) (t := 15) (by decide) (fun h1 => ?_) (fun h1 => ?_)
  · refine wg_iconst (d110_15 L xs) (x := 0) (by decide) ?_
    exact wg_iret (d110_16 L xs) rfl rfl ⟨by rw [t_name_f (by omega)]; rfl, rfl⟩
  · refine wg_iload_n (d110_7 L xs) rfl ?_
    refine wg_iload_n (d110_8 L xs) rfl ?_
    refine wg_isub (d110_9 L xs) ?_
    refine wg_top (y := (nI (to - fr))) (pk_sub (a := to) (b := fr) (by omega)) ?_
    refine wg_bipush (d110_10 L xs) (x := 48) (by decide) ?_
    refine wn_icmp_le (d110_12 L xs) (x := to - fr) (y := 48) (by omega) (by omega) (t := 17) (by decide) (fun h2 => ?_) (fun h2 => ?_)
    · refine wg_iconst (d110_17 L xs) (x := 0) (by decide) ?_
      refine wg_istore_n (d110_18 L xs) (ls' := [some (.ref q), some (.int (nI fr)), some (.int (nI to)), some (.int 0), none, none, none]) (Nat.le_of_ble_eq_true rfl) rfl ?_
      refine wg_iconst (d110_19 L xs) (x := 1) (by decide) ?_
      refine wg_istore (d110_20 L xs) (ls' := [some (.ref q), some (.int (nI fr)), some (.int (nI to)), some (.int 0), some (.int 1), none, none]) (Nat.le_of_ble_eq_true rfl) rfl ?_
      refine wg_iload_n (d110_22 L xs) rfl ?_
      refine wg_istore (d110_23 L xs) (ls' := [some (.ref q), some (.int (nI fr)), some (.int (nI to)), some (.int 0), some (.int 1), some (.int (nI fr)), none]) (Nat.le_of_ble_eq_true rfl) rfl ?_
      rw [show t_name g fr to = (true && f_run g 0 fr (to - fr)) by rw [t_name, decide_eq_true (by omega)]]; exact md_name_l (fr := fr) Hq hg hto hN (to - fr) fr 0 true none (by omega) (by omega)
    · refine wg_iconst (d110_15 L xs) (x := 0) (by decide) ?_
      exact wg_iret (d110_16 L xs) rfl rfl ⟨by rw [t_name_f (by omega)]; rfl, rfl⟩
end MDA
