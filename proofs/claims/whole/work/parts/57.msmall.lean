/-! small methods of the reference: rows, asked, bears -/
theorem d122_0 (L : Nat) (xs : Nat → Int32) : decode (ax_code (mgT L xs) 122) 0 = .ok (.aload_n 0, 1) := by
  show decode prog_11_method_13_code 0 = _
  decide +kernel
theorem d122_1 (L : Nat) (xs : Nat → Int32) : decode (ax_code (mgT L xs) 122) 1 = .ok (.getfield 22, 3) := by
  show decode prog_11_method_13_code 1 = _
  decide +kernel
theorem d122_4 (L : Nat) (xs : Nat → Int32) : decode (ax_code (mgT L xs) 122) 4 = .ok (.iload_n 1, 1) := by
  show decode prog_11_method_13_code 4 = _
  decide +kernel
theorem d122_5 (L : Nat) (xs : Nat → Int32) : decode (ax_code (mgT L xs) 122) 5 = .ok (.iaload, 1) := by
  show decode prog_11_method_13_code 5 = _
  decide +kernel
theorem d122_6 (L : Nat) (xs : Nat → Int32) : decode (ax_code (mgT L xs) 122) 6 = .ok (.aload_n 0, 1) := by
  show decode prog_11_method_13_code 6 = _
  decide +kernel
theorem d122_7 (L : Nat) (xs : Nat → Int32) : decode (ax_code (mgT L xs) 122) 7 = .ok (.getfield 114, 3) := by
  show decode prog_11_method_13_code 7 = _
  decide +kernel
theorem d122_10 (L : Nat) (xs : Nat → Int32) : decode (ax_code (mgT L xs) 122) 10 = .ok (.if_icmp .ne 7, 3) := by
  show decode prog_11_method_13_code 10 = _
  decide +kernel
theorem d122_13 (L : Nat) (xs : Nat → Int32) : decode (ax_code (mgT L xs) 122) 13 = .ok (.iconst 1, 1) := by
  show decode prog_11_method_13_code 13 = _
  decide +kernel
theorem d122_14 (L : Nat) (xs : Nat → Int32) : decode (ax_code (mgT L xs) 122) 14 = .ok (.goto 4, 3) := by
  show decode prog_11_method_13_code 14 = _
  decide +kernel
theorem d122_17 (L : Nat) (xs : Nat → Int32) : decode (ax_code (mgT L xs) 122) 17 = .ok (.iconst 0, 1) := by
  show decode prog_11_method_13_code 17 = _
  decide +kernel
theorem d122_18 (L : Nat) (xs : Nat → Int32) : decode (ax_code (mgT L xs) 122) 18 = .ok (.istore_n 2, 1) := by
  show decode prog_11_method_13_code 18 = _
  decide +kernel
theorem d122_19 (L : Nat) (xs : Nat → Int32) : decode (ax_code (mgT L xs) 122) 19 = .ok (.iconst 0, 1) := by
  show decode prog_11_method_13_code 19 = _
  decide +kernel
theorem d122_20 (L : Nat) (xs : Nat → Int32) : decode (ax_code (mgT L xs) 122) 20 = .ok (.istore_n 3, 1) := by
  show decode prog_11_method_13_code 20 = _
  decide +kernel
theorem d122_21 (L : Nat) (xs : Nat → Int32) : decode (ax_code (mgT L xs) 122) 21 = .ok (.iload_n 3, 1) := by
  show decode prog_11_method_13_code 21 = _
  decide +kernel
theorem d122_22 (L : Nat) (xs : Nat → Int32) : decode (ax_code (mgT L xs) 122) 22 = .ok (.aload_n 0, 1) := by
  show decode prog_11_method_13_code 22 = _
  decide +kernel
theorem d122_23 (L : Nat) (xs : Nat → Int32) : decode (ax_code (mgT L xs) 122) 23 = .ok (.getfield 114, 3) := by
  show decode prog_11_method_13_code 23 = _
  decide +kernel
theorem d122_26 (L : Nat) (xs : Nat → Int32) : decode (ax_code (mgT L xs) 122) 26 = .ok (.if_icmp .ge 39, 3) := by
  show decode prog_11_method_13_code 26 = _
  decide +kernel
theorem d122_29 (L : Nat) (xs : Nat → Int32) : decode (ax_code (mgT L xs) 122) 29 = .ok (.iload_n 2, 1) := by
  show decode prog_11_method_13_code 29 = _
  decide +kernel
theorem d122_30 (L : Nat) (xs : Nat → Int32) : decode (ax_code (mgT L xs) 122) 30 = .ok (.ifCond .eq 35, 3) := by
  show decode prog_11_method_13_code 30 = _
  decide +kernel
theorem d122_33 (L : Nat) (xs : Nat → Int32) : decode (ax_code (mgT L xs) 122) 33 = .ok (.aload_n 0, 1) := by
  show decode prog_11_method_13_code 33 = _
  decide +kernel
theorem d122_34 (L : Nat) (xs : Nat → Int32) : decode (ax_code (mgT L xs) 122) 34 = .ok (.getfield 16, 3) := by
  show decode prog_11_method_13_code 34 = _
  decide +kernel
theorem d122_37 (L : Nat) (xs : Nat → Int32) : decode (ax_code (mgT L xs) 122) 37 = .ok (.bipush 100, 2) := by
  show decode prog_11_method_13_code 37 = _
  decide +kernel
theorem d122_39 (L : Nat) (xs : Nat → Int32) : decode (ax_code (mgT L xs) 122) 39 = .ok (.iload_n 1, 1) := by
  show decode prog_11_method_13_code 39 = _
  decide +kernel
theorem d122_40 (L : Nat) (xs : Nat → Int32) : decode (ax_code (mgT L xs) 122) 40 = .ok (.imul, 1) := by
  show decode prog_11_method_13_code 40 = _
  decide +kernel
theorem d122_41 (L : Nat) (xs : Nat → Int32) : decode (ax_code (mgT L xs) 122) 41 = .ok (.iload_n 3, 1) := by
  show decode prog_11_method_13_code 41 = _
  decide +kernel
theorem d122_42 (L : Nat) (xs : Nat → Int32) : decode (ax_code (mgT L xs) 122) 42 = .ok (.iadd, 1) := by
  show decode prog_11_method_13_code 42 = _
  decide +kernel
theorem d122_43 (L : Nat) (xs : Nat → Int32) : decode (ax_code (mgT L xs) 122) 43 = .ok (.iaload, 1) := by
  show decode prog_11_method_13_code 43 = _
  decide +kernel
theorem d122_44 (L : Nat) (xs : Nat → Int32) : decode (ax_code (mgT L xs) 122) 44 = .ok (.aload_n 0, 1) := by
  show decode prog_11_method_13_code 44 = _
  decide +kernel
theorem d122_45 (L : Nat) (xs : Nat → Int32) : decode (ax_code (mgT L xs) 122) 45 = .ok (.getfield 28, 3) := by
  show decode prog_11_method_13_code 45 = _
  decide +kernel
theorem d122_48 (L : Nat) (xs : Nat → Int32) : decode (ax_code (mgT L xs) 122) 48 = .ok (.iload_n 3, 1) := by
  show decode prog_11_method_13_code 48 = _
  decide +kernel
theorem d122_49 (L : Nat) (xs : Nat → Int32) : decode (ax_code (mgT L xs) 122) 49 = .ok (.iaload, 1) := by
  show decode prog_11_method_13_code 49 = _
  decide +kernel
theorem d122_50 (L : Nat) (xs : Nat → Int32) : decode (ax_code (mgT L xs) 122) 50 = .ok (.if_icmp .ne 7, 3) := by
  show decode prog_11_method_13_code 50 = _
  decide +kernel
theorem d122_53 (L : Nat) (xs : Nat → Int32) : decode (ax_code (mgT L xs) 122) 53 = .ok (.iconst 1, 1) := by
  show decode prog_11_method_13_code 53 = _
  decide +kernel
theorem d122_54 (L : Nat) (xs : Nat → Int32) : decode (ax_code (mgT L xs) 122) 54 = .ok (.goto 4, 3) := by
  show decode prog_11_method_13_code 54 = _
  decide +kernel
theorem d122_57 (L : Nat) (xs : Nat → Int32) : decode (ax_code (mgT L xs) 122) 57 = .ok (.iconst 0, 1) := by
  show decode prog_11_method_13_code 57 = _
  decide +kernel
theorem d122_58 (L : Nat) (xs : Nat → Int32) : decode (ax_code (mgT L xs) 122) 58 = .ok (.istore_n 2, 1) := by
  show decode prog_11_method_13_code 58 = _
  decide +kernel
theorem d122_59 (L : Nat) (xs : Nat → Int32) : decode (ax_code (mgT L xs) 122) 59 = .ok (.iinc 3 1, 3) := by
  show decode prog_11_method_13_code 59 = _
  decide +kernel
theorem d122_62 (L : Nat) (xs : Nat → Int32) : decode (ax_code (mgT L xs) 122) 62 = .ok (.goto (-41), 3) := by
  show decode prog_11_method_13_code 62 = _
  decide +kernel
theorem d122_65 (L : Nat) (xs : Nat → Int32) : decode (ax_code (mgT L xs) 122) 65 = .ok (.iload_n 2, 1) := by
  show decode prog_11_method_13_code 65 = _
  decide +kernel
theorem d122_66 (L : Nat) (xs : Nat → Int32) : decode (ax_code (mgT L xs) 122) 66 = .ok (.ireturn, 1) := by
  show decode prog_11_method_13_code 66 = _
  decide +kernel
theorem d154_16 (L : Nat) (xs : Nat → Int32) : decode (ax_code (mgT L xs) 154) 16 = .ok (.iload_n 1, 1) := by
  show decode prog_11_method_51_code 16 = _
  decide +kernel
theorem d154_17 (L : Nat) (xs : Nat → Int32) : decode (ax_code (mgT L xs) 154) 17 = .ok (.iconst (-1), 1) := by
  show decode prog_11_method_51_code 17 = _
  decide +kernel
theorem d154_18 (L : Nat) (xs : Nat → Int32) : decode (ax_code (mgT L xs) 154) 18 = .ok (.if_icmp .ne 10, 3) := by
  show decode prog_11_method_51_code 18 = _
  decide +kernel
theorem d154_21 (L : Nat) (xs : Nat → Int32) : decode (ax_code (mgT L xs) 154) 21 = .ok (.aload_n 0, 1) := by
  show decode prog_11_method_51_code 21 = _
  decide +kernel
theorem d154_22 (L : Nat) (xs : Nat → Int32) : decode (ax_code (mgT L xs) 154) 22 = .ok (.getfield 121, 3) := by
  show decode prog_11_method_51_code 22 = _
  decide +kernel
theorem d154_25 (L : Nat) (xs : Nat → Int32) : decode (ax_code (mgT L xs) 154) 25 = .ok (.goto 25, 3) := by
  show decode prog_11_method_51_code 25 = _
  decide +kernel
theorem d154_28 (L : Nat) (xs : Nat → Int32) : decode (ax_code (mgT L xs) 154) 28 = .ok (.iload_n 1, 1) := by
  show decode prog_11_method_51_code 28 = _
  decide +kernel
theorem d154_29 (L : Nat) (xs : Nat → Int32) : decode (ax_code (mgT L xs) 154) 29 = .ok (.ifCond .lt 11, 3) := by
  show decode prog_11_method_51_code 29 = _
  decide +kernel
theorem d154_32 (L : Nat) (xs : Nat → Int32) : decode (ax_code (mgT L xs) 154) 32 = .ok (.iload_n 1, 1) := by
  show decode prog_11_method_51_code 32 = _
  decide +kernel
theorem d154_33 (L : Nat) (xs : Nat → Int32) : decode (ax_code (mgT L xs) 154) 33 = .ok (.aload_n 0, 1) := by
  show decode prog_11_method_51_code 33 = _
  decide +kernel
theorem d154_34 (L : Nat) (xs : Nat → Int32) : decode (ax_code (mgT L xs) 154) 34 = .ok (.getfield 121, 3) := by
  show decode prog_11_method_51_code 34 = _
  decide +kernel
theorem d154_37 (L : Nat) (xs : Nat → Int32) : decode (ax_code (mgT L xs) 154) 37 = .ok (.if_icmp .lt 7, 3) := by
  show decode prog_11_method_51_code 37 = _
  decide +kernel
theorem d154_40 (L : Nat) (xs : Nat → Int32) : decode (ax_code (mgT L xs) 154) 40 = .ok (.iconst (-1), 1) := by
  show decode prog_11_method_51_code 40 = _
  decide +kernel
theorem d154_41 (L : Nat) (xs : Nat → Int32) : decode (ax_code (mgT L xs) 154) 41 = .ok (.goto 9, 3) := by
  show decode prog_11_method_51_code 41 = _
  decide +kernel
theorem d154_44 (L : Nat) (xs : Nat → Int32) : decode (ax_code (mgT L xs) 154) 44 = .ok (.aload_n 0, 1) := by
  show decode prog_11_method_51_code 44 = _
  decide +kernel
theorem d154_45 (L : Nat) (xs : Nat → Int32) : decode (ax_code (mgT L xs) 154) 45 = .ok (.getfield 31, 3) := by
  show decode prog_11_method_51_code 45 = _
  decide +kernel
theorem d154_48 (L : Nat) (xs : Nat → Int32) : decode (ax_code (mgT L xs) 154) 48 = .ok (.iload_n 1, 1) := by
  show decode prog_11_method_51_code 48 = _
  decide +kernel
theorem d154_49 (L : Nat) (xs : Nat → Int32) : decode (ax_code (mgT L xs) 154) 49 = .ok (.iaload, 1) := by
  show decode prog_11_method_51_code 49 = _
  decide +kernel
theorem d163_33 (L : Nat) (xs : Nat → Int32) : decode (ax_code (mgT L xs) 163) 33 = .ok (.aload_n 0, 1) := by
  show decode prog_11_method_60_code 33 = _
  decide +kernel
theorem d163_34 (L : Nat) (xs : Nat → Int32) : decode (ax_code (mgT L xs) 163) 34 = .ok (.getfield 13, 3) := by
  show decode prog_11_method_60_code 34 = _
  decide +kernel
theorem d163_37 (L : Nat) (xs : Nat → Int32) : decode (ax_code (mgT L xs) 163) 37 = .ok (.iload_n 1, 1) := by
  show decode prog_11_method_60_code 37 = _
  decide +kernel
theorem d163_38 (L : Nat) (xs : Nat → Int32) : decode (ax_code (mgT L xs) 163) 38 = .ok (.iaload, 1) := by
  show decode prog_11_method_60_code 38 = _
  decide +kernel
section MS
variable {L : Nat} {xs : Nat → Int32} {d : Nat} {s : mg_s} {R : List rowT} {l m : List Nat}
theorem md_rowsm  : ca L xs (d + 1) 163 [.ref 141, .int (-1)] s (fun v s' => v = some (.int (s.1 141 3)) ∧ mg_I s 141 0 0 = s') := by
  refine wg_call (Nat.le_of_ble_eq_true rfl) ?_
  show wp L xs d 163 0 [some (.ref 141), some (.int (-1))] [] s _
  refine wg_aload_n (d163_0 L xs) rfl ?_
  refine wg_iconst (d163_1 L xs) (x := 0) (by decide) ?_
  refine wg_puti (d163_2 L xs) (cj := 9) (k0 := 0) rfl (by decide) rfl (Nat.le_of_ble_eq_true rfl) rfl rfl rfl ?_
  refine wg_iload_n (d163_5 L xs) rfl ?_
  refine wg_iconst (d163_6 L xs) (x := (-1)) (by decide) ?_
  refine wg_icmp_ne (d163_7 L xs) (t := 17) (by decide) (fun hp => absurd hp (by decide)) (fun _ => ?_)
  refine wg_aload_n (d163_10 L xs) rfl ?_
  refine wg_get (d163_11 L xs) (kd := 1) (cj := 9) (k0 := 3) rfl (Or.inl rfl) (by decide) rfl rfl ?_
  refine wg_goto (d163_14 L xs) (t := 39) (by decide) ?_
  exact wg_iret (d163_39 L xs) rfl rfl ⟨rfl, rfl⟩
theorem md_rowsi {j : Nat} (T : isTabM s R) (hj : j < R.length) : ca L xs (d + 1) 163 [.ref 141, .int (nI j)] s (fun v s' => v = some (.int (s.2.1 143 j)) ∧ mg_I s 141 0 0 = s') := by
  refine wg_call (Nat.le_of_ble_eq_true rfl) ?_
  have hR16 := T.2.1
  show wp L xs d 163 0 [some (.ref 141), some (.int (nI j))] [] s _
  refine wg_aload_n (d163_0 L xs) rfl ?_
  refine wg_iconst (d163_1 L xs) (x := 0) (by decide) ?_
  refine wg_puti (d163_2 L xs) (cj := 9) (k0 := 0) rfl (by decide) rfl (Nat.le_of_ble_eq_true rfl) rfl rfl rfl ?_
  refine wg_iload_n (d163_5 L xs) rfl ?_
  refine wg_iconst (d163_6 L xs) (x := (-1)) (by decide) ?_
  refine wg_icmp_ne (d163_7 L xs) (t := 17) (by decide) (fun h1 => ?_) (fun h1 => absurd (Classical.not_not.mp h1) (nI_neg1 (by omega)))
  refine wg_iload_n (d163_17 L xs) rfl ?_
  refine wn_if_lt (d163_18 L xs) (x := j) (by omega) (t := 29) (by decide) (fun h2 => by omega) (fun h2 => ?_)
  refine wg_iload_n (d163_21 L xs) rfl ?_
  refine wg_aload_n (d163_22 L xs) rfl ?_
  refine wg_get (d163_23 L xs) (kd := 1) (cj := 9) (k0 := 3) rfl (Or.inl rfl) (by decide) rfl rfl ?_
  refine wg_top (y := (nI R.length)) T.1 ?_
  refine wn_icmp_lt (d163_26 L xs) (x := j) (y := R.length) (by omega) (by omega) (t := 33) (by decide) (fun h3 => ?_) (fun h3 => by omega)
  refine wg_aload_n (d163_33 L xs) rfl ?_
  refine wg_get (d163_34 L xs) (kd := 1) (cj := 9) (k0 := 4) rfl (Or.inl rfl) (by decide) rfl rfl ?_
  refine wg_iload_n (d163_37 L xs) rfl ?_
  refine wg_iald (d163_38 L xs) (n := 16) (by decide) rfl (vp_in_nI (n := j) (by omega) (by omega)) ?_
  refine wg_top (y := (mg_I s 141 0 0).2.1 143 j) (by rw [nI_nat (by omega)]) ?_
  exact wg_iret (d163_39 L xs) rfl rfl ⟨rfl, rfl⟩
theorem md_rowso {x : Int32} (T : isTabM s R) (h0 : ¬ x = -1) (hx : x < 0 ∨ nI R.length ≤ x) : ca L xs (d + 1) 163 [.ref 141, .int x] s (fun v s' => v = some (.int (-1)) ∧ mg_I s 141 0 0 = s') := by
  refine wg_call (Nat.le_of_ble_eq_true rfl) ?_
  have hR16 := T.2.1
  show wp L xs d 163 0 [some (.ref 141), some (.int x)] [] s _
  refine wg_aload_n (d163_0 L xs) rfl ?_
  refine wg_iconst (d163_1 L xs) (x := 0) (by decide) ?_
  refine wg_puti (d163_2 L xs) (cj := 9) (k0 := 0) rfl (by decide) rfl (Nat.le_of_ble_eq_true rfl) rfl rfl rfl ?_
  refine wg_iload_n (d163_5 L xs) rfl ?_
  refine wg_iconst (d163_6 L xs) (x := (-1)) (by decide) ?_
  refine wg_icmp_ne (d163_7 L xs) (t := 17) (by decide) (fun h1 => ?_) (fun h1 => absurd h0 h1)
  refine wg_iload_n (d163_17 L xs) rfl ?_
  refine wg_if_lt (d163_18 L xs) (t := 29) (by decide) (fun h2 => ?_) (fun h2 => ?_)
  · refine wg_iconst (d163_29 L xs) (x := (-1)) (by decide) ?_
    refine wg_goto (d163_30 L xs) (t := 39) (by decide) ?_
    exact wg_iret (d163_39 L xs) rfl rfl ⟨rfl, rfl⟩
  · refine wg_iload_n (d163_21 L xs) rfl ?_
    refine wg_aload_n (d163_22 L xs) rfl ?_
    refine wg_get (d163_23 L xs) (kd := 1) (cj := 9) (k0 := 3) rfl (Or.inl rfl) (by decide) rfl rfl ?_
    refine wg_top (y := (nI R.length)) T.1 ?_
    refine wg_icmp_lt (d163_26 L xs) (t := 33) (by decide) (fun h3 => absurd h3 (Int32.not_lt.mpr (hx.resolve_left (by assumption)))) (fun h3 => ?_)
    refine wg_iconst (d163_29 L xs) (x := (-1)) (by decide) ?_
    refine wg_goto (d163_30 L xs) (t := 39) (by decide) ?_
    exact wg_iret (d163_39 L xs) rfl rfl ⟨rfl, rfl⟩
theorem md_askede {x : Int32} (ha : s.1 141 14 = 0) : ca L xs (d + 1) 154 [.ref 141, .int x] s (fun v s' => v = some (.int (-1)) ∧ mg_I s 141 0 0 = s') := by
  refine wg_call (Nat.le_of_ble_eq_true rfl) ?_
  show wp L xs d 154 0 [some (.ref 141), some (.int x)] [] s _
  refine wg_aload_n (d154_0 L xs) rfl ?_
  refine wg_iconst (d154_1 L xs) (x := 0) (by decide) ?_
  refine wg_puti (d154_2 L xs) (cj := 9) (k0 := 0) rfl (by decide) rfl (Nat.le_of_ble_eq_true rfl) rfl rfl rfl ?_
  refine wg_aload_n (d154_5 L xs) rfl ?_
  refine wg_get (d154_6 L xs) (kd := 1) (cj := 9) (k0 := 14) rfl (Or.inl rfl) (by decide) rfl rfl ?_
  refine wg_top (y := 0) ha ?_
  refine wg_if_ne (d154_9 L xs) (t := 16) (by decide) (fun hp => absurd hp (by decide)) (fun _ => ?_)
  refine wg_iconst (d154_12 L xs) (x := (-1)) (by decide) ?_
  refine wg_goto (d154_13 L xs) (t := 50) (by decide) ?_
  exact wg_iret (d154_50 L xs) rfl rfl ⟨rfl, rfl⟩
theorem md_askedm {n : Nat} (ha : s.1 141 14 = 1) (hn : s.1 141 12 = nI n) : ca L xs (d + 1) 154 [.ref 141, .int (-1)] s (fun v s' => v = some (.int (nI n)) ∧ mg_I s 141 0 0 = s') := by
  refine wg_call (Nat.le_of_ble_eq_true rfl) ?_
  show wp L xs d 154 0 [some (.ref 141), some (.int (-1))] [] s _
  refine wg_aload_n (d154_0 L xs) rfl ?_
  refine wg_iconst (d154_1 L xs) (x := 0) (by decide) ?_
  refine wg_puti (d154_2 L xs) (cj := 9) (k0 := 0) rfl (by decide) rfl (Nat.le_of_ble_eq_true rfl) rfl rfl rfl ?_
  refine wg_aload_n (d154_5 L xs) rfl ?_
  refine wg_get (d154_6 L xs) (kd := 1) (cj := 9) (k0 := 14) rfl (Or.inl rfl) (by decide) rfl rfl ?_
  refine wg_top (y := 1) ha ?_
  refine wg_if_ne (d154_9 L xs) (t := 16) (by decide) (fun _ => ?_) (fun hn => absurd (by decide) hn)
  refine wg_iload_n (d154_16 L xs) rfl ?_
  refine wg_iconst (d154_17 L xs) (x := (-1)) (by decide) ?_
  refine wg_icmp_ne (d154_18 L xs) (t := 28) (by decide) (fun hp => absurd hp (by decide)) (fun _ => ?_)
  refine wg_aload_n (d154_21 L xs) rfl ?_
  refine wg_get (d154_22 L xs) (kd := 1) (cj := 9) (k0 := 12) rfl (Or.inl rfl) (by decide) rfl rfl ?_
  refine wg_top (y := (nI n)) hn ?_
  refine wg_goto (d154_25 L xs) (t := 50) (by decide) ?_
  exact wg_iret (d154_50 L xs) rfl rfl ⟨rfl, rfl⟩
theorem md_askedi {n j : Nat} (ha : s.1 141 14 = 1) (hn : s.1 141 12 = nI n) (hj : j < n) (h60 : n ≤ 60) : ca L xs (d + 1) 154 [.ref 141, .int (nI j)] s (fun v s' => v = some (.int (s.2.1 149 j)) ∧ mg_I s 141 0 0 = s') := by
  refine wg_call (Nat.le_of_ble_eq_true rfl) ?_
  show wp L xs d 154 0 [some (.ref 141), some (.int (nI j))] [] s _
  refine wg_aload_n (d154_0 L xs) rfl ?_
  refine wg_iconst (d154_1 L xs) (x := 0) (by decide) ?_
  refine wg_puti (d154_2 L xs) (cj := 9) (k0 := 0) rfl (by decide) rfl (Nat.le_of_ble_eq_true rfl) rfl rfl rfl ?_
  refine wg_aload_n (d154_5 L xs) rfl ?_
  refine wg_get (d154_6 L xs) (kd := 1) (cj := 9) (k0 := 14) rfl (Or.inl rfl) (by decide) rfl rfl ?_
  refine wg_top (y := 1) ha ?_
  refine wg_if_ne (d154_9 L xs) (t := 16) (by decide) (fun _ => ?_) (fun hn => absurd (by decide) hn)
  refine wg_iload_n (d154_16 L xs) rfl ?_
  refine wg_iconst (d154_17 L xs) (x := (-1)) (by decide) ?_
  refine wg_icmp_ne (d154_18 L xs) (t := 28) (by decide) (fun h2 => ?_) (fun h2 => absurd (Classical.not_not.mp h2) (nI_neg1 (by omega)))
  refine wg_iload_n (d154_28 L xs) rfl ?_
  refine wn_if_lt (d154_29 L xs) (x := j) (by omega) (t := 40) (by decide) (fun h3 => by omega) (fun h3 => ?_)
  refine wg_iload_n (d154_32 L xs) rfl ?_
  refine wg_aload_n (d154_33 L xs) rfl ?_
  refine wg_get (d154_34 L xs) (kd := 1) (cj := 9) (k0 := 12) rfl (Or.inl rfl) (by decide) rfl rfl ?_
  refine wg_top (y := (nI n)) hn ?_
  refine wn_icmp_lt (d154_37 L xs) (x := j) (y := n) (by omega) (by omega) (t := 44) (by decide) (fun h4 => ?_) (fun h4 => by omega)
  refine wg_aload_n (d154_44 L xs) rfl ?_
  refine wg_get (d154_45 L xs) (kd := 1) (cj := 9) (k0 := 13) rfl (Or.inl rfl) (by decide) rfl rfl ?_
  refine wg_iload_n (d154_48 L xs) rfl ?_
  refine wg_iald (d154_49 L xs) (n := 60) (by decide) rfl (vp_in_nI (n := j) (by omega) (by omega)) ?_
  refine wg_top (y := (mg_I s 141 0 0).2.1 149 j) (by rw [nI_nat (by omega)]) ?_
  exact wg_iret (d154_50 L xs) rfl rfl ⟨rfl, rfl⟩
theorem md_askedo {n : Nat} {x : Int32} (ha : s.1 141 14 = 1) (hn : s.1 141 12 = nI n) (h9 : ¬ x = -1) (hx : x < 0 ∨ nI n ≤ x) : ca L xs (d + 1) 154 [.ref 141, .int x] s (fun v s' => v = some (.int (-1)) ∧ mg_I s 141 0 0 = s') := by
  refine wg_call (Nat.le_of_ble_eq_true rfl) ?_
  show wp L xs d 154 0 [some (.ref 141), some (.int x)] [] s _
  refine wg_aload_n (d154_0 L xs) rfl ?_
  refine wg_iconst (d154_1 L xs) (x := 0) (by decide) ?_
  refine wg_puti (d154_2 L xs) (cj := 9) (k0 := 0) rfl (by decide) rfl (Nat.le_of_ble_eq_true rfl) rfl rfl rfl ?_
  refine wg_aload_n (d154_5 L xs) rfl ?_
  refine wg_get (d154_6 L xs) (kd := 1) (cj := 9) (k0 := 14) rfl (Or.inl rfl) (by decide) rfl rfl ?_
  refine wg_top (y := 1) ha ?_
  refine wg_if_ne (d154_9 L xs) (t := 16) (by decide) (fun _ => ?_) (fun hn => absurd (by decide) hn)
  refine wg_iload_n (d154_16 L xs) rfl ?_
  refine wg_iconst (d154_17 L xs) (x := (-1)) (by decide) ?_
  refine wg_icmp_ne (d154_18 L xs) (t := 28) (by decide) (fun h2 => ?_) (fun h2 => absurd h9 h2)
  refine wg_iload_n (d154_28 L xs) rfl ?_
  refine wg_if_lt (d154_29 L xs) (t := 40) (by decide) (fun h3 => ?_) (fun h3 => ?_)
  · refine wg_iconst (d154_40 L xs) (x := (-1)) (by decide) ?_
    refine wg_goto (d154_41 L xs) (t := 50) (by decide) ?_
    exact wg_iret (d154_50 L xs) rfl rfl ⟨rfl, rfl⟩
  · refine wg_iload_n (d154_32 L xs) rfl ?_
    refine wg_aload_n (d154_33 L xs) rfl ?_
    refine wg_get (d154_34 L xs) (kd := 1) (cj := 9) (k0 := 12) rfl (Or.inl rfl) (by decide) rfl rfl ?_
    refine wg_top (y := (nI n)) hn ?_
    refine wg_icmp_lt (d154_37 L xs) (t := 44) (by decide) (fun h4 => absurd h4 (Int32.not_lt.mpr (hx.resolve_left (by assumption)))) (fun h4 => ?_)
    refine wg_iconst (d154_40 L xs) (x := (-1)) (by decide) ?_
    refine wg_goto (d154_41 L xs) (t := 50) (by decide) ?_
    exact wg_iret (d154_50 L xs) rfl rfl ⟨rfl, rfl⟩
theorem md_bears_f {k i : Nat} (hn : s.1 141 10 = nI m.length) (hm60 : m.length ≤ 60) (hi : i ≤ 100) : wp L xs d 122 21 [some (.ref 141), some (.int (nI k)), some (.int 0), some (.int (nI i))] [] s (fun v s' => v = some (.int (nI (bI false))) ∧ s = s') := by
  refine wg_iload_n (d122_21 L xs) rfl ?_
  refine wg_aload_n (d122_22 L xs) rfl ?_
  refine wg_get (d122_23 L xs) (kd := 1) (cj := 9) (k0 := 10) rfl (Or.inl rfl) (by decide) rfl rfl ?_
  refine wg_top (y := (nI m.length)) hn ?_
  refine wn_icmp_ge (d122_26 L xs) (x := i) (y := m.length) (by omega) (by omega) (t := 65) (by decide) (fun h1 => ?_) (fun h1 => ?_)
  · refine wg_iload_n (d122_65 L xs) rfl ?_
    exact wg_iret (d122_66 L xs) rfl rfl ⟨rfl, rfl⟩
  · refine wg_iload_n (d122_29 L xs) rfl ?_
    refine wg_if_eq (d122_30 L xs) (t := 65) (by decide) (fun _ => ?_) (fun hn => absurd (by decide) hn)
    refine wg_iload_n (d122_65 L xs) rfl ?_
    exact wg_iret (d122_66 L xs) rfl rfl ⟨rfl, rfl⟩
theorem md_bears_l {k : Nat} {nm : List Nat} (hn : s.1 141 10 = nI m.length) (hm : holdA s 148 0 m) (hr : holdA s 144 (100 * k) nm) (hk : k < 16) (hm60 : m.length ≤ 60) (hnm : nm.length ≤ 100) (he : nm.length = m.length) : ∀ (q i : Nat), i + q = m.length → wp L xs d 122 21 [some (.ref 141), some (.int (nI k)), some (.int 1), some (.int (nI i))] [] s (fun v s' => v = some (.int (nI (bI (f_same (gl nm) (gl m) i i q)))) ∧ s = s') := by
  intro q
  induction q with
  | zero =>
    intro i hi
    rw [f_same]
    refine wg_iload_n (d122_21 L xs) rfl ?_
    refine wg_aload_n (d122_22 L xs) rfl ?_
    refine wg_get (d122_23 L xs) (kd := 1) (cj := 9) (k0 := 10) rfl (Or.inl rfl) (by decide) rfl rfl ?_
    refine wg_top (y := (nI m.length)) hn ?_
    refine wn_icmp_ge (d122_26 L xs) (x := i) (y := m.length) (by omega) (by omega) (t := 65) (by decide) (fun h1 => ?_) (fun h1 => by omega)
    refine wg_iload_n (d122_65 L xs) rfl ?_
    exact wg_iret (d122_66 L xs) rfl rfl ⟨rfl, rfl⟩
  | succ q ih =>
    intro i hi
    have g1 := gl_lt hr.1 i
    have g2 := gl_lt hm.1 i
    rw [f_same]
    refine wg_iload_n (d122_21 L xs) rfl ?_
    refine wg_aload_n (d122_22 L xs) rfl ?_
    refine wg_get (d122_23 L xs) (kd := 1) (cj := 9) (k0 := 10) rfl (Or.inl rfl) (by decide) rfl rfl ?_
    refine wg_top (y := (nI m.length)) hn ?_
    refine wn_icmp_ge (d122_26 L xs) (x := i) (y := m.length) (by omega) (by omega) (t := 65) (by decide) (fun h1 => by omega) (fun h1 => ?_)
    refine wg_iload_n (d122_29 L xs) rfl ?_
    refine wg_if_eq (d122_30 L xs) (t := 65) (by decide) (fun hp => absurd hp (by decide)) (fun _ => ?_)
    refine wg_aload_n (d122_33 L xs) rfl ?_
    refine wg_get (d122_34 L xs) (kd := 1) (cj := 9) (k0 := 5) rfl (Or.inl rfl) (by decide) rfl rfl ?_
    refine wg_bipush (d122_37 L xs) (x := 100) (by decide) ?_
    refine wg_iload_n (d122_39 L xs) rfl ?_
    refine wg_imul (d122_40 L xs) ?_
    refine wg_top (y := (nI (100 * k))) (pk_mul 100 k) ?_
    refine wg_iload_n (d122_41 L xs) rfl ?_
    refine wg_iadd (d122_42 L xs) ?_
    refine wg_top (y := (nI ((100 * k) + i))) (nI_add (100 * k) i) ?_
    refine wg_iald (d122_43 L xs) (n := 1600) (by decide) rfl (vp_in_nI (n := (100 * k) + i) (by omega) (by omega)) ?_
    refine wg_top (y := nI (gl nm i)) (by rw [nI_nat (by omega), show (100 * k) + i = 100 * k + i by omega]; exact hr.2 i (by omega)) ?_
    refine wg_aload_n (d122_44 L xs) rfl ?_
    refine wg_get (d122_45 L xs) (kd := 1) (cj := 9) (k0 := 11) rfl (Or.inl rfl) (by decide) rfl rfl ?_
    refine wg_iload_n (d122_48 L xs) rfl ?_
    refine wg_iald (d122_49 L xs) (n := 60) (by decide) rfl (vp_in_nI (n := i) (by omega) (by omega)) ?_
    refine wg_top (y := nI (gl m i)) (by rw [nI_nat (by omega)]; exact (show s.2.1 148 i = nI (gl m i) by have := hm.2 i (by omega); rwa [Nat.zero_add] at this)) ?_
    refine wn_icmp_ne (d122_50 L xs) (x := gl nm i) (y := gl m i) (by omega) (by omega) (t := 57) (by decide) (fun h3 => ?_) (fun h3 => ?_)
    · refine wg_iconst (d122_57 L xs) (x := 0) (by decide) ?_
      refine wg_istore_n (d122_58 L xs) (ls' := [some (.ref 141), some (.int (nI k)), some (.int 0), some (.int (nI i))]) (Nat.le_of_ble_eq_true rfl) rfl ?_
      refine wg_iinc (d122_59 L xs) (y := (nI (i + 1))) (ls' := [some (.ref 141), some (.int (nI k)), some (.int 0), some (.int (nI (i + 1)))]) rfl (nI_add i 1) rfl ?_
      refine wg_goto (d122_62 L xs) (t := 21) (by decide) ?_
      rw [decide_eq_false (by omega), Bool.false_and]; exact md_bears_f (i := i + 1) hn hm60 (by omega)
    · refine wg_iconst (d122_53 L xs) (x := 1) (by decide) ?_
      refine wg_goto (d122_54 L xs) (t := 58) (by decide) ?_
      refine wg_istore_n (d122_58 L xs) (ls' := [some (.ref 141), some (.int (nI k)), some (.int 1), some (.int (nI i))]) (Nat.le_of_ble_eq_true rfl) rfl ?_
      refine wg_iinc (d122_59 L xs) (y := (nI (i + 1))) (ls' := [some (.ref 141), some (.int (nI k)), some (.int 1), some (.int (nI (i + 1)))]) rfl (nI_add i 1) rfl ?_
      refine wg_goto (d122_62 L xs) (t := 21) (by decide) ?_
      rw [decide_eq_true (by omega), Bool.true_and]; exact ih (i + 1) (by omega)
theorem md_bears {k : Nat} {q : rowT} (hn : s.1 141 10 = nI m.length) (hm : holdA s 148 0 m) (hq : isRowM s k q) (hk : k < 16) (hm60 : m.length ≤ 60) (hnm : q.2.1.length ≤ 100) : ca L xs (d + 1) 122 [.ref 141, .int (nI k)] s (fun v s' => v = some (.int (nI (bI (decide (q.2.1 = m))))) ∧ s = s') := by
  refine wg_call (Nat.le_of_ble_eq_true rfl) ?_
  show wp L xs d 122 0 [some (.ref 141), some (.int (nI k)), none, none] [] s _
  refine wg_aload_n (d122_0 L xs) rfl ?_
  refine wg_get (d122_1 L xs) (kd := 1) (cj := 9) (k0 := 7) rfl (Or.inl rfl) (by decide) rfl rfl ?_
  refine wg_iload_n (d122_4 L xs) rfl ?_
  refine wg_iald (d122_5 L xs) (n := 16) (by decide) rfl (vp_in_nI (n := k) (by omega) (by omega)) ?_
  refine wg_top (y := nI (q.2.1.length)) (by rw [nI_nat (by omega)]; exact hq.2.1) ?_
  refine wg_aload_n (d122_6 L xs) rfl ?_
  refine wg_get (d122_7 L xs) (kd := 1) (cj := 9) (k0 := 10) rfl (Or.inl rfl) (by decide) rfl rfl ?_
  refine wg_top (y := (nI m.length)) hn ?_
  refine wn_icmp_ne (d122_10 L xs) (x := q.2.1.length) (y := m.length) (by omega) (by omega) (t := 17) (by decide) (fun h1 => ?_) (fun h1 => ?_)
  · refine wg_iconst (d122_17 L xs) (x := 0) (by decide) ?_
    refine wg_istore_n (d122_18 L xs) (ls' := [some (.ref 141), some (.int (nI k)), some (.int 0), none]) (Nat.le_of_ble_eq_true rfl) rfl ?_
    refine wg_iconst (d122_19 L xs) (x := 0) (by decide) ?_
    refine wg_istore_n (d122_20 L xs) (ls' := [some (.ref 141), some (.int (nI k)), some (.int 0), some (.int 0)]) (Nat.le_of_ble_eq_true rfl) rfl ?_
    rw [decide_eq_false (fun e => h1 (by rw [e]))]; exact md_bears_f (i := 0) hn hm60 (by omega)
  · refine wg_iconst (d122_13 L xs) (x := 1) (by decide) ?_
    refine wg_goto (d122_14 L xs) (t := 18) (by decide) ?_
    refine wg_istore_n (d122_18 L xs) (ls' := [some (.ref 141), some (.int (nI k)), some (.int 1), none]) (Nat.le_of_ble_eq_true rfl) rfl ?_
    refine wg_iconst (d122_19 L xs) (x := 0) (by decide) ?_
    refine wg_istore_n (d122_20 L xs) (ls' := [some (.ref 141), some (.int (nI k)), some (.int 1), some (.int 0)]) (Nat.le_of_ble_eq_true rfl) rfl ?_
    rw [show decide (q.2.1 = m) = f_same (gl q.2.1) (gl m) 0 0 m.length from by have h9 := t_same_eq q.2.1 m; unfold t_same at h9; rw [decide_eq_true (show q.2.1.length - 0 = m.length - 0 by omega), Bool.true_and, show q.2.1.length - 0 = m.length by omega] at h9; exact h9.symm]; exact md_bears_l hn hm hq.2.2.2.2.1 hk hm60 (by omega) (by omega) _ 0 (by omega)
end MS
