/-! latest of the reference -/
theorem d153_14 (L : Nat) (xs : Nat → Int32) : decode (ax_code (mgT L xs) 153) 14 = .ok (.iload_n 1, 1) := by
  show decode prog_11_method_50_code 14 = _
  decide +kernel
theorem d153_15 (L : Nat) (xs : Nat → Int32) : decode (ax_code (mgT L xs) 153) 15 = .ok (.ifCond .ne 10, 3) := by
  show decode prog_11_method_50_code 15 = _
  decide +kernel
theorem d153_18 (L : Nat) (xs : Nat → Int32) : decode (ax_code (mgT L xs) 153) 18 = .ok (.aload_n 0, 1) := by
  show decode prog_11_method_50_code 18 = _
  decide +kernel
theorem d153_19 (L : Nat) (xs : Nat → Int32) : decode (ax_code (mgT L xs) 153) 19 = .ok (.getfield 200, 3) := by
  show decode prog_11_method_50_code 19 = _
  decide +kernel
theorem d153_22 (L : Nat) (xs : Nat → Int32) : decode (ax_code (mgT L xs) 153) 22 = .ok (.goto 52, 3) := by
  show decode prog_11_method_50_code 22 = _
  decide +kernel
theorem d153_25 (L : Nat) (xs : Nat → Int32) : decode (ax_code (mgT L xs) 153) 25 = .ok (.iload_n 1, 1) := by
  show decode prog_11_method_50_code 25 = _
  decide +kernel
theorem d153_26 (L : Nat) (xs : Nat → Int32) : decode (ax_code (mgT L xs) 153) 26 = .ok (.iconst 1, 1) := by
  show decode prog_11_method_50_code 26 = _
  decide +kernel
theorem d153_27 (L : Nat) (xs : Nat → Int32) : decode (ax_code (mgT L xs) 153) 27 = .ok (.if_icmp .ne 10, 3) := by
  show decode prog_11_method_50_code 27 = _
  decide +kernel
theorem d153_30 (L : Nat) (xs : Nat → Int32) : decode (ax_code (mgT L xs) 153) 30 = .ok (.aload_n 0, 1) := by
  show decode prog_11_method_50_code 30 = _
  decide +kernel
theorem d153_31 (L : Nat) (xs : Nat → Int32) : decode (ax_code (mgT L xs) 153) 31 = .ok (.getfield 227, 3) := by
  show decode prog_11_method_50_code 31 = _
  decide +kernel
theorem d153_34 (L : Nat) (xs : Nat → Int32) : decode (ax_code (mgT L xs) 153) 34 = .ok (.goto 40, 3) := by
  show decode prog_11_method_50_code 34 = _
  decide +kernel
theorem d153_37 (L : Nat) (xs : Nat → Int32) : decode (ax_code (mgT L xs) 153) 37 = .ok (.iload_n 1, 1) := by
  show decode prog_11_method_50_code 37 = _
  decide +kernel
theorem d153_38 (L : Nat) (xs : Nat → Int32) : decode (ax_code (mgT L xs) 153) 38 = .ok (.iconst 2, 1) := by
  show decode prog_11_method_50_code 38 = _
  decide +kernel
theorem d153_39 (L : Nat) (xs : Nat → Int32) : decode (ax_code (mgT L xs) 153) 39 = .ok (.if_icmp .ne 10, 3) := by
  show decode prog_11_method_50_code 39 = _
  decide +kernel
theorem d153_42 (L : Nat) (xs : Nat → Int32) : decode (ax_code (mgT L xs) 153) 42 = .ok (.aload_n 0, 1) := by
  show decode prog_11_method_50_code 42 = _
  decide +kernel
theorem d153_43 (L : Nat) (xs : Nat → Int32) : decode (ax_code (mgT L xs) 153) 43 = .ok (.getfield 237, 3) := by
  show decode prog_11_method_50_code 43 = _
  decide +kernel
theorem d153_46 (L : Nat) (xs : Nat → Int32) : decode (ax_code (mgT L xs) 153) 46 = .ok (.goto 28, 3) := by
  show decode prog_11_method_50_code 46 = _
  decide +kernel
theorem d153_49 (L : Nat) (xs : Nat → Int32) : decode (ax_code (mgT L xs) 153) 49 = .ok (.iload_n 1, 1) := by
  show decode prog_11_method_50_code 49 = _
  decide +kernel
theorem d153_50 (L : Nat) (xs : Nat → Int32) : decode (ax_code (mgT L xs) 153) 50 = .ok (.iconst 3, 1) := by
  show decode prog_11_method_50_code 50 = _
  decide +kernel
theorem d153_51 (L : Nat) (xs : Nat → Int32) : decode (ax_code (mgT L xs) 153) 51 = .ok (.if_icmp .ne 10, 3) := by
  show decode prog_11_method_50_code 51 = _
  decide +kernel
theorem d153_54 (L : Nat) (xs : Nat → Int32) : decode (ax_code (mgT L xs) 153) 54 = .ok (.aload_n 0, 1) := by
  show decode prog_11_method_50_code 54 = _
  decide +kernel
theorem d153_55 (L : Nat) (xs : Nat → Int32) : decode (ax_code (mgT L xs) 153) 55 = .ok (.getfield 224, 3) := by
  show decode prog_11_method_50_code 55 = _
  decide +kernel
theorem d153_58 (L : Nat) (xs : Nat → Int32) : decode (ax_code (mgT L xs) 153) 58 = .ok (.goto 16, 3) := by
  show decode prog_11_method_50_code 58 = _
  decide +kernel
theorem d153_61 (L : Nat) (xs : Nat → Int32) : decode (ax_code (mgT L xs) 153) 61 = .ok (.iload_n 1, 1) := by
  show decode prog_11_method_50_code 61 = _
  decide +kernel
theorem d153_62 (L : Nat) (xs : Nat → Int32) : decode (ax_code (mgT L xs) 153) 62 = .ok (.iconst 4, 1) := by
  show decode prog_11_method_50_code 62 = _
  decide +kernel
theorem d153_63 (L : Nat) (xs : Nat → Int32) : decode (ax_code (mgT L xs) 153) 63 = .ok (.if_icmp .ne 10, 3) := by
  show decode prog_11_method_50_code 63 = _
  decide +kernel
theorem d153_66 (L : Nat) (xs : Nat → Int32) : decode (ax_code (mgT L xs) 153) 66 = .ok (.aload_n 0, 1) := by
  show decode prog_11_method_50_code 66 = _
  decide +kernel
theorem d153_67 (L : Nat) (xs : Nat → Int32) : decode (ax_code (mgT L xs) 153) 67 = .ok (.getfield 203, 3) := by
  show decode prog_11_method_50_code 67 = _
  decide +kernel
theorem d153_70 (L : Nat) (xs : Nat → Int32) : decode (ax_code (mgT L xs) 153) 70 = .ok (.goto 4, 3) := by
  show decode prog_11_method_50_code 70 = _
  decide +kernel
theorem d153_73 (L : Nat) (xs : Nat → Int32) : decode (ax_code (mgT L xs) 153) 73 = .ok (.iconst (-1), 1) := by
  show decode prog_11_method_50_code 73 = _
  decide +kernel
theorem d153_74 (L : Nat) (xs : Nat → Int32) : decode (ax_code (mgT L xs) 153) 74 = .ok (.ireturn, 1) := by
  show decode prog_11_method_50_code 74 = _
  decide +kernel
section LAT
variable {L : Nat} {xs : Nat → Int32} {d : Nat} {s : mg_s}
theorem md_latest0  : ca L xs (d + 1) 153 [.ref 141, .int 0] s (fun v s' => v = some (.int (if s.1 141 34 = 0 then -1 else s.1 141 36)) ∧ mg_I s 141 0 0 = s') := by
  refine wg_call (Nat.le_of_ble_eq_true rfl) ?_
  show wp L xs d 153 0 [some (.ref 141), some (.int 0)] [] s _
  refine wg_aload_n (d153_0 L xs) rfl ?_
  refine wg_iconst (d153_1 L xs) (x := 0) (by decide) ?_
  refine wg_puti (d153_2 L xs) (cj := 9) (k0 := 0) rfl (by decide) rfl (Nat.le_of_ble_eq_true rfl) rfl rfl rfl ?_
  refine wg_aload_n (d153_5 L xs) rfl ?_
  refine wg_get (d153_6 L xs) (kd := 1) (cj := 9) (k0 := 34) rfl (Or.inl rfl) (by decide) rfl rfl ?_
  refine wg_if_ne (d153_9 L xs) (t := 14) (by decide) (fun h1 => ?_) (fun h1 => ?_)
  · refine wg_iload_n (d153_14 L xs) rfl ?_
    refine wg_if_ne (d153_15 L xs) (t := 25) (by decide) (fun hp => absurd hp (by decide)) (fun _ => ?_)
    refine wg_aload_n (d153_18 L xs) rfl ?_
    refine wg_get (d153_19 L xs) (kd := 1) (cj := 9) (k0 := 36) rfl (Or.inl rfl) (by decide) rfl rfl ?_
    refine wg_goto (d153_22 L xs) (t := 74) (by decide) ?_
    exact wg_iret (d153_74 L xs) rfl rfl ⟨by split <;> first | rfl | contradiction, rfl⟩
  · refine wg_iconst (d153_12 L xs) (x := (-1)) (by decide) ?_
    exact wg_iret (d153_13 L xs) rfl rfl ⟨by split <;> first | rfl | contradiction, rfl⟩
theorem md_latest1  : ca L xs (d + 1) 153 [.ref 141, .int 1] s (fun v s' => v = some (.int (if s.1 141 34 = 0 then -1 else s.1 141 37)) ∧ mg_I s 141 0 0 = s') := by
  refine wg_call (Nat.le_of_ble_eq_true rfl) ?_
  show wp L xs d 153 0 [some (.ref 141), some (.int 1)] [] s _
  refine wg_aload_n (d153_0 L xs) rfl ?_
  refine wg_iconst (d153_1 L xs) (x := 0) (by decide) ?_
  refine wg_puti (d153_2 L xs) (cj := 9) (k0 := 0) rfl (by decide) rfl (Nat.le_of_ble_eq_true rfl) rfl rfl rfl ?_
  refine wg_aload_n (d153_5 L xs) rfl ?_
  refine wg_get (d153_6 L xs) (kd := 1) (cj := 9) (k0 := 34) rfl (Or.inl rfl) (by decide) rfl rfl ?_
  refine wg_if_ne (d153_9 L xs) (t := 14) (by decide) (fun h1 => ?_) (fun h1 => ?_)
  · refine wg_iload_n (d153_14 L xs) rfl ?_
    refine wg_if_ne (d153_15 L xs) (t := 25) (by decide) (fun _ => ?_) (fun hn => absurd (by decide) hn)
    refine wg_iload_n (d153_25 L xs) rfl ?_
    refine wg_iconst (d153_26 L xs) (x := 1) (by decide) ?_
    refine wg_icmp_ne (d153_27 L xs) (t := 37) (by decide) (fun hp => absurd hp (by decide)) (fun _ => ?_)
    refine wg_aload_n (d153_30 L xs) rfl ?_
    refine wg_get (d153_31 L xs) (kd := 1) (cj := 9) (k0 := 37) rfl (Or.inl rfl) (by decide) rfl rfl ?_
    refine wg_goto (d153_34 L xs) (t := 74) (by decide) ?_
    exact wg_iret (d153_74 L xs) rfl rfl ⟨by split <;> first | rfl | contradiction, rfl⟩
  · refine wg_iconst (d153_12 L xs) (x := (-1)) (by decide) ?_
    exact wg_iret (d153_13 L xs) rfl rfl ⟨by split <;> first | rfl | contradiction, rfl⟩
theorem md_latest2  : ca L xs (d + 1) 153 [.ref 141, .int 2] s (fun v s' => v = some (.int (if s.1 141 34 = 0 then -1 else s.1 141 38)) ∧ mg_I s 141 0 0 = s') := by
  refine wg_call (Nat.le_of_ble_eq_true rfl) ?_
  show wp L xs d 153 0 [some (.ref 141), some (.int 2)] [] s _
  refine wg_aload_n (d153_0 L xs) rfl ?_
  refine wg_iconst (d153_1 L xs) (x := 0) (by decide) ?_
  refine wg_puti (d153_2 L xs) (cj := 9) (k0 := 0) rfl (by decide) rfl (Nat.le_of_ble_eq_true rfl) rfl rfl rfl ?_
  refine wg_aload_n (d153_5 L xs) rfl ?_
  refine wg_get (d153_6 L xs) (kd := 1) (cj := 9) (k0 := 34) rfl (Or.inl rfl) (by decide) rfl rfl ?_
  refine wg_if_ne (d153_9 L xs) (t := 14) (by decide) (fun h1 => ?_) (fun h1 => ?_)
  · refine wg_iload_n (d153_14 L xs) rfl ?_
    refine wg_if_ne (d153_15 L xs) (t := 25) (by decide) (fun _ => ?_) (fun hn => absurd (by decide) hn)
    refine wg_iload_n (d153_25 L xs) rfl ?_
    refine wg_iconst (d153_26 L xs) (x := 1) (by decide) ?_
    refine wg_icmp_ne (d153_27 L xs) (t := 37) (by decide) (fun _ => ?_) (fun hn => absurd (by decide) hn)
    refine wg_iload_n (d153_37 L xs) rfl ?_
    refine wg_iconst (d153_38 L xs) (x := 2) (by decide) ?_
    refine wg_icmp_ne (d153_39 L xs) (t := 49) (by decide) (fun hp => absurd hp (by decide)) (fun _ => ?_)
    refine wg_aload_n (d153_42 L xs) rfl ?_
    refine wg_get (d153_43 L xs) (kd := 1) (cj := 9) (k0 := 38) rfl (Or.inl rfl) (by decide) rfl rfl ?_
    refine wg_goto (d153_46 L xs) (t := 74) (by decide) ?_
    exact wg_iret (d153_74 L xs) rfl rfl ⟨by split <;> first | rfl | contradiction, rfl⟩
  · refine wg_iconst (d153_12 L xs) (x := (-1)) (by decide) ?_
    exact wg_iret (d153_13 L xs) rfl rfl ⟨by split <;> first | rfl | contradiction, rfl⟩
theorem md_latest3  : ca L xs (d + 1) 153 [.ref 141, .int 3] s (fun v s' => v = some (.int (if s.1 141 34 = 0 then -1 else s.1 141 39)) ∧ mg_I s 141 0 0 = s') := by
  refine wg_call (Nat.le_of_ble_eq_true rfl) ?_
  show wp L xs d 153 0 [some (.ref 141), some (.int 3)] [] s _
  refine wg_aload_n (d153_0 L xs) rfl ?_
  refine wg_iconst (d153_1 L xs) (x := 0) (by decide) ?_
  refine wg_puti (d153_2 L xs) (cj := 9) (k0 := 0) rfl (by decide) rfl (Nat.le_of_ble_eq_true rfl) rfl rfl rfl ?_
  refine wg_aload_n (d153_5 L xs) rfl ?_
  refine wg_get (d153_6 L xs) (kd := 1) (cj := 9) (k0 := 34) rfl (Or.inl rfl) (by decide) rfl rfl ?_
  refine wg_if_ne (d153_9 L xs) (t := 14) (by decide) (fun h1 => ?_) (fun h1 => ?_)
  · refine wg_iload_n (d153_14 L xs) rfl ?_
    refine wg_if_ne (d153_15 L xs) (t := 25) (by decide) (fun _ => ?_) (fun hn => absurd (by decide) hn)
    refine wg_iload_n (d153_25 L xs) rfl ?_
    refine wg_iconst (d153_26 L xs) (x := 1) (by decide) ?_
    refine wg_icmp_ne (d153_27 L xs) (t := 37) (by decide) (fun _ => ?_) (fun hn => absurd (by decide) hn)
    refine wg_iload_n (d153_37 L xs) rfl ?_
    refine wg_iconst (d153_38 L xs) (x := 2) (by decide) ?_
    refine wg_icmp_ne (d153_39 L xs) (t := 49) (by decide) (fun _ => ?_) (fun hn => absurd (by decide) hn)
    refine wg_iload_n (d153_49 L xs) rfl ?_
    refine wg_iconst (d153_50 L xs) (x := 3) (by decide) ?_
    refine wg_icmp_ne (d153_51 L xs) (t := 61) (by decide) (fun hp => absurd hp (by decide)) (fun _ => ?_)
    refine wg_aload_n (d153_54 L xs) rfl ?_
    refine wg_get (d153_55 L xs) (kd := 1) (cj := 9) (k0 := 39) rfl (Or.inl rfl) (by decide) rfl rfl ?_
    refine wg_goto (d153_58 L xs) (t := 74) (by decide) ?_
    exact wg_iret (d153_74 L xs) rfl rfl ⟨by split <;> first | rfl | contradiction, rfl⟩
  · refine wg_iconst (d153_12 L xs) (x := (-1)) (by decide) ?_
    exact wg_iret (d153_13 L xs) rfl rfl ⟨by split <;> first | rfl | contradiction, rfl⟩
theorem md_latest4  : ca L xs (d + 1) 153 [.ref 141, .int 4] s (fun v s' => v = some (.int (if s.1 141 34 = 0 then -1 else s.1 141 40)) ∧ mg_I s 141 0 0 = s') := by
  refine wg_call (Nat.le_of_ble_eq_true rfl) ?_
  show wp L xs d 153 0 [some (.ref 141), some (.int 4)] [] s _
  refine wg_aload_n (d153_0 L xs) rfl ?_
  refine wg_iconst (d153_1 L xs) (x := 0) (by decide) ?_
  refine wg_puti (d153_2 L xs) (cj := 9) (k0 := 0) rfl (by decide) rfl (Nat.le_of_ble_eq_true rfl) rfl rfl rfl ?_
  refine wg_aload_n (d153_5 L xs) rfl ?_
  refine wg_get (d153_6 L xs) (kd := 1) (cj := 9) (k0 := 34) rfl (Or.inl rfl) (by decide) rfl rfl ?_
  refine wg_if_ne (d153_9 L xs) (t := 14) (by decide) (fun h1 => ?_) (fun h1 => ?_)
  · refine wg_iload_n (d153_14 L xs) rfl ?_
    refine wg_if_ne (d153_15 L xs) (t := 25) (by decide) (fun _ => ?_) (fun hn => absurd (by decide) hn)
    refine wg_iload_n (d153_25 L xs) rfl ?_
    refine wg_iconst (d153_26 L xs) (x := 1) (by decide) ?_
    refine wg_icmp_ne (d153_27 L xs) (t := 37) (by decide) (fun _ => ?_) (fun hn => absurd (by decide) hn)
    refine wg_iload_n (d153_37 L xs) rfl ?_
    refine wg_iconst (d153_38 L xs) (x := 2) (by decide) ?_
    refine wg_icmp_ne (d153_39 L xs) (t := 49) (by decide) (fun _ => ?_) (fun hn => absurd (by decide) hn)
    refine wg_iload_n (d153_49 L xs) rfl ?_
    refine wg_iconst (d153_50 L xs) (x := 3) (by decide) ?_
    refine wg_icmp_ne (d153_51 L xs) (t := 61) (by decide) (fun _ => ?_) (fun hn => absurd (by decide) hn)
    refine wg_iload_n (d153_61 L xs) rfl ?_
    refine wg_iconst (d153_62 L xs) (x := 4) (by decide) ?_
    refine wg_icmp_ne (d153_63 L xs) (t := 73) (by decide) (fun hp => absurd hp (by decide)) (fun _ => ?_)
    refine wg_aload_n (d153_66 L xs) rfl ?_
    refine wg_get (d153_67 L xs) (kd := 1) (cj := 9) (k0 := 40) rfl (Or.inl rfl) (by decide) rfl rfl ?_
    refine wg_goto (d153_70 L xs) (t := 74) (by decide) ?_
    exact wg_iret (d153_74 L xs) rfl rfl ⟨by split <;> first | rfl | contradiction, rfl⟩
  · refine wg_iconst (d153_12 L xs) (x := (-1)) (by decide) ?_
    exact wg_iret (d153_13 L xs) rfl rfl ⟨by split <;> first | rfl | contradiction, rfl⟩
theorem md_latesto {w : Int32} (h0 : ¬ w = 0) (hw1 : ¬ w = 1) (hw2 : ¬ w = 2) (hw3 : ¬ w = 3) (hw4 : ¬ w = 4) : ca L xs (d + 1) 153 [.ref 141, .int w] s (fun v s' => v = some (.int (if s.1 141 34 = 0 then -1 else -1)) ∧ mg_I s 141 0 0 = s') := by
  refine wg_call (Nat.le_of_ble_eq_true rfl) ?_
  show wp L xs d 153 0 [some (.ref 141), some (.int w)] [] s _
  refine wg_aload_n (d153_0 L xs) rfl ?_
  refine wg_iconst (d153_1 L xs) (x := 0) (by decide) ?_
  refine wg_puti (d153_2 L xs) (cj := 9) (k0 := 0) rfl (by decide) rfl (Nat.le_of_ble_eq_true rfl) rfl rfl rfl ?_
  refine wg_aload_n (d153_5 L xs) rfl ?_
  refine wg_get (d153_6 L xs) (kd := 1) (cj := 9) (k0 := 34) rfl (Or.inl rfl) (by decide) rfl rfl ?_
  refine wg_if_ne (d153_9 L xs) (t := 14) (by decide) (fun h1 => ?_) (fun h1 => ?_)
  · refine wg_iload_n (d153_14 L xs) rfl ?_
    refine wg_if_ne (d153_15 L xs) (t := 25) (by decide) (fun h2 => ?_) (fun h2 => absurd (Classical.not_not.mp h2) h0)
    refine wg_iload_n (d153_25 L xs) rfl ?_
    refine wg_iconst (d153_26 L xs) (x := 1) (by decide) ?_
    refine wg_icmp_ne (d153_27 L xs) (t := 37) (by decide) (fun h3 => ?_) (fun h3 => absurd (Classical.not_not.mp h3) hw1)
    refine wg_iload_n (d153_37 L xs) rfl ?_
    refine wg_iconst (d153_38 L xs) (x := 2) (by decide) ?_
    refine wg_icmp_ne (d153_39 L xs) (t := 49) (by decide) (fun h4 => ?_) (fun h4 => absurd (Classical.not_not.mp h4) hw2)
    refine wg_iload_n (d153_49 L xs) rfl ?_
    refine wg_iconst (d153_50 L xs) (x := 3) (by decide) ?_
    refine wg_icmp_ne (d153_51 L xs) (t := 61) (by decide) (fun h5 => ?_) (fun h5 => absurd (Classical.not_not.mp h5) hw3)
    refine wg_iload_n (d153_61 L xs) rfl ?_
    refine wg_iconst (d153_62 L xs) (x := 4) (by decide) ?_
    refine wg_icmp_ne (d153_63 L xs) (t := 73) (by decide) (fun h6 => ?_) (fun h6 => absurd (Classical.not_not.mp h6) hw4)
    refine wg_iconst (d153_73 L xs) (x := (-1)) (by decide) ?_
    exact wg_iret (d153_74 L xs) rfl rfl ⟨by split <;> first | rfl | contradiction, rfl⟩
  · refine wg_iconst (d153_12 L xs) (x := (-1)) (by decide) ?_
    exact wg_iret (d153_13 L xs) rfl rfl ⟨by split <;> first | rfl | contradiction, rfl⟩
end LAT
