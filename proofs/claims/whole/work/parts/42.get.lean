/-! what is only read or set -/
theorem d23_8 (L : Nat) (xs : Nat → Int32) : decode (ax_code (mgT L xs) 23) 8 = .ok (.iconst 1, 1) := by
  show decode prog_2_method_2_code 8 = _
  decide +kernel
theorem d23_9 (L : Nat) (xs : Nat → Int32) : decode (ax_code (mgT L xs) 23) 9 = .ok (.goto 4, 3) := by
  show decode prog_2_method_2_code 9 = _
  decide +kernel
theorem d24_0 (L : Nat) (xs : Nat → Int32) : decode (ax_code (mgT L xs) 24) 0 = .ok (.aload_n 0, 1) := by
  show decode prog_2_method_3_code 0 = _
  decide +kernel
theorem d24_1 (L : Nat) (xs : Nat → Int32) : decode (ax_code (mgT L xs) 24) 1 = .ok (.getfield 29, 3) := by
  show decode prog_2_method_3_code 1 = _
  decide +kernel
theorem d24_4 (L : Nat) (xs : Nat → Int32) : decode (ax_code (mgT L xs) 24) 4 = .ok (.ireturn, 1) := by
  show decode prog_2_method_3_code 4 = _
  decide +kernel
theorem d25_0 (L : Nat) (xs : Nat → Int32) : decode (ax_code (mgT L xs) 25) 0 = .ok (.aload_n 0, 1) := by
  show decode prog_2_method_4_code 0 = _
  decide +kernel
theorem d25_1 (L : Nat) (xs : Nat → Int32) : decode (ax_code (mgT L xs) 25) 1 = .ok (.getfield 38, 3) := by
  show decode prog_2_method_4_code 1 = _
  decide +kernel
theorem d25_4 (L : Nat) (xs : Nat → Int32) : decode (ax_code (mgT L xs) 25) 4 = .ok (.ireturn, 1) := by
  show decode prog_2_method_4_code 4 = _
  decide +kernel
theorem d26_0 (L : Nat) (xs : Nat → Int32) : decode (ax_code (mgT L xs) 26) 0 = .ok (.aload_n 0, 1) := by
  show decode prog_2_method_5_code 0 = _
  decide +kernel
theorem d26_1 (L : Nat) (xs : Nat → Int32) : decode (ax_code (mgT L xs) 26) 1 = .ok (.getfield 41, 3) := by
  show decode prog_2_method_5_code 1 = _
  decide +kernel
theorem d26_4 (L : Nat) (xs : Nat → Int32) : decode (ax_code (mgT L xs) 26) 4 = .ok (.ireturn, 1) := by
  show decode prog_2_method_5_code 4 = _
  decide +kernel
theorem d27_0 (L : Nat) (xs : Nat → Int32) : decode (ax_code (mgT L xs) 27) 0 = .ok (.aload_n 0, 1) := by
  show decode prog_2_method_6_code 0 = _
  decide +kernel
theorem d27_1 (L : Nat) (xs : Nat → Int32) : decode (ax_code (mgT L xs) 27) 1 = .ok (.getfield 44, 3) := by
  show decode prog_2_method_6_code 1 = _
  decide +kernel
theorem d27_4 (L : Nat) (xs : Nat → Int32) : decode (ax_code (mgT L xs) 27) 4 = .ok (.ireturn, 1) := by
  show decode prog_2_method_6_code 4 = _
  decide +kernel
theorem d28_0 (L : Nat) (xs : Nat → Int32) : decode (ax_code (mgT L xs) 28) 0 = .ok (.aload_n 0, 1) := by
  show decode prog_2_method_7_code 0 = _
  decide +kernel
theorem d28_1 (L : Nat) (xs : Nat → Int32) : decode (ax_code (mgT L xs) 28) 1 = .ok (.getfield 47, 3) := by
  show decode prog_2_method_7_code 1 = _
  decide +kernel
theorem d28_4 (L : Nat) (xs : Nat → Int32) : decode (ax_code (mgT L xs) 28) 4 = .ok (.ireturn, 1) := by
  show decode prog_2_method_7_code 4 = _
  decide +kernel
theorem d50_0 (L : Nat) (xs : Nat → Int32) : decode (ax_code (mgT L xs) 50) 0 = .ok (.aload_n 0, 1) := by
  show decode prog_7_method_5_code 0 = _
  decide +kernel
theorem d50_1 (L : Nat) (xs : Nat → Int32) : decode (ax_code (mgT L xs) 50) 1 = .ok (.getfield 22, 3) := by
  show decode prog_7_method_5_code 1 = _
  decide +kernel
theorem d50_4 (L : Nat) (xs : Nat → Int32) : decode (ax_code (mgT L xs) 50) 4 = .ok (.invokevirtual 31, 3) := by
  show decode prog_7_method_5_code 4 = _
  decide +kernel
theorem d50_7 (L : Nat) (xs : Nat → Int32) : decode (ax_code (mgT L xs) 50) 7 = .ok (.return_, 1) := by
  show decode prog_7_method_5_code 7 = _
  decide +kernel
section GET
variable {L : Nat} {xs : Nat → Int32} {d : Nat} {s : mg_s}
theorem ck_result  : ca L xs (d + 1) 24 [.ref 87] s (fun v s' => v = some (.int (s.1 87 5)) ∧ s = s') := by
  refine wg_call (Nat.le_of_ble_eq_true rfl) ?_
  show wp L xs d 24 0 [some (.ref 87)] [] s _
  refine wg_aload_n (d24_0 L xs) rfl ?_
  refine wg_get (d24_1 L xs) (kd := 1) (cj := 6) (k0 := 5) rfl (Or.inl rfl) (by decide) rfl rfl ?_
  exact wg_iret (d24_4 L xs) rfl rfl ⟨rfl, rfl⟩
theorem ck_lookups  : ca L xs (d + 1) 25 [.ref 87] s (fun v s' => v = some (.int (s.1 87 6)) ∧ s = s') := by
  refine wg_call (Nat.le_of_ble_eq_true rfl) ?_
  show wp L xs d 25 0 [some (.ref 87)] [] s _
  refine wg_aload_n (d25_0 L xs) rfl ?_
  refine wg_get (d25_1 L xs) (kd := 1) (cj := 6) (k0 := 6) rfl (Or.inl rfl) (by decide) rfl rfl ?_
  exact wg_iret (d25_4 L xs) rfl rfl ⟨rfl, rfl⟩
theorem ck_voids  : ca L xs (d + 1) 26 [.ref 87] s (fun v s' => v = some (.int (s.1 87 7)) ∧ s = s') := by
  refine wg_call (Nat.le_of_ble_eq_true rfl) ?_
  show wp L xs d 26 0 [some (.ref 87)] [] s _
  refine wg_aload_n (d26_0 L xs) rfl ?_
  refine wg_get (d26_1 L xs) (kd := 1) (cj := 6) (k0 := 7) rfl (Or.inl rfl) (by decide) rfl rfl ?_
  exact wg_iret (d26_4 L xs) rfl rfl ⟨rfl, rfl⟩
theorem ck_matched  : ca L xs (d + 1) 27 [.ref 87] s (fun v s' => v = some (.int (s.1 87 8)) ∧ s = s') := by
  refine wg_call (Nat.le_of_ble_eq_true rfl) ?_
  show wp L xs d 27 0 [some (.ref 87)] [] s _
  refine wg_aload_n (d27_0 L xs) rfl ?_
  refine wg_get (d27_1 L xs) (kd := 1) (cj := 6) (k0 := 8) rfl (Or.inl rfl) (by decide) rfl rfl ?_
  exact wg_iret (d27_4 L xs) rfl rfl ⟨rfl, rfl⟩
theorem ck_checks  : ca L xs (d + 1) 28 [.ref 87] s (fun v s' => v = some (.int (s.1 87 9)) ∧ s = s') := by
  refine wg_call (Nat.le_of_ble_eq_true rfl) ?_
  show wp L xs d 28 0 [some (.ref 87)] [] s _
  refine wg_aload_n (d28_0 L xs) rfl ?_
  refine wg_get (d28_1 L xs) (kd := 1) (cj := 6) (k0 := 9) rfl (Or.inl rfl) (by decide) rfl rfl ?_
  exact wg_iret (d28_4 L xs) rfl rfl ⟨rfl, rfl⟩
theorem ck_has  : ca L xs (d + 1) 23 [.ref 87] s (fun v s' => v = some (.int (nI (bI (decide (¬ s.1 87 5 = -1))))) ∧ s = s') := by
  refine wg_call (Nat.le_of_ble_eq_true rfl) ?_
  show wp L xs d 23 0 [some (.ref 87)] [] s _
  refine wg_aload_n (d23_0 L xs) rfl ?_
  refine wg_get (d23_1 L xs) (kd := 1) (cj := 6) (k0 := 5) rfl (Or.inl rfl) (by decide) rfl rfl ?_
  refine wg_iconst (d23_4 L xs) (x := (-1)) (by decide) ?_
  refine wg_icmp_eq (d23_5 L xs) (t := 12) (by decide) (fun h1 => ?_) (fun h1 => ?_)
  · refine wg_iconst (d23_12 L xs) (x := 0) (by decide) ?_
    exact wg_iret (d23_13 L xs) rfl rfl ⟨by rw [decide_eq_false (by simpa using (by assumption))]; rfl, rfl⟩
  · refine wg_iconst (d23_8 L xs) (x := 1) (by decide) ?_
    refine wg_goto (d23_9 L xs) (t := 13) (by decide) ?_
    exact wg_iret (d23_13 L xs) rfl rfl ⟨by rw [decide_eq_true (by assumption)]; rfl, rfl⟩
theorem tb_count  : ca L xs (d + 1) 33 [.ref 3] s (fun v s' => v = some (.int (s.1 3 1)) ∧ s = s') := by
  refine wg_call (Nat.le_of_ble_eq_true rfl) ?_
  show wp L xs d 33 0 [some (.ref 3)] [] s _
  refine wg_aload_n (d33_0 L xs) rfl ?_
  refine wg_get (d33_1 L xs) (kd := 1) (cj := 3) (k0 := 1) rfl (Or.inl rfl) (by decide) rfl rfl ?_
  exact wg_iret (d33_4 L xs) rfl rfl ⟨rfl, rfl⟩
theorem tb_last  : ca L xs (d + 1) 30 [.ref 3] s (fun v s' => v = some (.ref 5) ∧ s = s') := by
  refine wg_call (Nat.le_of_ble_eq_true rfl) ?_
  show wp L xs d 30 0 [some (.ref 3)] [] s _
  refine wg_aload_n (d30_0 L xs) rfl ?_
  refine wg_get (d30_1 L xs) (kd := 1) (cj := 3) (k0 := 2) rfl (Or.inl rfl) (by decide) rfl rfl ?_
  exact wg_aret (d30_4 L xs) rfl ⟨rfl, rfl⟩
theorem md_thrown  : ca L xs (d + 1) 105 [.ref 141] s (fun v s' => v = some (.int (s.1 141 0)) ∧ s = s') := by
  refine wg_call (Nat.le_of_ble_eq_true rfl) ?_
  show wp L xs d 105 0 [some (.ref 141)] [] s _
  refine wg_aload_n (d105_0 L xs) rfl ?_
  refine wg_get (d105_1 L xs) (kd := 1) (cj := 9) (k0 := 0) rfl (Or.inl rfl) (by decide) rfl rfl ?_
  exact wg_iret (d105_4 L xs) rfl rfl ⟨rfl, rfl⟩
theorem md_wipe  : ca L xs (d + 1) 107 [.ref 141] s (fun v s' => v = none ∧ mg_I (mg_I s 141 0 0) 141 1 0 = s') := by
  refine wg_call (Nat.le_of_ble_eq_true rfl) ?_
  show wp L xs d 107 0 [some (.ref 141)] [] s _
  refine wg_aload_n (d107_0 L xs) rfl ?_
  refine wg_iconst (d107_1 L xs) (x := 0) (by decide) ?_
  refine wg_puti (d107_2 L xs) (cj := 9) (k0 := 0) rfl (by decide) rfl (Nat.le_of_ble_eq_true rfl) rfl rfl rfl ?_
  refine wg_aload_n (d107_5 L xs) rfl ?_
  refine wg_iconst (d107_6 L xs) (x := 0) (by decide) ?_
  refine wg_puti (d107_7 L xs) (cj := 9) (k0 := 1) rfl (by decide) rfl (Nat.le_of_ble_eq_true rfl) rfl rfl rfl ?_
  exact wg_vret (d107_10 L xs) rfl ⟨rfl, rfl⟩
theorem md_length  : ca L xs (d + 1) 108 [.ref 141] s (fun v s' => v = some (.int (s.1 141 1)) ∧ mg_I s 141 0 0 = s') := by
  refine wg_call (Nat.le_of_ble_eq_true rfl) ?_
  show wp L xs d 108 0 [some (.ref 141)] [] s _
  refine wg_aload_n (d108_0 L xs) rfl ?_
  refine wg_iconst (d108_1 L xs) (x := 0) (by decide) ?_
  refine wg_puti (d108_2 L xs) (cj := 9) (k0 := 0) rfl (by decide) rfl (Nat.le_of_ble_eq_true rfl) rfl rfl rfl ?_
  refine wg_aload_n (d108_5 L xs) rfl ?_
  refine wg_get (d108_6 L xs) (kd := 1) (cj := 9) (k0 := 1) rfl (Or.inl rfl) (by decide) rfl rfl ?_
  exact wg_iret (d108_9 L xs) rfl rfl ⟨rfl, rfl⟩
theorem tb_forget  : ca L xs (d + 2) 50 [.ref 3] s (fun v s' => v = none ∧ mg_T s 5 (s.2.1 (5 + 1)) 0 = s') := by
  refine wg_call (Nat.le_of_ble_eq_true rfl) ?_
  show wp L xs (d + 1) 50 0 [some (.ref 3)] [] s _
  refine wg_aload_n (d50_0 L xs) rfl ?_
  refine wg_get (d50_1 L xs) (kd := 1) (cj := 3) (k0 := 2) rfl (Or.inl rfl) (by decide) rfl rfl ?_
  refine wg_invv (d50_4 L xs) (kd := 7) (mj := 18) (n := 0) rfl (Or.inl rfl) (ys := []) (r := []) rfl rfl (by decide) rfl rfl (Nat.le_of_ble_eq_true rfl) (tx_clear (a := 5) ⟨by decide, by decide⟩) ?_
  rintro _ _ ⟨rfl, rfl⟩
  exact wg_vret (d50_7 L xs) rfl ⟨rfl, rfl⟩
theorem gd_wipe  : ca L xs (d + 2) 17 [.ref 0] s (fun v s' => v = none ∧ mg_T s 1 (s.2.1 (1 + 1)) 0 = s') := by
  refine wg_call (Nat.le_of_ble_eq_true rfl) ?_
  show wp L xs (d + 1) 17 0 [some (.ref 0)] [] s _
  refine wg_aload_n (d17_0 L xs) rfl ?_
  refine wg_get (d17_1 L xs) (kd := 1) (cj := 0) (k0 := 0) rfl (Or.inl rfl) (by decide) rfl rfl ?_
  refine wg_invv (d17_4 L xs) (kd := 7) (mj := 18) (n := 0) rfl (Or.inl rfl) (ys := []) (r := []) rfl rfl (by decide) rfl rfl (Nat.le_of_ble_eq_true rfl) (tx_clear (a := 1) ⟨by decide, by decide⟩) ?_
  rintro _ _ ⟨rfl, rfl⟩
  exact wg_vret (d17_7 L xs) rfl ⟨rfl, rfl⟩
theorem gd_length {n : Nat} (hn : isTx s 1 n) : ca L xs (d + 2) 19 [.ref 0] s (fun v s' => v = some (.int (nI n)) ∧ s = s') := by
  refine wg_call (Nat.le_of_ble_eq_true rfl) ?_
  show wp L xs (d + 1) 19 0 [some (.ref 0)] [] s _
  refine wg_aload_n (d19_0 L xs) rfl ?_
  refine wg_get (d19_1 L xs) (kd := 1) (cj := 0) (k0 := 0) rfl (Or.inl rfl) (by decide) rfl rfl ?_
  refine wg_invv (d19_4 L xs) (kd := 7) (mj := 15) (n := 0) rfl (Or.inl rfl) (ys := []) (r := []) rfl rfl (by decide) rfl rfl (Nat.le_of_ble_eq_true rfl) (tx_size (a := 1) ⟨by decide, by decide⟩ hn) ?_
  rintro _ _ ⟨rfl, rfl⟩
  exact wg_iret (d19_7 L xs) rfl rfl ⟨rfl, rfl⟩
end GET
