/-! latest -/
theorem d22_12 (L : Nat) (xs : Nat → Int32) : decode (ax_code (mgT L xs) 22) 12 = .ok (.iload_n 1, 1) := by
  show decode prog_1_method_8_code 12 = _
  decide +kernel
theorem d22_13 (L : Nat) (xs : Nat → Int32) : decode (ax_code (mgT L xs) 22) 13 = .ok (.tableswitch 75 0 4 #[35, 43, 51, 59, 67], 35) := by
  show decode prog_1_method_8_code 13 = _
  decide +kernel
theorem d22_48 (L : Nat) (xs : Nat → Int32) : decode (ax_code (mgT L xs) 22) 48 = .ok (.aload_n 0, 1) := by
  show decode prog_1_method_8_code 48 = _
  decide +kernel
theorem d22_49 (L : Nat) (xs : Nat → Int32) : decode (ax_code (mgT L xs) 22) 49 = .ok (.getfield 30, 3) := by
  show decode prog_1_method_8_code 49 = _
  decide +kernel
theorem d22_52 (L : Nat) (xs : Nat → Int32) : decode (ax_code (mgT L xs) 22) 52 = .ok (.invokevirtual 95, 3) := by
  show decode prog_1_method_8_code 52 = _
  decide +kernel
theorem d22_55 (L : Nat) (xs : Nat → Int32) : decode (ax_code (mgT L xs) 22) 55 = .ok (.ireturn, 1) := by
  show decode prog_1_method_8_code 55 = _
  decide +kernel
theorem d22_56 (L : Nat) (xs : Nat → Int32) : decode (ax_code (mgT L xs) 22) 56 = .ok (.aload_n 0, 1) := by
  show decode prog_1_method_8_code 56 = _
  decide +kernel
theorem d22_57 (L : Nat) (xs : Nat → Int32) : decode (ax_code (mgT L xs) 22) 57 = .ok (.getfield 30, 3) := by
  show decode prog_1_method_8_code 57 = _
  decide +kernel
theorem d22_60 (L : Nat) (xs : Nat → Int32) : decode (ax_code (mgT L xs) 22) 60 = .ok (.invokevirtual 98, 3) := by
  show decode prog_1_method_8_code 60 = _
  decide +kernel
theorem d22_63 (L : Nat) (xs : Nat → Int32) : decode (ax_code (mgT L xs) 22) 63 = .ok (.ireturn, 1) := by
  show decode prog_1_method_8_code 63 = _
  decide +kernel
theorem d22_64 (L : Nat) (xs : Nat → Int32) : decode (ax_code (mgT L xs) 22) 64 = .ok (.aload_n 0, 1) := by
  show decode prog_1_method_8_code 64 = _
  decide +kernel
theorem d22_65 (L : Nat) (xs : Nat → Int32) : decode (ax_code (mgT L xs) 22) 65 = .ok (.getfield 30, 3) := by
  show decode prog_1_method_8_code 65 = _
  decide +kernel
theorem d22_68 (L : Nat) (xs : Nat → Int32) : decode (ax_code (mgT L xs) 22) 68 = .ok (.invokevirtual 101, 3) := by
  show decode prog_1_method_8_code 68 = _
  decide +kernel
theorem d22_71 (L : Nat) (xs : Nat → Int32) : decode (ax_code (mgT L xs) 22) 71 = .ok (.ireturn, 1) := by
  show decode prog_1_method_8_code 71 = _
  decide +kernel
theorem d22_72 (L : Nat) (xs : Nat → Int32) : decode (ax_code (mgT L xs) 22) 72 = .ok (.aload_n 0, 1) := by
  show decode prog_1_method_8_code 72 = _
  decide +kernel
theorem d22_73 (L : Nat) (xs : Nat → Int32) : decode (ax_code (mgT L xs) 22) 73 = .ok (.getfield 30, 3) := by
  show decode prog_1_method_8_code 73 = _
  decide +kernel
theorem d22_76 (L : Nat) (xs : Nat → Int32) : decode (ax_code (mgT L xs) 22) 76 = .ok (.invokevirtual 104, 3) := by
  show decode prog_1_method_8_code 76 = _
  decide +kernel
theorem d22_79 (L : Nat) (xs : Nat → Int32) : decode (ax_code (mgT L xs) 22) 79 = .ok (.ireturn, 1) := by
  show decode prog_1_method_8_code 79 = _
  decide +kernel
theorem d22_80 (L : Nat) (xs : Nat → Int32) : decode (ax_code (mgT L xs) 22) 80 = .ok (.aload_n 0, 1) := by
  show decode prog_1_method_8_code 80 = _
  decide +kernel
theorem d22_81 (L : Nat) (xs : Nat → Int32) : decode (ax_code (mgT L xs) 22) 81 = .ok (.getfield 30, 3) := by
  show decode prog_1_method_8_code 81 = _
  decide +kernel
theorem d22_84 (L : Nat) (xs : Nat → Int32) : decode (ax_code (mgT L xs) 22) 84 = .ok (.invokevirtual 107, 3) := by
  show decode prog_1_method_8_code 84 = _
  decide +kernel
theorem d22_87 (L : Nat) (xs : Nat → Int32) : decode (ax_code (mgT L xs) 22) 87 = .ok (.ireturn, 1) := by
  show decode prog_1_method_8_code 87 = _
  decide +kernel
theorem d22_88 (L : Nat) (xs : Nat → Int32) : decode (ax_code (mgT L xs) 22) 88 = .ok (.iconst (-1), 1) := by
  show decode prog_1_method_8_code 88 = _
  decide +kernel
theorem d22_89 (L : Nat) (xs : Nat → Int32) : decode (ax_code (mgT L xs) 22) 89 = .ok (.ireturn, 1) := by
  show decode prog_1_method_8_code 89 = _
  decide +kernel
section LAT
variable {L : Nat} {xs : Nat → Int32} {d : Nat} {s : mg_s}
theorem gd_latest0  : ca L xs (d + 2) 22 [.ref 0, .int 0] s (fun v s' => v = some (.int (if s.1 87 5 = -1 then -1 else s.1 87 5)) ∧ s = s') := by
  refine wg_call (Nat.le_of_ble_eq_true rfl) ?_
  have hb := bI_lt (decide (¬ s.1 87 5 = -1))
  show wp L xs (d + 1) 22 0 [some (.ref 0), some (.int 0)] [] s _
  refine wg_aload_n (d22_0 L xs) rfl ?_
  refine wg_get (d22_1 L xs) (kd := 1) (cj := 0) (k0 := 2) rfl (Or.inl rfl) (by decide) rfl rfl ?_
  refine wg_invv (d22_4 L xs) (kd := 7) (mj := 23) (n := 0) rfl (Or.inl rfl) (ys := []) (r := []) rfl rfl (by decide) rfl rfl (Nat.le_of_ble_eq_true rfl) ck_has ?_
  rintro _ _ ⟨rfl, rfl⟩
  refine wn_if_ne (d22_7 L xs) (x := bI (decide (¬ s.1 87 5 = -1))) (by omega) (t := 12) (by decide) (fun h1 => ?_) (fun h1 => ?_)
  · refine wg_iload_n (d22_12 L xs) rfl ?_
    refine wg_tswIn (d22_13 L xs) (of := 35) (t := 48) (by decide) (by decide) (by decide) ?_
    refine wg_aload_n (d22_48 L xs) rfl ?_
    refine wg_get (d22_49 L xs) (kd := 1) (cj := 0) (k0 := 2) rfl (Or.inl rfl) (by decide) rfl rfl ?_
    refine wg_invv (d22_52 L xs) (kd := 7) (mj := 24) (n := 0) rfl (Or.inl rfl) (ys := []) (r := []) rfl rfl (by decide) rfl rfl (Nat.le_of_ble_eq_true rfl) ck_result ?_
    rintro _ _ ⟨rfl, rfl⟩
    exact wg_iret (d22_55 L xs) rfl rfl ⟨by rw [if_neg (of_decide_eq_true (bI_t (by omega)))], rfl⟩
  · refine wg_iconst (d22_10 L xs) (x := (-1)) (by decide) ?_
    exact wg_iret (d22_11 L xs) rfl rfl ⟨by rw [if_pos (Classical.not_not.mp (of_decide_eq_false (bI_f (by omega))))], rfl⟩
theorem gd_latest1  : ca L xs (d + 2) 22 [.ref 0, .int 1] s (fun v s' => v = some (.int (if s.1 87 5 = -1 then -1 else s.1 87 6)) ∧ s = s') := by
  refine wg_call (Nat.le_of_ble_eq_true rfl) ?_
  have hb := bI_lt (decide (¬ s.1 87 5 = -1))
  show wp L xs (d + 1) 22 0 [some (.ref 0), some (.int 1)] [] s _
  refine wg_aload_n (d22_0 L xs) rfl ?_
  refine wg_get (d22_1 L xs) (kd := 1) (cj := 0) (k0 := 2) rfl (Or.inl rfl) (by decide) rfl rfl ?_
  refine wg_invv (d22_4 L xs) (kd := 7) (mj := 23) (n := 0) rfl (Or.inl rfl) (ys := []) (r := []) rfl rfl (by decide) rfl rfl (Nat.le_of_ble_eq_true rfl) ck_has ?_
  rintro _ _ ⟨rfl, rfl⟩
  refine wn_if_ne (d22_7 L xs) (x := bI (decide (¬ s.1 87 5 = -1))) (by omega) (t := 12) (by decide) (fun h1 => ?_) (fun h1 => ?_)
  · refine wg_iload_n (d22_12 L xs) rfl ?_
    refine wg_tswIn (d22_13 L xs) (of := 43) (t := 56) (by decide) (by decide) (by decide) ?_
    refine wg_aload_n (d22_56 L xs) rfl ?_
    refine wg_get (d22_57 L xs) (kd := 1) (cj := 0) (k0 := 2) rfl (Or.inl rfl) (by decide) rfl rfl ?_
    refine wg_invv (d22_60 L xs) (kd := 7) (mj := 25) (n := 0) rfl (Or.inl rfl) (ys := []) (r := []) rfl rfl (by decide) rfl rfl (Nat.le_of_ble_eq_true rfl) ck_lookups ?_
    rintro _ _ ⟨rfl, rfl⟩
    exact wg_iret (d22_63 L xs) rfl rfl ⟨by rw [if_neg (of_decide_eq_true (bI_t (by omega)))], rfl⟩
  · refine wg_iconst (d22_10 L xs) (x := (-1)) (by decide) ?_
    exact wg_iret (d22_11 L xs) rfl rfl ⟨by rw [if_pos (Classical.not_not.mp (of_decide_eq_false (bI_f (by omega))))], rfl⟩
theorem gd_latest2  : ca L xs (d + 2) 22 [.ref 0, .int 2] s (fun v s' => v = some (.int (if s.1 87 5 = -1 then -1 else s.1 87 7)) ∧ s = s') := by
  refine wg_call (Nat.le_of_ble_eq_true rfl) ?_
  have hb := bI_lt (decide (¬ s.1 87 5 = -1))
  show wp L xs (d + 1) 22 0 [some (.ref 0), some (.int 2)] [] s _
  refine wg_aload_n (d22_0 L xs) rfl ?_
  refine wg_get (d22_1 L xs) (kd := 1) (cj := 0) (k0 := 2) rfl (Or.inl rfl) (by decide) rfl rfl ?_
  refine wg_invv (d22_4 L xs) (kd := 7) (mj := 23) (n := 0) rfl (Or.inl rfl) (ys := []) (r := []) rfl rfl (by decide) rfl rfl (Nat.le_of_ble_eq_true rfl) ck_has ?_
  rintro _ _ ⟨rfl, rfl⟩
  refine wn_if_ne (d22_7 L xs) (x := bI (decide (¬ s.1 87 5 = -1))) (by omega) (t := 12) (by decide) (fun h1 => ?_) (fun h1 => ?_)
  · refine wg_iload_n (d22_12 L xs) rfl ?_
    refine wg_tswIn (d22_13 L xs) (of := 51) (t := 64) (by decide) (by decide) (by decide) ?_
    refine wg_aload_n (d22_64 L xs) rfl ?_
    refine wg_get (d22_65 L xs) (kd := 1) (cj := 0) (k0 := 2) rfl (Or.inl rfl) (by decide) rfl rfl ?_
    refine wg_invv (d22_68 L xs) (kd := 7) (mj := 26) (n := 0) rfl (Or.inl rfl) (ys := []) (r := []) rfl rfl (by decide) rfl rfl (Nat.le_of_ble_eq_true rfl) ck_voids ?_
    rintro _ _ ⟨rfl, rfl⟩
    exact wg_iret (d22_71 L xs) rfl rfl ⟨by rw [if_neg (of_decide_eq_true (bI_t (by omega)))], rfl⟩
  · refine wg_iconst (d22_10 L xs) (x := (-1)) (by decide) ?_
    exact wg_iret (d22_11 L xs) rfl rfl ⟨by rw [if_pos (Classical.not_not.mp (of_decide_eq_false (bI_f (by omega))))], rfl⟩
theorem gd_latest3  : ca L xs (d + 2) 22 [.ref 0, .int 3] s (fun v s' => v = some (.int (if s.1 87 5 = -1 then -1 else s.1 87 8)) ∧ s = s') := by
  refine wg_call (Nat.le_of_ble_eq_true rfl) ?_
  have hb := bI_lt (decide (¬ s.1 87 5 = -1))
  show wp L xs (d + 1) 22 0 [some (.ref 0), some (.int 3)] [] s _
  refine wg_aload_n (d22_0 L xs) rfl ?_
  refine wg_get (d22_1 L xs) (kd := 1) (cj := 0) (k0 := 2) rfl (Or.inl rfl) (by decide) rfl rfl ?_
  refine wg_invv (d22_4 L xs) (kd := 7) (mj := 23) (n := 0) rfl (Or.inl rfl) (ys := []) (r := []) rfl rfl (by decide) rfl rfl (Nat.le_of_ble_eq_true rfl) ck_has ?_
  rintro _ _ ⟨rfl, rfl⟩
  refine wn_if_ne (d22_7 L xs) (x := bI (decide (¬ s.1 87 5 = -1))) (by omega) (t := 12) (by decide) (fun h1 => ?_) (fun h1 => ?_)
  · refine wg_iload_n (d22_12 L xs) rfl ?_
    refine wg_tswIn (d22_13 L xs) (of := 59) (t := 72) (by decide) (by decide) (by decide) ?_
    refine wg_aload_n (d22_72 L xs) rfl ?_
    refine wg_get (d22_73 L xs) (kd := 1) (cj := 0) (k0 := 2) rfl (Or.inl rfl) (by decide) rfl rfl ?_
    refine wg_invv (d22_76 L xs) (kd := 7) (mj := 27) (n := 0) rfl (Or.inl rfl) (ys := []) (r := []) rfl rfl (by decide) rfl rfl (Nat.le_of_ble_eq_true rfl) ck_matched ?_
    rintro _ _ ⟨rfl, rfl⟩
    exact wg_iret (d22_79 L xs) rfl rfl ⟨by rw [if_neg (of_decide_eq_true (bI_t (by omega)))], rfl⟩
  · refine wg_iconst (d22_10 L xs) (x := (-1)) (by decide) ?_
    exact wg_iret (d22_11 L xs) rfl rfl ⟨by rw [if_pos (Classical.not_not.mp (of_decide_eq_false (bI_f (by omega))))], rfl⟩
theorem gd_latest4  : ca L xs (d + 2) 22 [.ref 0, .int 4] s (fun v s' => v = some (.int (if s.1 87 5 = -1 then -1 else s.1 87 9)) ∧ s = s') := by
  refine wg_call (Nat.le_of_ble_eq_true rfl) ?_
  have hb := bI_lt (decide (¬ s.1 87 5 = -1))
  show wp L xs (d + 1) 22 0 [some (.ref 0), some (.int 4)] [] s _
  refine wg_aload_n (d22_0 L xs) rfl ?_
  refine wg_get (d22_1 L xs) (kd := 1) (cj := 0) (k0 := 2) rfl (Or.inl rfl) (by decide) rfl rfl ?_
  refine wg_invv (d22_4 L xs) (kd := 7) (mj := 23) (n := 0) rfl (Or.inl rfl) (ys := []) (r := []) rfl rfl (by decide) rfl rfl (Nat.le_of_ble_eq_true rfl) ck_has ?_
  rintro _ _ ⟨rfl, rfl⟩
  refine wn_if_ne (d22_7 L xs) (x := bI (decide (¬ s.1 87 5 = -1))) (by omega) (t := 12) (by decide) (fun h1 => ?_) (fun h1 => ?_)
  · refine wg_iload_n (d22_12 L xs) rfl ?_
    refine wg_tswIn (d22_13 L xs) (of := 67) (t := 80) (by decide) (by decide) (by decide) ?_
    refine wg_aload_n (d22_80 L xs) rfl ?_
    refine wg_get (d22_81 L xs) (kd := 1) (cj := 0) (k0 := 2) rfl (Or.inl rfl) (by decide) rfl rfl ?_
    refine wg_invv (d22_84 L xs) (kd := 7) (mj := 28) (n := 0) rfl (Or.inl rfl) (ys := []) (r := []) rfl rfl (by decide) rfl rfl (Nat.le_of_ble_eq_true rfl) ck_checks ?_
    rintro _ _ ⟨rfl, rfl⟩
    exact wg_iret (d22_87 L xs) rfl rfl ⟨by rw [if_neg (of_decide_eq_true (bI_t (by omega)))], rfl⟩
  · refine wg_iconst (d22_10 L xs) (x := (-1)) (by decide) ?_
    exact wg_iret (d22_11 L xs) rfl rfl ⟨by rw [if_pos (Classical.not_not.mp (of_decide_eq_false (bI_f (by omega))))], rfl⟩
theorem gd_latesto {w : Int32} (hw : w.toInt < 0 ∨ 4 < w.toInt) : ca L xs (d + 2) 22 [.ref 0, .int w] s (fun v s' => v = some (.int (if s.1 87 5 = -1 then -1 else -1)) ∧ s = s') := by
  refine wg_call (Nat.le_of_ble_eq_true rfl) ?_
  have hb := bI_lt (decide (¬ s.1 87 5 = -1))
  show wp L xs (d + 1) 22 0 [some (.ref 0), some (.int w)] [] s _
  refine wg_aload_n (d22_0 L xs) rfl ?_
  refine wg_get (d22_1 L xs) (kd := 1) (cj := 0) (k0 := 2) rfl (Or.inl rfl) (by decide) rfl rfl ?_
  refine wg_invv (d22_4 L xs) (kd := 7) (mj := 23) (n := 0) rfl (Or.inl rfl) (ys := []) (r := []) rfl rfl (by decide) rfl rfl (Nat.le_of_ble_eq_true rfl) ck_has ?_
  rintro _ _ ⟨rfl, rfl⟩
  refine wn_if_ne (d22_7 L xs) (x := bI (decide (¬ s.1 87 5 = -1))) (by omega) (t := 12) (by decide) (fun h1 => ?_) (fun h1 => ?_)
  · refine wg_iload_n (d22_12 L xs) rfl ?_
    refine wg_tswOut (d22_13 L xs) (t := 88) hw (by decide) ?_
    refine wg_iconst (d22_88 L xs) (x := (-1)) (by decide) ?_
    exact wg_iret (d22_89 L xs) rfl rfl ⟨by split <;> rfl, rfl⟩
  · refine wg_iconst (d22_10 L xs) (x := (-1)) (by decide) ?_
    exact wg_iret (d22_11 L xs) rfl rfl ⟨by split <;> rfl, rfl⟩
end LAT
