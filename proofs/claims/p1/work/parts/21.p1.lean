theorem z18_1 (L : Nat) (xs : Nat → Int32) {d : Nat} {h : ax_H} (hz : h.2.1 = 167) (F1 : h.1 1 = some (.inr (1, [.ref 2, .int 0]))) : ax_Ca (mgT L xs) (d + 1) 18 [.ref 1] h (.inl none, (ax_up h 1 (.inr (1, [.ref 2, .int 0])))) := by
  refine ag_call (Nat.le_of_ble_eq_true rfl) ?_
  show ax_Go (mgT L xs) (d + 0) 18 0 [some (.ref 1)] [] h _
  refine ag_aload_n (d18_0 L xs) rfl ?_
  refine ag_iconst (d18_1 L xs) (x := 0) (by decide) ?_
  refine ag_put (d18_2 L xs) (cj := 1) (k0 := 1) rfl F1 (ax_lt hz (Nat.le_of_ble_eq_true rfl)) (Nat.le_of_ble_eq_true rfl) rfl rfl ?_
  exact ag_vret (d18_5 L xs) rfl
theorem z17_2 (L : Nat) (xs : Nat → Int32) {d : Nat} {h : ax_H} (hz : h.2.1 = 167) (F0 : h.1 0 = some (.inr (0, [.ref 1, .ref 3, .ref 87, .ref 137]))) (F1 : h.1 1 = some (.inr (1, [.ref 2, .int 0]))) : ax_Ca (mgT L xs) (d + 2) 17 [.ref 0] h (.inl none, (ax_up h 1 (.inr (1, [.ref 2, .int 0])))) := by
  refine ag_call (Nat.le_of_ble_eq_true rfl) ?_
  show ax_Go (mgT L xs) (d + 1) 17 0 [some (.ref 0)] [] h _
  refine ag_aload_n (d17_0 L xs) rfl ?_
  refine ag_get (d17_1 L xs) (kd := 1) (cj := 0) (k0 := 0) rfl (Or.inl rfl) F0 rfl ?_
  refine ag_invv (d17_4 L xs) (kd := 7) (mj := 18) (n := 0) rfl (Or.inl rfl) (xs := []) (r := []) rfl rfl F1 rfl (Nat.le_of_ble_eq_true rfl) (z18_1 L xs (d := d + 0) (h := _) hz F1) ?_
  exact ag_vret (d17_7 L xs) rfl
theorem z15_3 (L : Nat) (xs : Nat → Int32) {d : Nat} {h : ax_H} (hz : h.2.1 = 167) (F1 : h.1 1 = some (.inr (1, [.ref 2, .int 0]))) : ax_Ca (mgT L xs) (d + 1) 15 [.ref 1] h (.inl (some (.int 0)), h) := by
  refine ag_call (Nat.le_of_ble_eq_true rfl) ?_
  show ax_Go (mgT L xs) (d + 0) 15 0 [some (.ref 1)] [] h _
  refine ag_aload_n (d15_0 L xs) rfl ?_
  refine ag_get (d15_1 L xs) (kd := 1) (cj := 1) (k0 := 1) rfl (Or.inl rfl) F1 rfl ?_
  exact ag_iret (d15_4 L xs) rfl rfl
theorem z19_4 (L : Nat) (xs : Nat → Int32) {d : Nat} {h : ax_H} (hz : h.2.1 = 167) (F0 : h.1 0 = some (.inr (0, [.ref 1, .ref 3, .ref 87, .ref 137]))) (F1 : h.1 1 = some (.inr (1, [.ref 2, .int 0]))) : ax_Ca (mgT L xs) (d + 2) 19 [.ref 0] h (.inl (some (.int 0)), h) := by
  refine ag_call (Nat.le_of_ble_eq_true rfl) ?_
  show ax_Go (mgT L xs) (d + 1) 19 0 [some (.ref 0)] [] h _
  refine ag_aload_n (d19_0 L xs) rfl ?_
  refine ag_get (d19_1 L xs) (kd := 1) (cj := 0) (k0 := 0) rfl (Or.inl rfl) F0 rfl ?_
  refine ag_invv (d19_4 L xs) (kd := 7) (mj := 15) (n := 0) rfl (Or.inl rfl) (xs := []) (r := []) rfl rfl F1 rfl (Nat.le_of_ble_eq_true rfl) (z15_3 L xs (d := d + 0) (h := _) hz F1) ?_
  exact ag_iret (d19_7 L xs) rfl rfl
theorem z21_5 (L : Nat) (xs : Nat → Int32) {d : Nat} {h : ax_H} {k : Int32} (hz : h.2.1 = 167) (hc_0 : k < 0) : ax_Ca (mgT L xs) (d + 1) 21 [.ref 3, .int k] h (.inl (some (.int 0)), h) := by
  refine ag_call (Nat.le_of_ble_eq_true rfl) ?_
  show ax_Go (mgT L xs) (d + 0) 21 0 [some (.ref 3), some (.int k), none, none] [] h _
  refine ag_iload_n (d21_0 L xs) rfl ?_
  refine ag_if_lt (d21_1 L xs) (t := 12) (by decide) (fun _ => ?_) (fun hn => absurd hc_0 hn)
  refine ag_iconst (d21_12 L xs) (x := 0) (by decide) ?_
  exact ag_iret (d21_13 L xs) rfl rfl
theorem z21_6 (L : Nat) (xs : Nat → Int32) {d : Nat} {h : ax_H} {k : Int32} (hz : h.2.1 = 167) (F3 : h.1 3 = some (.inr (3, [.ref 4, .int 0, .ref 5]))) (hc_0 : ¬ (k < 0)) : ax_Ca (mgT L xs) (d + 1) 21 [.ref 3, .int k] h (.inl (some (.int 0)), h) := by
  refine ag_call (Nat.le_of_ble_eq_true rfl) ?_
  show ax_Go (mgT L xs) (d + 0) 21 0 [some (.ref 3), some (.int k), none, none] [] h _
  refine ag_iload_n (d21_0 L xs) rfl ?_
  refine ag_if_lt (d21_1 L xs) (t := 12) (by decide) (fun hp => absurd hp hc_0) (fun _ => ?_)
  refine ag_iload_n (d21_4 L xs) rfl ?_
  refine ag_aload_n (d21_5 L xs) rfl ?_
  refine ag_get (d21_6 L xs) (kd := 1) (cj := 3) (k0 := 1) rfl (Or.inl rfl) F3 rfl ?_
  refine ag_icmp_lt (d21_9 L xs) (t := 14) (by decide) (fun hp => absurd hp hc_0) (fun _ => ?_)
  refine ag_iconst (d21_12 L xs) (x := 0) (by decide) ?_
  exact ag_iret (d21_13 L xs) rfl rfl
theorem z20_7 (L : Nat) (xs : Nat → Int32) {d : Nat} {h : ax_H} {k : Int32} (hz : h.2.1 = 167) (F0 : h.1 0 = some (.inr (0, [.ref 1, .ref 3, .ref 87, .ref 137]))) (F3 : h.1 3 = some (.inr (3, [.ref 4, .int 0, .ref 5]))) (hc_0 : k < 0) : ax_Ca (mgT L xs) (d + 2) 20 [.ref 0, .int k] h (.inl (some (.int 0)), h) := by
  refine ag_call (Nat.le_of_ble_eq_true rfl) ?_
  show ax_Go (mgT L xs) (d + 1) 20 0 [some (.ref 0), some (.int k)] [] h _
  refine ag_aload_n (d20_0 L xs) rfl ?_
  refine ag_get (d20_1 L xs) (kd := 1) (cj := 0) (k0 := 1) rfl (Or.inl rfl) F0 rfl ?_
  refine ag_iload_n (d20_4 L xs) rfl ?_
  refine ag_invv (d20_5 L xs) (kd := 7) (mj := 21) (n := 1) rfl (Or.inl rfl) (xs := [.int k]) (r := []) rfl rfl F3 rfl (Nat.le_of_ble_eq_true rfl) (z21_5 L xs (d := d + 0) (h := _) (k := k) hz hc_0) ?_
  exact ag_iret (d20_8 L xs) rfl rfl
theorem z20_8 (L : Nat) (xs : Nat → Int32) {d : Nat} {h : ax_H} {k : Int32} (hz : h.2.1 = 167) (F0 : h.1 0 = some (.inr (0, [.ref 1, .ref 3, .ref 87, .ref 137]))) (F3 : h.1 3 = some (.inr (3, [.ref 4, .int 0, .ref 5]))) (hc_0 : ¬ (k < 0)) : ax_Ca (mgT L xs) (d + 2) 20 [.ref 0, .int k] h (.inl (some (.int 0)), h) := by
  refine ag_call (Nat.le_of_ble_eq_true rfl) ?_
  show ax_Go (mgT L xs) (d + 1) 20 0 [some (.ref 0), some (.int k)] [] h _
  refine ag_aload_n (d20_0 L xs) rfl ?_
  refine ag_get (d20_1 L xs) (kd := 1) (cj := 0) (k0 := 1) rfl (Or.inl rfl) F0 rfl ?_
  refine ag_iload_n (d20_4 L xs) rfl ?_
  refine ag_invv (d20_5 L xs) (kd := 7) (mj := 21) (n := 1) rfl (Or.inl rfl) (xs := [.int k]) (r := []) rfl rfl F3 rfl (Nat.le_of_ble_eq_true rfl) (z21_6 L xs (d := d + 0) (h := _) (k := k) hz F3 hc_0) ?_
  exact ag_iret (d20_8 L xs) rfl rfl
theorem z23_9 (L : Nat) (xs : Nat → Int32) {d : Nat} {h : ax_H} (hz : h.2.1 = 167) (F87 : h.1 87 = some (.inr (6, [.ref 3, .ref 88, .ref 89, .ref 91, .int 0, .int (-1), .int 0, .int 0, .int 0, .int 0]))) : ax_Ca (mgT L xs) (d + 1) 23 [.ref 87] h (.inl (some (.int 0)), h) := by
  refine ag_call (Nat.le_of_ble_eq_true rfl) ?_
  show ax_Go (mgT L xs) (d + 0) 23 0 [some (.ref 87)] [] h _
  refine ag_aload_n (d23_0 L xs) rfl ?_
  refine ag_get (d23_1 L xs) (kd := 1) (cj := 6) (k0 := 5) rfl (Or.inl rfl) F87 rfl ?_
  refine ag_iconst (d23_4 L xs) (x := (-1)) (by decide) ?_
  refine ag_icmp_eq (d23_5 L xs) (t := 12) (by decide) (fun _ => ?_) (fun hn => absurd (by decide) hn)
  refine ag_iconst (d23_12 L xs) (x := 0) (by decide) ?_
  exact ag_iret (d23_13 L xs) rfl rfl
theorem z22_10 (L : Nat) (xs : Nat → Int32) {d : Nat} {h : ax_H} {k : Int32} (hz : h.2.1 = 167) (F0 : h.1 0 = some (.inr (0, [.ref 1, .ref 3, .ref 87, .ref 137]))) (F87 : h.1 87 = some (.inr (6, [.ref 3, .ref 88, .ref 89, .ref 91, .int 0, .int (-1), .int 0, .int 0, .int 0, .int 0]))) : ax_Ca (mgT L xs) (d + 2) 22 [.ref 0, .int k] h (.inl (some (.int (-1))), h) := by
  refine ag_call (Nat.le_of_ble_eq_true rfl) ?_
  show ax_Go (mgT L xs) (d + 1) 22 0 [some (.ref 0), some (.int k)] [] h _
  refine ag_aload_n (d22_0 L xs) rfl ?_
  refine ag_get (d22_1 L xs) (kd := 1) (cj := 0) (k0 := 2) rfl (Or.inl rfl) F0 rfl ?_
  refine ag_invv (d22_4 L xs) (kd := 7) (mj := 23) (n := 0) rfl (Or.inl rfl) (xs := []) (r := []) rfl rfl F87 rfl (Nat.le_of_ble_eq_true rfl) (z23_9 L xs (d := d + 0) (h := _) hz F87) ?_
  refine ag_if_ne (d22_7 L xs) (t := 12) (by decide) (fun hp => absurd hp (by decide)) (fun _ => ?_)
  refine ag_iconst (d22_10 L xs) (x := (-1)) (by decide) ?_
  exact ag_iret (d22_11 L xs) rfl rfl
theorem z30_11 (L : Nat) (xs : Nat → Int32) {d : Nat} {h : ax_H} (hz : h.2.1 = 167) (F3 : h.1 3 = some (.inr (3, [.ref 4, .int 0, .ref 5]))) : ax_Ca (mgT L xs) (d + 1) 30 [.ref 3] h (.inl (some (.ref 5)), h) := by
  refine ag_call (Nat.le_of_ble_eq_true rfl) ?_
  show ax_Go (mgT L xs) (d + 0) 30 0 [some (.ref 3)] [] h _
  refine ag_aload_n (d30_0 L xs) rfl ?_
  refine ag_get (d30_1 L xs) (kd := 1) (cj := 3) (k0 := 2) rfl (Or.inl rfl) F3 rfl ?_
  exact ag_aret (d30_4 L xs) rfl
theorem z15_12 (L : Nat) (xs : Nat → Int32) {d : Nat} {h : ax_H} (hz : h.2.1 = 167) (F5 : h.1 5 = some (.inr (1, [.ref 6, .int 0]))) : ax_Ca (mgT L xs) (d + 1) 15 [.ref 5] h (.inl (some (.int 0)), h) := by
  refine ag_call (Nat.le_of_ble_eq_true rfl) ?_
  show ax_Go (mgT L xs) (d + 0) 15 0 [some (.ref 5)] [] h _
  refine ag_aload_n (d15_0 L xs) rfl ?_
  refine ag_get (d15_1 L xs) (kd := 1) (cj := 1) (k0 := 1) rfl (Or.inl rfl) F5 rfl ?_
  exact ag_iret (d15_4 L xs) rfl rfl
theorem z29_13 (L : Nat) (xs : Nat → Int32) {d : Nat} {h : ax_H} {k : Int32} (hz : h.2.1 = 167) (F0 : h.1 0 = some (.inr (0, [.ref 1, .ref 3, .ref 87, .ref 137]))) (F3 : h.1 3 = some (.inr (3, [.ref 4, .int 0, .ref 5]))) (F5 : h.1 5 = some (.inr (1, [.ref 6, .int 0]))) : ax_Ca (mgT L xs) (d + 2) 29 [.ref 0, .int k] h (.inl (some (.int (-1))), h) := by
  refine ag_call (Nat.le_of_ble_eq_true rfl) ?_
  show ax_Go (mgT L xs) (d + 1) 29 0 [some (.ref 0), some (.int k), none] [] h _
  refine ag_aload_n (d29_0 L xs) rfl ?_
  refine ag_get (d29_1 L xs) (kd := 1) (cj := 0) (k0 := 1) rfl (Or.inl rfl) F0 rfl ?_
  refine ag_invv (d29_4 L xs) (kd := 7) (mj := 30) (n := 0) rfl (Or.inl rfl) (xs := []) (r := []) rfl rfl F3 rfl (Nat.le_of_ble_eq_true rfl) (z30_11 L xs (d := d + 0) (h := _) hz F3) ?_
  refine ag_astore_n (d29_7 L xs) (ls' := [some (.ref 0), some (.int k), some (.ref 5)]) (Nat.le_of_ble_eq_true rfl) rfl ?_
  refine ag_aload_n (d29_8 L xs) rfl ?_
  refine ag_invv (d29_9 L xs) (kd := 7) (mj := 15) (n := 0) rfl (Or.inl rfl) (xs := []) (r := []) rfl rfl F5 rfl (Nat.le_of_ble_eq_true rfl) (z15_12 L xs (d := d + 0) (h := _) hz F5) ?_
  refine ag_if_ne (d29_12 L xs) (t := 17) (by decide) (fun hp => absurd hp (by decide)) (fun _ => ?_)
  refine ag_iconst (d29_15 L xs) (x := (-1)) (by decide) ?_
  exact ag_iret (d29_16 L xs) rfl rfl
theorem z33_14 (L : Nat) (xs : Nat → Int32) {d : Nat} {h : ax_H} (hz : h.2.1 = 167) (F3 : h.1 3 = some (.inr (3, [.ref 4, .int 0, .ref 5]))) : ax_Ca (mgT L xs) (d + 1) 33 [.ref 3] h (.inl (some (.int 0)), h) := by
  refine ag_call (Nat.le_of_ble_eq_true rfl) ?_
  show ax_Go (mgT L xs) (d + 0) 33 0 [some (.ref 3)] [] h _
  refine ag_aload_n (d33_0 L xs) rfl ?_
  refine ag_get (d33_1 L xs) (kd := 1) (cj := 3) (k0 := 1) rfl (Or.inl rfl) F3 rfl ?_
  exact ag_iret (d33_4 L xs) rfl rfl
theorem z32_15 (L : Nat) (xs : Nat → Int32) {d : Nat} {h : ax_H} {k : Int32} (hz : h.2.1 = 167) (F0 : h.1 0 = some (.inr (0, [.ref 1, .ref 3, .ref 87, .ref 137]))) (F3 : h.1 3 = some (.inr (3, [.ref 4, .int 0, .ref 5]))) (hc_1 : k = (-1)) : ax_Ca (mgT L xs) (d + 2) 32 [.ref 0, .int k] h (.inl (some (.int 0)), h) := by
  refine ag_call (Nat.le_of_ble_eq_true rfl) ?_
  show ax_Go (mgT L xs) (d + 1) 32 0 [some (.ref 0), some (.int k), none] [] h _
  refine ag_iload_n (d32_0 L xs) rfl ?_
  refine ag_iconst (d32_1 L xs) (x := (-1)) (by decide) ?_
  refine ag_icmp_ne (d32_2 L xs) (t := 13) (by decide) (fun hp => absurd hp (not_not_intro hc_1)) (fun _ => ?_)
  refine ag_aload_n (d32_5 L xs) rfl ?_
  refine ag_get (d32_6 L xs) (kd := 1) (cj := 0) (k0 := 1) rfl (Or.inl rfl) F0 rfl ?_
  refine ag_invv (d32_9 L xs) (kd := 7) (mj := 33) (n := 0) rfl (Or.inl rfl) (xs := []) (r := []) rfl rfl F3 rfl (Nat.le_of_ble_eq_true rfl) (z33_14 L xs (d := d + 0) (h := _) hz F3) ?_
  exact ag_iret (d32_12 L xs) rfl rfl
theorem z34_16 (L : Nat) (xs : Nat → Int32) {d : Nat} {h : ax_H} {k : Int32} (hz : h.2.1 = 167) (hc_0 : k < 0) : ax_Ca (mgT L xs) (d + 1) 34 [.ref 3, .int k] h (.inl (some (.null)), h) := by
  refine ag_call (Nat.le_of_ble_eq_true rfl) ?_
  show ax_Go (mgT L xs) (d + 0) 34 0 [some (.ref 3), some (.int k)] [] h _
  refine ag_iload_n (d34_0 L xs) rfl ?_
  refine ag_if_lt (d34_1 L xs) (t := 21) (by decide) (fun _ => ?_) (fun hn => absurd hc_0 hn)
  refine ag_null (d34_21 L xs) ?_
  exact ag_aretN (d34_22 L xs) rfl
theorem z34_17 (L : Nat) (xs : Nat → Int32) {d : Nat} {h : ax_H} {k : Int32} (hz : h.2.1 = 167) (F3 : h.1 3 = some (.inr (3, [.ref 4, .int 0, .ref 5]))) (hc_0 : ¬ (k < 0)) : ax_Ca (mgT L xs) (d + 1) 34 [.ref 3, .int k] h (.inl (some (.null)), h) := by
  refine ag_call (Nat.le_of_ble_eq_true rfl) ?_
  show ax_Go (mgT L xs) (d + 0) 34 0 [some (.ref 3), some (.int k)] [] h _
  refine ag_iload_n (d34_0 L xs) rfl ?_
  refine ag_if_lt (d34_1 L xs) (t := 21) (by decide) (fun hp => absurd hp hc_0) (fun _ => ?_)
  refine ag_iload_n (d34_4 L xs) rfl ?_
  refine ag_aload_n (d34_5 L xs) rfl ?_
  refine ag_get (d34_6 L xs) (kd := 1) (cj := 3) (k0 := 1) rfl (Or.inl rfl) F3 rfl ?_
  refine ag_icmp_ge (d34_9 L xs) (t := 21) (by decide) (fun _ => ?_) (fun hn => absurd (Int32.not_lt.mp hc_0) hn)
  refine ag_null (d34_21 L xs) ?_
  exact ag_aretN (d34_22 L xs) rfl
theorem z32_18 (L : Nat) (xs : Nat → Int32) {d : Nat} {h : ax_H} {k : Int32} (hz : h.2.1 = 167) (F0 : h.1 0 = some (.inr (0, [.ref 1, .ref 3, .ref 87, .ref 137]))) (F3 : h.1 3 = some (.inr (3, [.ref 4, .int 0, .ref 5]))) (hc_0 : k < 0) (hc_1 : ¬ (k = (-1))) : ax_Ca (mgT L xs) (d + 2) 32 [.ref 0, .int k] h (.inl (some (.int (-1))), h) := by
  refine ag_call (Nat.le_of_ble_eq_true rfl) ?_
  show ax_Go (mgT L xs) (d + 1) 32 0 [some (.ref 0), some (.int k), none] [] h _
  refine ag_iload_n (d32_0 L xs) rfl ?_
  refine ag_iconst (d32_1 L xs) (x := (-1)) (by decide) ?_
  refine ag_icmp_ne (d32_2 L xs) (t := 13) (by decide) (fun _ => ?_) (fun hn => absurd hc_1 hn)
  refine ag_aload_n (d32_13 L xs) rfl ?_
  refine ag_get (d32_14 L xs) (kd := 1) (cj := 0) (k0 := 1) rfl (Or.inl rfl) F0 rfl ?_
  refine ag_iload_n (d32_17 L xs) rfl ?_
  refine ag_invv (d32_18 L xs) (kd := 7) (mj := 34) (n := 1) rfl (Or.inl rfl) (xs := [.int k]) (r := []) rfl rfl F3 rfl (Nat.le_of_ble_eq_true rfl) (z34_16 L xs (d := d + 0) (h := _) (k := k) hz hc_0) ?_
  refine ag_astore_nN (d32_21 L xs) (ls' := [some (.ref 0), some (.int k), some (.null)]) (Nat.le_of_ble_eq_true rfl) rfl ?_
  refine ag_aload_nN (d32_22 L xs) rfl ?_
  refine ag_ifnonnullN (d32_23 L xs) ?_
  refine ag_iconst (d32_26 L xs) (x := (-1)) (by decide) ?_
  refine ag_goto (d32_27 L xs) (t := 34) (by decide) ?_
  exact ag_iret (d32_34 L xs) rfl rfl
theorem z32_19 (L : Nat) (xs : Nat → Int32) {d : Nat} {h : ax_H} {k : Int32} (hz : h.2.1 = 167) (F0 : h.1 0 = some (.inr (0, [.ref 1, .ref 3, .ref 87, .ref 137]))) (F3 : h.1 3 = some (.inr (3, [.ref 4, .int 0, .ref 5]))) (hc_0 : ¬ (k < 0)) (hc_1 : ¬ (k = (-1))) : ax_Ca (mgT L xs) (d + 2) 32 [.ref 0, .int k] h (.inl (some (.int (-1))), h) := by
  refine ag_call (Nat.le_of_ble_eq_true rfl) ?_
  show ax_Go (mgT L xs) (d + 1) 32 0 [some (.ref 0), some (.int k), none] [] h _
  refine ag_iload_n (d32_0 L xs) rfl ?_
  refine ag_iconst (d32_1 L xs) (x := (-1)) (by decide) ?_
  refine ag_icmp_ne (d32_2 L xs) (t := 13) (by decide) (fun _ => ?_) (fun hn => absurd hc_1 hn)
  refine ag_aload_n (d32_13 L xs) rfl ?_
  refine ag_get (d32_14 L xs) (kd := 1) (cj := 0) (k0 := 1) rfl (Or.inl rfl) F0 rfl ?_
  refine ag_iload_n (d32_17 L xs) rfl ?_
  refine ag_invv (d32_18 L xs) (kd := 7) (mj := 34) (n := 1) rfl (Or.inl rfl) (xs := [.int k]) (r := []) rfl rfl F3 rfl (Nat.le_of_ble_eq_true rfl) (z34_17 L xs (d := d + 0) (h := _) (k := k) hz F3 hc_0) ?_
  refine ag_astore_nN (d32_21 L xs) (ls' := [some (.ref 0), some (.int k), some (.null)]) (Nat.le_of_ble_eq_true rfl) rfl ?_
  refine ag_aload_nN (d32_22 L xs) rfl ?_
  refine ag_ifnonnullN (d32_23 L xs) ?_
  refine ag_iconst (d32_26 L xs) (x := (-1)) (by decide) ?_
  refine ag_goto (d32_27 L xs) (t := 34) (by decide) ?_
  exact ag_iret (d32_34 L xs) rfl rfl
theorem z37_20 (L : Nat) (xs : Nat → Int32) {d : Nat} {h : ax_H} (hz : h.2.1 = 167) : ax_Ca (mgT L xs) (d + 1) 37 [.ref 1, .int 32, .int 0, .int 0] h (.inl (some (.int 0)), h) := by
  refine ag_call (Nat.le_of_ble_eq_true rfl) ?_
  show ax_Go (mgT L xs) (d + 0) 37 0 [some (.ref 1), some (.int 32), some (.int 0), some (.int 0), none] [] h _
  refine ag_iload_n (d37_0 L xs) rfl ?_
  refine ag_istore (d37_1 L xs) (ls' := [some (.ref 1), some (.int 32), some (.int 0), some (.int 0), some (.int 0)]) (Nat.le_of_ble_eq_true rfl) rfl ?_
  refine ag_iload (d37_3 L xs) rfl ?_
  refine ag_iload_n (d37_5 L xs) rfl ?_
  refine ag_icmp_ge (d37_6 L xs) (t := 28) (by decide) (fun _ => ?_) (fun hn => absurd (by decide) hn)
  refine ag_iload_n (d37_28 L xs) rfl ?_
  exact ag_iret (d37_29 L xs) rfl rfl
theorem z38_21 (L : Nat) (xs : Nat → Int32) {d : Nat} {h : ax_H} (hz : h.2.1 = 167) : ax_Ca (mgT L xs) (d + 1) 38 [.ref 1, .int 0, .int 0] h (.inl (some (.int 0)), h) := by
  refine ag_call (Nat.le_of_ble_eq_true rfl) ?_
  show ax_Go (mgT L xs) (d + 0) 38 0 [some (.ref 1), some (.int 0), some (.int 0), none, none, none] [] h _
  refine ag_iload_n (d38_0 L xs) rfl ?_
  refine ag_iload_n (d38_1 L xs) rfl ?_
  refine ag_isub (d38_2 L xs) ?_
  refine ag_top (y := 0) (by decide) ?_
  refine ag_bipush (d38_3 L xs) (x := 48) (by decide) ?_
  refine ag_icmp_le (d38_5 L xs) (t := 10) (by decide) (fun _ => ?_) (fun hn => absurd (by decide) hn)
  refine ag_iconst (d38_10 L xs) (x := 0) (by decide) ?_
  refine ag_istore_n (d38_11 L xs) (ls' := [some (.ref 1), some (.int 0), some (.int 0), some (.int 0), none, none]) (Nat.le_of_ble_eq_true rfl) rfl ?_
  refine ag_iload_n (d38_12 L xs) rfl ?_
  refine ag_istore (d38_13 L xs) (ls' := [some (.ref 1), some (.int 0), some (.int 0), some (.int 0), some (.int 0), none]) (Nat.le_of_ble_eq_true rfl) rfl ?_
  refine ag_iload (d38_15 L xs) rfl ?_
  refine ag_iload_n (d38_17 L xs) rfl ?_
  refine ag_icmp_ge (d38_18 L xs) (t := 72) (by decide) (fun _ => ?_) (fun hn => absurd (by decide) hn)
  refine ag_iload_n (d38_72 L xs) rfl ?_
  refine ag_if_le (d38_73 L xs) (t := 80) (by decide) (fun _ => ?_) (fun hn => absurd (by decide) hn)
  refine ag_iconst (d38_80 L xs) (x := 0) (by decide) ?_
  exact ag_iret (d38_81 L xs) rfl rfl
theorem z36_22 (L : Nat) (xs : Nat → Int32) {d : Nat} {h : ax_H} {k : Int32} (hz : h.2.1 = 167) (F0 : h.1 0 = some (.inr (0, [.ref 1, .ref 3, .ref 87, .ref 137]))) (F1 : h.1 1 = some (.inr (1, [.ref 2, .int 0]))) : ax_Ca (mgT L xs) (d + 2) 36 [.ref 0, .int k] h (.inl (some (.int 0)), h) := by
  refine ag_call (Nat.le_of_ble_eq_true rfl) ?_
  show ax_Go (mgT L xs) (d + 1) 36 0 [some (.ref 0), some (.int k), none, none] [] h _
  refine ag_aload_n (d36_0 L xs) rfl ?_
  refine ag_get (d36_1 L xs) (kd := 1) (cj := 0) (k0 := 0) rfl (Or.inl rfl) F0 rfl ?_
  refine ag_bipush (d36_4 L xs) (x := 32) (by decide) ?_
  refine ag_iconst (d36_6 L xs) (x := 0) (by decide) ?_
  refine ag_aload_n (d36_7 L xs) rfl ?_
  refine ag_get (d36_8 L xs) (kd := 1) (cj := 0) (k0 := 0) rfl (Or.inl rfl) F0 rfl ?_
  refine ag_invv (d36_11 L xs) (kd := 7) (mj := 15) (n := 0) rfl (Or.inl rfl) (xs := []) (r := [.int 0, .int 32, .ref 1]) rfl rfl F1 rfl (Nat.le_of_ble_eq_true rfl) (z15_3 L xs (d := d + 0) (h := _) hz F1) ?_
  refine ag_invv (d36_14 L xs) (kd := 7) (mj := 37) (n := 3) rfl (Or.inl rfl) (xs := [.int 0, .int 0, .int 32]) (r := []) rfl rfl F1 rfl (Nat.le_of_ble_eq_true rfl) (z37_20 L xs (d := d + 0) (h := _) hz ) ?_
  refine ag_istore_n (d36_17 L xs) (ls' := [some (.ref 0), some (.int k), some (.int 0), none]) (Nat.le_of_ble_eq_true rfl) rfl ?_
  refine ag_aload_n (d36_18 L xs) rfl ?_
  refine ag_get (d36_19 L xs) (kd := 1) (cj := 0) (k0 := 0) rfl (Or.inl rfl) F0 rfl ?_
  refine ag_iconst (d36_22 L xs) (x := 0) (by decide) ?_
  refine ag_iload_n (d36_23 L xs) rfl ?_
  refine ag_invv (d36_24 L xs) (kd := 7) (mj := 38) (n := 2) rfl (Or.inl rfl) (xs := [.int 0, .int 0]) (r := []) rfl rfl F1 rfl (Nat.le_of_ble_eq_true rfl) (z38_21 L xs (d := d + 0) (h := _) hz ) ?_
  refine ag_if_ne (d36_27 L xs) (t := 32) (by decide) (fun hp => absurd hp (by decide)) (fun _ => ?_)
  refine ag_iconst (d36_30 L xs) (x := 0) (by decide) ?_
  exact ag_iret (d36_31 L xs) rfl rfl
theorem z35_23 (L : Nat) (xs : Nat → Int32) {d : Nat} {h : ax_H} {k : Int32} (hz : h.2.1 = 167) (F0 : h.1 0 = some (.inr (0, [.ref 1, .ref 3, .ref 87, .ref 137]))) (F1 : h.1 1 = some (.inr (1, [.ref 2, .int 0]))) : ax_Ca (mgT L xs) (d + 3) 35 [.ref 0, .int k] h (.inr 1, (ax_one h)) := by
  refine ag_callT (Nat.le_of_ble_eq_true rfl) ?_
  show ax_Go (mgT L xs) (d + 2) 35 0 [some (.ref 0), some (.int k)] [] h _
  refine ag_aload_n (d35_0 L xs) rfl ?_
  refine ag_iload_n (d35_1 L xs) rfl ?_
  refine ag_invv (d35_2 L xs) (kd := 7) (mj := 36) (n := 1) rfl (Or.inl rfl) (xs := [.int k]) (r := []) rfl rfl F0 rfl (Nat.le_of_ble_eq_true rfl) (z36_22 L xs (d := d + 0) (h := _) (k := k) hz F0 F1) ?_
  refine ag_if_ne (d35_5 L xs) (t := 16) (by decide) (fun hp => absurd hp (by decide)) (fun _ => ?_)
  exact ag_thr (d35_8 L xs) rfl (d35_11 L xs) (d35_12 L xs) (d35_15 L xs) (by rw [hz]; decide) (Nat.le_of_ble_eq_true rfl) rfl
theorem z46_24 (L : Nat) (xs : Nat → Int32) {d : Nat} {h : ax_H} (hz : h.2.1 = 167) (F1 : h.1 1 = some (.inr (1, [.ref 2, .int 0]))) : ax_Ca (mgT L xs) (d + 2) 46 [.ref 1] h (.inl (some (.int 0)), h) := by
  refine ag_call (Nat.le_of_ble_eq_true rfl) ?_
  show ax_Go (mgT L xs) (d + 1) 46 0 [some (.ref 1)] [] h _
  refine ag_aload_n (d46_0 L xs) rfl ?_
  refine ag_iconst (d46_1 L xs) (x := 0) (by decide) ?_
  refine ag_aload_n (d46_2 L xs) rfl ?_
  refine ag_get (d46_3 L xs) (kd := 1) (cj := 1) (k0 := 1) rfl (Or.inl rfl) F1 rfl ?_
  refine ag_invv (d46_6 L xs) (kd := 7) (mj := 38) (n := 2) rfl (Or.inl rfl) (xs := [.int 0, .int 0]) (r := []) rfl rfl F1 rfl (Nat.le_of_ble_eq_true rfl) (z38_21 L xs (d := d + 0) (h := _) hz ) ?_
  exact ag_iret (d46_9 L xs) rfl rfl
theorem z45_25 (L : Nat) (xs : Nat → Int32) {d : Nat} {h : ax_H} {k : Int32} (hz : h.2.1 = 167) (F0 : h.1 0 = some (.inr (0, [.ref 1, .ref 3, .ref 87, .ref 137]))) (F1 : h.1 1 = some (.inr (1, [.ref 2, .int 0]))) : ax_Ca (mgT L xs) (d + 3) 45 [.ref 0, .int k] h (.inr 1, (ax_one h)) := by
  refine ag_callT (Nat.le_of_ble_eq_true rfl) ?_
  show ax_Go (mgT L xs) (d + 2) 45 0 [some (.ref 0), some (.int k), none] [] h _
  refine ag_aload_n (d45_0 L xs) rfl ?_
  refine ag_get (d45_1 L xs) (kd := 1) (cj := 0) (k0 := 0) rfl (Or.inl rfl) F0 rfl ?_
  refine ag_invv (d45_4 L xs) (kd := 7) (mj := 46) (n := 0) rfl (Or.inl rfl) (xs := []) (r := []) rfl rfl F1 rfl (Nat.le_of_ble_eq_true rfl) (z46_24 L xs (d := d + 0) (h := _) hz F1) ?_
  refine ag_if_ne (d45_7 L xs) (t := 18) (by decide) (fun hp => absurd hp (by decide)) (fun _ => ?_)
  exact ag_thr (d45_10 L xs) rfl (d45_13 L xs) (d45_14 L xs) (d45_17 L xs) (by rw [hz]; decide) (Nat.le_of_ble_eq_true rfl) rfl
theorem z86_26 (L : Nat) (xs : Nat → Int32) {d : Nat} {h : ax_H} {k : Int32} (hz : h.2.1 = 167) (F0 : h.1 0 = some (.inr (0, [.ref 1, .ref 3, .ref 87, .ref 137]))) (F1 : h.1 1 = some (.inr (1, [.ref 2, .int 0]))) : ax_Ca (mgT L xs) (d + 3) 86 [.ref 0, .int k] h (.inr 1, (ax_one h)) := by
  refine ag_callT (Nat.le_of_ble_eq_true rfl) ?_
  show ax_Go (mgT L xs) (d + 2) 86 0 [some (.ref 0), some (.int k), none] [] h _
  refine ag_aload_n (d86_0 L xs) rfl ?_
  refine ag_get (d86_1 L xs) (kd := 1) (cj := 0) (k0 := 0) rfl (Or.inl rfl) F0 rfl ?_
  refine ag_invv (d86_4 L xs) (kd := 7) (mj := 46) (n := 0) rfl (Or.inl rfl) (xs := []) (r := []) rfl rfl F1 rfl (Nat.le_of_ble_eq_true rfl) (z46_24 L xs (d := d + 0) (h := _) hz F1) ?_
  refine ag_if_eq (d86_7 L xs) (t := 20) (by decide) (fun _ => ?_) (fun hn => absurd (by decide) hn)
  exact ag_thr (d86_20 L xs) rfl (d86_23 L xs) (d86_24 L xs) (d86_27 L xs) (by rw [hz]; decide) (Nat.le_of_ble_eq_true rfl) rfl
theorem z1_27 (L : Nat) (xs : Nat → Int32) {d : Nat} {h : ax_H} {k : Int32} (hz : h.2.1 = 167) (F0 : h.1 0 = some (.inr (0, [.ref 1, .ref 3, .ref 87, .ref 137]))) (F1 : h.1 1 = some (.inr (1, [.ref 2, .int 0]))) : ax_Ca (mgT L xs) (d + 4) 1 [.ref 0, .int k, .ref 166] h (.inl (some (.int 1)), (ax_one h)) := by
  refine ag_call (Nat.le_of_ble_eq_true rfl) ?_
  show ax_Go (mgT L xs) (d + 3) 1 0 [some (.ref 0), some (.int k), some (.ref 166), none] [] h _
  refine ag_aload_n (d1_0 L xs) rfl ?_
  refine ag_iconst (d1_1 L xs) (x := 0) (by decide) ?_
  refine ag_aload_n (d1_2 L xs) rfl ?_
  refine ag_iload_n (d1_3 L xs) rfl ?_
  refine ag_invc (d1_4 L xs) (mj := 35) (n := 1) rfl (xs := [.int k]) (r := [.int 0, .ref 166]) rfl rfl F0 rfl (Nat.le_of_ble_eq_true rfl) (z35_23 L xs (d := d + 0) (h := _) (k := k) hz F0 F1) (pc' := 12) rfl ?_
  refine ag_ref (b := 167) (by show (ax_one h).2.1 - 1 = _; rw [(ax_one_sz hz)]) ?_
  refine ag_astore_n (d1_12 L xs) (ls' := [some (.ref 0), some (.int k), some (.ref 166), some (.ref 167)]) (Nat.le_of_ble_eq_true rfl) rfl ?_
  refine ag_iconst (d1_13 L xs) (x := 1) (by decide) ?_
  exact ag_iret (d1_14 L xs) rfl rfl
theorem z2_28 (L : Nat) (xs : Nat → Int32) {d : Nat} {h : ax_H} {k : Int32} (hz : h.2.1 = 167) (F0 : h.1 0 = some (.inr (0, [.ref 1, .ref 3, .ref 87, .ref 137]))) (F1 : h.1 1 = some (.inr (1, [.ref 2, .int 0]))) : ax_Ca (mgT L xs) (d + 4) 2 [.ref 0, .int k, .ref 166] h (.inl (some (.int 1)), (ax_one h)) := by
  refine ag_call (Nat.le_of_ble_eq_true rfl) ?_
  show ax_Go (mgT L xs) (d + 3) 2 0 [some (.ref 0), some (.int k), some (.ref 166), none] [] h _
  refine ag_aload_n (d2_0 L xs) rfl ?_
  refine ag_iconst (d2_1 L xs) (x := 0) (by decide) ?_
  refine ag_aload_n (d2_2 L xs) rfl ?_
  refine ag_iload_n (d2_3 L xs) rfl ?_
  refine ag_invc (d2_4 L xs) (mj := 45) (n := 1) rfl (xs := [.int k]) (r := [.int 0, .ref 166]) rfl rfl F0 rfl (Nat.le_of_ble_eq_true rfl) (z45_25 L xs (d := d + 0) (h := _) (k := k) hz F0 F1) (pc' := 12) rfl ?_
  refine ag_ref (b := 167) (by show (ax_one h).2.1 - 1 = _; rw [(ax_one_sz hz)]) ?_
  refine ag_astore_n (d2_12 L xs) (ls' := [some (.ref 0), some (.int k), some (.ref 166), some (.ref 167)]) (Nat.le_of_ble_eq_true rfl) rfl ?_
  refine ag_iconst (d2_13 L xs) (x := 1) (by decide) ?_
  exact ag_iret (d2_14 L xs) rfl rfl
theorem z3_29 (L : Nat) (xs : Nat → Int32) {d : Nat} {h : ax_H} {k : Int32} (hz : h.2.1 = 167) (F0 : h.1 0 = some (.inr (0, [.ref 1, .ref 3, .ref 87, .ref 137]))) (F1 : h.1 1 = some (.inr (1, [.ref 2, .int 0]))) : ax_Ca (mgT L xs) (d + 4) 3 [.ref 0, .int k, .ref 166] h (.inl (some (.int 1)), (ax_one h)) := by
  refine ag_call (Nat.le_of_ble_eq_true rfl) ?_
  show ax_Go (mgT L xs) (d + 3) 3 0 [some (.ref 0), some (.int k), some (.ref 166), none] [] h _
  refine ag_aload_n (d3_0 L xs) rfl ?_
  refine ag_iconst (d3_1 L xs) (x := 0) (by decide) ?_
  refine ag_aload_n (d3_2 L xs) rfl ?_
  refine ag_iload_n (d3_3 L xs) rfl ?_
  refine ag_invc (d3_4 L xs) (mj := 86) (n := 1) rfl (xs := [.int k]) (r := [.int 0, .ref 166]) rfl rfl F0 rfl (Nat.le_of_ble_eq_true rfl) (z86_26 L xs (d := d + 0) (h := _) (k := k) hz F0 F1) (pc' := 12) rfl ?_
  refine ag_ref (b := 167) (by show (ax_one h).2.1 - 1 = _; rw [(ax_one_sz hz)]) ?_
  refine ag_astore_n (d3_12 L xs) (ls' := [some (.ref 0), some (.int k), some (.ref 166), some (.ref 167)]) (Nat.le_of_ble_eq_true rfl) rfl ?_
  refine ag_iconst (d3_13 L xs) (x := 1) (by decide) ?_
  exact ag_iret (d3_14 L xs) rfl rfl
theorem z107_30 (L : Nat) (xs : Nat → Int32) {d : Nat} {h : ax_H} (hz : h.2.1 = 167) (F141 : h.1 141 = some (.inr (9, [.int 0, .int 0, .ref 142, .int 0, .ref 143, .ref 144, .ref 145, .ref 146, .ref 147, .int 0, .int 0, .ref 148, .int 0, .ref 149, .int 0, .int 0, .ref 150, .int 0, .ref 151, .int 0, .ref 152, .ref 153, .int 0, .int 0, .ref 154, .ref 155, .ref 156, .ref 157, .ref 158, .ref 159, .ref 160, .ref 161, .ref 162, .int 0, .int 0, .int 0, .int 0, .int 0, .int 0, .int 0, .int 0, .int 0, .ref 163, .int 0, .int 0, .int 0, .int 0, .ref 164, .ref 165]))) : ax_Ca (mgT L xs) (d + 1) 107 [.ref 141] h (.inl none, (ax_up (ax_up h 141 (.inr (9, [.int 0, .int 0, .ref 142, .int 0, .ref 143, .ref 144, .ref 145, .ref 146, .ref 147, .int 0, .int 0, .ref 148, .int 0, .ref 149, .int 0, .int 0, .ref 150, .int 0, .ref 151, .int 0, .ref 152, .ref 153, .int 0, .int 0, .ref 154, .ref 155, .ref 156, .ref 157, .ref 158, .ref 159, .ref 160, .ref 161, .ref 162, .int 0, .int 0, .int 0, .int 0, .int 0, .int 0, .int 0, .int 0, .int 0, .ref 163, .int 0, .int 0, .int 0, .int 0, .ref 164, .ref 165]))) 141 (.inr (9, [.int 0, .int 0, .ref 142, .int 0, .ref 143, .ref 144, .ref 145, .ref 146, .ref 147, .int 0, .int 0, .ref 148, .int 0, .ref 149, .int 0, .int 0, .ref 150, .int 0, .ref 151, .int 0, .ref 152, .ref 153, .int 0, .int 0, .ref 154, .ref 155, .ref 156, .ref 157, .ref 158, .ref 159, .ref 160, .ref 161, .ref 162, .int 0, .int 0, .int 0, .int 0, .int 0, .int 0, .int 0, .int 0, .int 0, .ref 163, .int 0, .int 0, .int 0, .int 0, .ref 164, .ref 165])))) := by
  refine ag_call (Nat.le_of_ble_eq_true rfl) ?_
  show ax_Go (mgT L xs) (d + 0) 107 0 [some (.ref 141)] [] h _
  refine ag_aload_n (d107_0 L xs) rfl ?_
  refine ag_iconst (d107_1 L xs) (x := 0) (by decide) ?_
  refine ag_put (d107_2 L xs) (cj := 9) (k0 := 0) rfl F141 (ax_lt hz (Nat.le_of_ble_eq_true rfl)) (Nat.le_of_ble_eq_true rfl) rfl rfl ?_
  refine ag_aload_n (d107_5 L xs) rfl ?_
  refine ag_iconst (d107_6 L xs) (x := 0) (by decide) ?_
  refine ag_put (d107_7 L xs) (cj := 9) (k0 := 1) rfl (ax_up_at _ _ _) (ax_lt hz (Nat.le_of_ble_eq_true rfl)) (Nat.le_of_ble_eq_true rfl) rfl rfl ?_
  exact ag_vret (d107_10 L xs) rfl
theorem z108_31 (L : Nat) (xs : Nat → Int32) {d : Nat} {h : ax_H} (hz : h.2.1 = 167) (F141 : h.1 141 = some (.inr (9, [.int 0, .int 0, .ref 142, .int 0, .ref 143, .ref 144, .ref 145, .ref 146, .ref 147, .int 0, .int 0, .ref 148, .int 0, .ref 149, .int 0, .int 0, .ref 150, .int 0, .ref 151, .int 0, .ref 152, .ref 153, .int 0, .int 0, .ref 154, .ref 155, .ref 156, .ref 157, .ref 158, .ref 159, .ref 160, .ref 161, .ref 162, .int 0, .int 0, .int 0, .int 0, .int 0, .int 0, .int 0, .int 0, .int 0, .ref 163, .int 0, .int 0, .int 0, .int 0, .ref 164, .ref 165]))) : ax_Ca (mgT L xs) (d + 1) 108 [.ref 141] h (.inl (some (.int 0)), (ax_up h 141 (.inr (9, [.int 0, .int 0, .ref 142, .int 0, .ref 143, .ref 144, .ref 145, .ref 146, .ref 147, .int 0, .int 0, .ref 148, .int 0, .ref 149, .int 0, .int 0, .ref 150, .int 0, .ref 151, .int 0, .ref 152, .ref 153, .int 0, .int 0, .ref 154, .ref 155, .ref 156, .ref 157, .ref 158, .ref 159, .ref 160, .ref 161, .ref 162, .int 0, .int 0, .int 0, .int 0, .int 0, .int 0, .int 0, .int 0, .int 0, .ref 163, .int 0, .int 0, .int 0, .int 0, .ref 164, .ref 165])))) := by
  refine ag_call (Nat.le_of_ble_eq_true rfl) ?_
  show ax_Go (mgT L xs) (d + 0) 108 0 [some (.ref 141)] [] h _
  refine ag_aload_n (d108_0 L xs) rfl ?_
  refine ag_iconst (d108_1 L xs) (x := 0) (by decide) ?_
  refine ag_put (d108_2 L xs) (cj := 9) (k0 := 0) rfl F141 (ax_lt hz (Nat.le_of_ble_eq_true rfl)) (Nat.le_of_ble_eq_true rfl) rfl rfl ?_
  refine ag_aload_n (d108_5 L xs) rfl ?_
  refine ag_get (d108_6 L xs) (kd := 1) (cj := 9) (k0 := 1) rfl (Or.inl rfl) (ax_up_at _ _ _) rfl ?_
  exact ag_iret (d108_9 L xs) rfl rfl
theorem z115_32 (L : Nat) (xs : Nat → Int32) {d : Nat} {h : ax_H} {k : Int32} (hz : h.2.1 = 167) (F141 : h.1 141 = some (.inr (9, [.int 0, .int 0, .ref 142, .int 0, .ref 143, .ref 144, .ref 145, .ref 146, .ref 147, .int 0, .int 0, .ref 148, .int 0, .ref 149, .int 0, .int 0, .ref 150, .int 0, .ref 151, .int 0, .ref 152, .ref 153, .int 0, .int 0, .ref 154, .ref 155, .ref 156, .ref 157, .ref 158, .ref 159, .ref 160, .ref 161, .ref 162, .int 0, .int 0, .int 0, .int 0, .int 0, .int 0, .int 0, .int 0, .int 0, .ref 163, .int 0, .int 0, .int 0, .int 0, .ref 164, .ref 165]))) (hc_0 : k < 0) : ax_Ca (mgT L xs) (d + 1) 115 [.ref 141, .int k] h (.inl (some (.int 0)), (ax_up h 141 (.inr (9, [.int 0, .int 0, .ref 142, .int 0, .ref 143, .ref 144, .ref 145, .ref 146, .ref 147, .int 0, .int 0, .ref 148, .int 0, .ref 149, .int 0, .int 0, .ref 150, .int 0, .ref 151, .int 0, .ref 152, .ref 153, .int 0, .int 0, .ref 154, .ref 155, .ref 156, .ref 157, .ref 158, .ref 159, .ref 160, .ref 161, .ref 162, .int 0, .int 0, .int 0, .int 0, .int 0, .int 0, .int 0, .int 0, .int 0, .ref 163, .int 0, .int 0, .int 0, .int 0, .ref 164, .ref 165])))) := by
  refine ag_call (Nat.le_of_ble_eq_true rfl) ?_
  show ax_Go (mgT L xs) (d + 0) 115 0 [some (.ref 141), some (.int k), none, none] [] h _
  refine ag_aload_n (d115_0 L xs) rfl ?_
  refine ag_iconst (d115_1 L xs) (x := 0) (by decide) ?_
  refine ag_put (d115_2 L xs) (cj := 9) (k0 := 0) rfl F141 (ax_lt hz (Nat.le_of_ble_eq_true rfl)) (Nat.le_of_ble_eq_true rfl) rfl rfl ?_
  refine ag_iload_n (d115_5 L xs) rfl ?_
  refine ag_if_lt (d115_6 L xs) (t := 17) (by decide) (fun _ => ?_) (fun hn => absurd hc_0 hn)
  refine ag_iconst (d115_17 L xs) (x := 0) (by decide) ?_
  exact ag_iret (d115_18 L xs) rfl rfl
theorem z115_33 (L : Nat) (xs : Nat → Int32) {d : Nat} {h : ax_H} {k : Int32} (hz : h.2.1 = 167) (F141 : h.1 141 = some (.inr (9, [.int 0, .int 0, .ref 142, .int 0, .ref 143, .ref 144, .ref 145, .ref 146, .ref 147, .int 0, .int 0, .ref 148, .int 0, .ref 149, .int 0, .int 0, .ref 150, .int 0, .ref 151, .int 0, .ref 152, .ref 153, .int 0, .int 0, .ref 154, .ref 155, .ref 156, .ref 157, .ref 158, .ref 159, .ref 160, .ref 161, .ref 162, .int 0, .int 0, .int 0, .int 0, .int 0, .int 0, .int 0, .int 0, .int 0, .ref 163, .int 0, .int 0, .int 0, .int 0, .ref 164, .ref 165]))) (hc_0 : ¬ (k < 0)) : ax_Ca (mgT L xs) (d + 1) 115 [.ref 141, .int k] h (.inl (some (.int 0)), (ax_up h 141 (.inr (9, [.int 0, .int 0, .ref 142, .int 0, .ref 143, .ref 144, .ref 145, .ref 146, .ref 147, .int 0, .int 0, .ref 148, .int 0, .ref 149, .int 0, .int 0, .ref 150, .int 0, .ref 151, .int 0, .ref 152, .ref 153, .int 0, .int 0, .ref 154, .ref 155, .ref 156, .ref 157, .ref 158, .ref 159, .ref 160, .ref 161, .ref 162, .int 0, .int 0, .int 0, .int 0, .int 0, .int 0, .int 0, .int 0, .int 0, .ref 163, .int 0, .int 0, .int 0, .int 0, .ref 164, .ref 165])))) := by
  refine ag_call (Nat.le_of_ble_eq_true rfl) ?_
  show ax_Go (mgT L xs) (d + 0) 115 0 [some (.ref 141), some (.int k), none, none] [] h _
  refine ag_aload_n (d115_0 L xs) rfl ?_
  refine ag_iconst (d115_1 L xs) (x := 0) (by decide) ?_
  refine ag_put (d115_2 L xs) (cj := 9) (k0 := 0) rfl F141 (ax_lt hz (Nat.le_of_ble_eq_true rfl)) (Nat.le_of_ble_eq_true rfl) rfl rfl ?_
  refine ag_iload_n (d115_5 L xs) rfl ?_
  refine ag_if_lt (d115_6 L xs) (t := 17) (by decide) (fun hp => absurd hp hc_0) (fun _ => ?_)
  refine ag_iload_n (d115_9 L xs) rfl ?_
  refine ag_aload_n (d115_10 L xs) rfl ?_
  refine ag_get (d115_11 L xs) (kd := 1) (cj := 9) (k0 := 3) rfl (Or.inl rfl) (ax_up_at _ _ _) rfl ?_
  refine ag_icmp_lt (d115_14 L xs) (t := 19) (by decide) (fun hp => absurd hp hc_0) (fun _ => ?_)
  refine ag_iconst (d115_17 L xs) (x := 0) (by decide) ?_
  exact ag_iret (d115_18 L xs) rfl rfl
theorem z153_34 (L : Nat) (xs : Nat → Int32) {d : Nat} {h : ax_H} {k : Int32} (hz : h.2.1 = 167) (F141 : h.1 141 = some (.inr (9, [.int 0, .int 0, .ref 142, .int 0, .ref 143, .ref 144, .ref 145, .ref 146, .ref 147, .int 0, .int 0, .ref 148, .int 0, .ref 149, .int 0, .int 0, .ref 150, .int 0, .ref 151, .int 0, .ref 152, .ref 153, .int 0, .int 0, .ref 154, .ref 155, .ref 156, .ref 157, .ref 158, .ref 159, .ref 160, .ref 161, .ref 162, .int 0, .int 0, .int 0, .int 0, .int 0, .int 0, .int 0, .int 0, .int 0, .ref 163, .int 0, .int 0, .int 0, .int 0, .ref 164, .ref 165]))) : ax_Ca (mgT L xs) (d + 1) 153 [.ref 141, .int k] h (.inl (some (.int (-1))), (ax_up h 141 (.inr (9, [.int 0, .int 0, .ref 142, .int 0, .ref 143, .ref 144, .ref 145, .ref 146, .ref 147, .int 0, .int 0, .ref 148, .int 0, .ref 149, .int 0, .int 0, .ref 150, .int 0, .ref 151, .int 0, .ref 152, .ref 153, .int 0, .int 0, .ref 154, .ref 155, .ref 156, .ref 157, .ref 158, .ref 159, .ref 160, .ref 161, .ref 162, .int 0, .int 0, .int 0, .int 0, .int 0, .int 0, .int 0, .int 0, .int 0, .ref 163, .int 0, .int 0, .int 0, .int 0, .ref 164, .ref 165])))) := by
  refine ag_call (Nat.le_of_ble_eq_true rfl) ?_
  show ax_Go (mgT L xs) (d + 0) 153 0 [some (.ref 141), some (.int k)] [] h _
  refine ag_aload_n (d153_0 L xs) rfl ?_
  refine ag_iconst (d153_1 L xs) (x := 0) (by decide) ?_
  refine ag_put (d153_2 L xs) (cj := 9) (k0 := 0) rfl F141 (ax_lt hz (Nat.le_of_ble_eq_true rfl)) (Nat.le_of_ble_eq_true rfl) rfl rfl ?_
  refine ag_aload_n (d153_5 L xs) rfl ?_
  refine ag_get (d153_6 L xs) (kd := 1) (cj := 9) (k0 := 34) rfl (Or.inl rfl) (ax_up_at _ _ _) rfl ?_
  refine ag_if_ne (d153_9 L xs) (t := 14) (by decide) (fun hp => absurd hp (by decide)) (fun _ => ?_)
  refine ag_iconst (d153_12 L xs) (x := (-1)) (by decide) ?_
  exact ag_iret (d153_13 L xs) rfl rfl
theorem z154_35 (L : Nat) (xs : Nat → Int32) {d : Nat} {h : ax_H} {k : Int32} (hz : h.2.1 = 167) (F141 : h.1 141 = some (.inr (9, [.int 0, .int 0, .ref 142, .int 0, .ref 143, .ref 144, .ref 145, .ref 146, .ref 147, .int 0, .int 0, .ref 148, .int 0, .ref 149, .int 0, .int 0, .ref 150, .int 0, .ref 151, .int 0, .ref 152, .ref 153, .int 0, .int 0, .ref 154, .ref 155, .ref 156, .ref 157, .ref 158, .ref 159, .ref 160, .ref 161, .ref 162, .int 0, .int 0, .int 0, .int 0, .int 0, .int 0, .int 0, .int 0, .int 0, .ref 163, .int 0, .int 0, .int 0, .int 0, .ref 164, .ref 165]))) : ax_Ca (mgT L xs) (d + 1) 154 [.ref 141, .int k] h (.inl (some (.int (-1))), (ax_up h 141 (.inr (9, [.int 0, .int 0, .ref 142, .int 0, .ref 143, .ref 144, .ref 145, .ref 146, .ref 147, .int 0, .int 0, .ref 148, .int 0, .ref 149, .int 0, .int 0, .ref 150, .int 0, .ref 151, .int 0, .ref 152, .ref 153, .int 0, .int 0, .ref 154, .ref 155, .ref 156, .ref 157, .ref 158, .ref 159, .ref 160, .ref 161, .ref 162, .int 0, .int 0, .int 0, .int 0, .int 0, .int 0, .int 0, .int 0, .int 0, .ref 163, .int 0, .int 0, .int 0, .int 0, .ref 164, .ref 165])))) := by
  refine ag_call (Nat.le_of_ble_eq_true rfl) ?_
  show ax_Go (mgT L xs) (d + 0) 154 0 [some (.ref 141), some (.int k)] [] h _
  refine ag_aload_n (d154_0 L xs) rfl ?_
  refine ag_iconst (d154_1 L xs) (x := 0) (by decide) ?_
  refine ag_put (d154_2 L xs) (cj := 9) (k0 := 0) rfl F141 (ax_lt hz (Nat.le_of_ble_eq_true rfl)) (Nat.le_of_ble_eq_true rfl) rfl rfl ?_
  refine ag_aload_n (d154_5 L xs) rfl ?_
  refine ag_get (d154_6 L xs) (kd := 1) (cj := 9) (k0 := 14) rfl (Or.inl rfl) (ax_up_at _ _ _) rfl ?_
  refine ag_if_ne (d154_9 L xs) (t := 16) (by decide) (fun hp => absurd hp (by decide)) (fun _ => ?_)
  refine ag_iconst (d154_12 L xs) (x := (-1)) (by decide) ?_
  refine ag_goto (d154_13 L xs) (t := 50) (by decide) ?_
  exact ag_iret (d154_50 L xs) rfl rfl
theorem z163_36 (L : Nat) (xs : Nat → Int32) {d : Nat} {h : ax_H} {k : Int32} (hz : h.2.1 = 167) (F141 : h.1 141 = some (.inr (9, [.int 0, .int 0, .ref 142, .int 0, .ref 143, .ref 144, .ref 145, .ref 146, .ref 147, .int 0, .int 0, .ref 148, .int 0, .ref 149, .int 0, .int 0, .ref 150, .int 0, .ref 151, .int 0, .ref 152, .ref 153, .int 0, .int 0, .ref 154, .ref 155, .ref 156, .ref 157, .ref 158, .ref 159, .ref 160, .ref 161, .ref 162, .int 0, .int 0, .int 0, .int 0, .int 0, .int 0, .int 0, .int 0, .int 0, .ref 163, .int 0, .int 0, .int 0, .int 0, .ref 164, .ref 165]))) (hc_1 : k = (-1)) : ax_Ca (mgT L xs) (d + 1) 163 [.ref 141, .int k] h (.inl (some (.int 0)), (ax_up h 141 (.inr (9, [.int 0, .int 0, .ref 142, .int 0, .ref 143, .ref 144, .ref 145, .ref 146, .ref 147, .int 0, .int 0, .ref 148, .int 0, .ref 149, .int 0, .int 0, .ref 150, .int 0, .ref 151, .int 0, .ref 152, .ref 153, .int 0, .int 0, .ref 154, .ref 155, .ref 156, .ref 157, .ref 158, .ref 159, .ref 160, .ref 161, .ref 162, .int 0, .int 0, .int 0, .int 0, .int 0, .int 0, .int 0, .int 0, .int 0, .ref 163, .int 0, .int 0, .int 0, .int 0, .ref 164, .ref 165])))) := by
  refine ag_call (Nat.le_of_ble_eq_true rfl) ?_
  show ax_Go (mgT L xs) (d + 0) 163 0 [some (.ref 141), some (.int k)] [] h _
  refine ag_aload_n (d163_0 L xs) rfl ?_
  refine ag_iconst (d163_1 L xs) (x := 0) (by decide) ?_
  refine ag_put (d163_2 L xs) (cj := 9) (k0 := 0) rfl F141 (ax_lt hz (Nat.le_of_ble_eq_true rfl)) (Nat.le_of_ble_eq_true rfl) rfl rfl ?_
  refine ag_iload_n (d163_5 L xs) rfl ?_
  refine ag_iconst (d163_6 L xs) (x := (-1)) (by decide) ?_
  refine ag_icmp_ne (d163_7 L xs) (t := 17) (by decide) (fun hp => absurd hp (not_not_intro hc_1)) (fun _ => ?_)
  refine ag_aload_n (d163_10 L xs) rfl ?_
  refine ag_get (d163_11 L xs) (kd := 1) (cj := 9) (k0 := 3) rfl (Or.inl rfl) (ax_up_at _ _ _) rfl ?_
  refine ag_goto (d163_14 L xs) (t := 39) (by decide) ?_
  exact ag_iret (d163_39 L xs) rfl rfl
theorem z163_37 (L : Nat) (xs : Nat → Int32) {d : Nat} {h : ax_H} {k : Int32} (hz : h.2.1 = 167) (F141 : h.1 141 = some (.inr (9, [.int 0, .int 0, .ref 142, .int 0, .ref 143, .ref 144, .ref 145, .ref 146, .ref 147, .int 0, .int 0, .ref 148, .int 0, .ref 149, .int 0, .int 0, .ref 150, .int 0, .ref 151, .int 0, .ref 152, .ref 153, .int 0, .int 0, .ref 154, .ref 155, .ref 156, .ref 157, .ref 158, .ref 159, .ref 160, .ref 161, .ref 162, .int 0, .int 0, .int 0, .int 0, .int 0, .int 0, .int 0, .int 0, .int 0, .ref 163, .int 0, .int 0, .int 0, .int 0, .ref 164, .ref 165]))) (hc_0 : k < 0) (hc_1 : ¬ (k = (-1))) : ax_Ca (mgT L xs) (d + 1) 163 [.ref 141, .int k] h (.inl (some (.int (-1))), (ax_up h 141 (.inr (9, [.int 0, .int 0, .ref 142, .int 0, .ref 143, .ref 144, .ref 145, .ref 146, .ref 147, .int 0, .int 0, .ref 148, .int 0, .ref 149, .int 0, .int 0, .ref 150, .int 0, .ref 151, .int 0, .ref 152, .ref 153, .int 0, .int 0, .ref 154, .ref 155, .ref 156, .ref 157, .ref 158, .ref 159, .ref 160, .ref 161, .ref 162, .int 0, .int 0, .int 0, .int 0, .int 0, .int 0, .int 0, .int 0, .int 0, .ref 163, .int 0, .int 0, .int 0, .int 0, .ref 164, .ref 165])))) := by
  refine ag_call (Nat.le_of_ble_eq_true rfl) ?_
  show ax_Go (mgT L xs) (d + 0) 163 0 [some (.ref 141), some (.int k)] [] h _
  refine ag_aload_n (d163_0 L xs) rfl ?_
  refine ag_iconst (d163_1 L xs) (x := 0) (by decide) ?_
  refine ag_put (d163_2 L xs) (cj := 9) (k0 := 0) rfl F141 (ax_lt hz (Nat.le_of_ble_eq_true rfl)) (Nat.le_of_ble_eq_true rfl) rfl rfl ?_
  refine ag_iload_n (d163_5 L xs) rfl ?_
  refine ag_iconst (d163_6 L xs) (x := (-1)) (by decide) ?_
  refine ag_icmp_ne (d163_7 L xs) (t := 17) (by decide) (fun _ => ?_) (fun hn => absurd hc_1 hn)
  refine ag_iload_n (d163_17 L xs) rfl ?_
  refine ag_if_lt (d163_18 L xs) (t := 29) (by decide) (fun _ => ?_) (fun hn => absurd hc_0 hn)
  refine ag_iconst (d163_29 L xs) (x := (-1)) (by decide) ?_
  refine ag_goto (d163_30 L xs) (t := 39) (by decide) ?_
  exact ag_iret (d163_39 L xs) rfl rfl
theorem z163_38 (L : Nat) (xs : Nat → Int32) {d : Nat} {h : ax_H} {k : Int32} (hz : h.2.1 = 167) (F141 : h.1 141 = some (.inr (9, [.int 0, .int 0, .ref 142, .int 0, .ref 143, .ref 144, .ref 145, .ref 146, .ref 147, .int 0, .int 0, .ref 148, .int 0, .ref 149, .int 0, .int 0, .ref 150, .int 0, .ref 151, .int 0, .ref 152, .ref 153, .int 0, .int 0, .ref 154, .ref 155, .ref 156, .ref 157, .ref 158, .ref 159, .ref 160, .ref 161, .ref 162, .int 0, .int 0, .int 0, .int 0, .int 0, .int 0, .int 0, .int 0, .int 0, .ref 163, .int 0, .int 0, .int 0, .int 0, .ref 164, .ref 165]))) (hc_0 : ¬ (k < 0)) (hc_1 : ¬ (k = (-1))) : ax_Ca (mgT L xs) (d + 1) 163 [.ref 141, .int k] h (.inl (some (.int (-1))), (ax_up h 141 (.inr (9, [.int 0, .int 0, .ref 142, .int 0, .ref 143, .ref 144, .ref 145, .ref 146, .ref 147, .int 0, .int 0, .ref 148, .int 0, .ref 149, .int 0, .int 0, .ref 150, .int 0, .ref 151, .int 0, .ref 152, .ref 153, .int 0, .int 0, .ref 154, .ref 155, .ref 156, .ref 157, .ref 158, .ref 159, .ref 160, .ref 161, .ref 162, .int 0, .int 0, .int 0, .int 0, .int 0, .int 0, .int 0, .int 0, .int 0, .ref 163, .int 0, .int 0, .int 0, .int 0, .ref 164, .ref 165])))) := by
  refine ag_call (Nat.le_of_ble_eq_true rfl) ?_
  show ax_Go (mgT L xs) (d + 0) 163 0 [some (.ref 141), some (.int k)] [] h _
  refine ag_aload_n (d163_0 L xs) rfl ?_
  refine ag_iconst (d163_1 L xs) (x := 0) (by decide) ?_
  refine ag_put (d163_2 L xs) (cj := 9) (k0 := 0) rfl F141 (ax_lt hz (Nat.le_of_ble_eq_true rfl)) (Nat.le_of_ble_eq_true rfl) rfl rfl ?_
  refine ag_iload_n (d163_5 L xs) rfl ?_
  refine ag_iconst (d163_6 L xs) (x := (-1)) (by decide) ?_
  refine ag_icmp_ne (d163_7 L xs) (t := 17) (by decide) (fun _ => ?_) (fun hn => absurd hc_1 hn)
  refine ag_iload_n (d163_17 L xs) rfl ?_
  refine ag_if_lt (d163_18 L xs) (t := 29) (by decide) (fun hp => absurd hp hc_0) (fun _ => ?_)
  refine ag_iload_n (d163_21 L xs) rfl ?_
  refine ag_aload_n (d163_22 L xs) rfl ?_
  refine ag_get (d163_23 L xs) (kd := 1) (cj := 9) (k0 := 3) rfl (Or.inl rfl) (ax_up_at _ _ _) rfl ?_
  refine ag_icmp_lt (d163_26 L xs) (t := 33) (by decide) (fun hp => absurd hp hc_0) (fun _ => ?_)
  refine ag_iconst (d163_29 L xs) (x := (-1)) (by decide) ?_
  refine ag_goto (d163_30 L xs) (t := 39) (by decide) ?_
  exact ag_iret (d163_39 L xs) rfl rfl
theorem z109_39 (L : Nat) (xs : Nat → Int32) {d : Nat} {h : ax_H} {k : Int32} (hz : h.2.1 = 167) (F141 : h.1 141 = some (.inr (9, [.int 0, .int 0, .ref 142, .int 0, .ref 143, .ref 144, .ref 145, .ref 146, .ref 147, .int 0, .int 0, .ref 148, .int 0, .ref 149, .int 0, .int 0, .ref 150, .int 0, .ref 151, .int 0, .ref 152, .ref 153, .int 0, .int 0, .ref 154, .ref 155, .ref 156, .ref 157, .ref 158, .ref 159, .ref 160, .ref 161, .ref 162, .int 0, .int 0, .int 0, .int 0, .int 0, .int 0, .int 0, .int 0, .int 0, .ref 163, .int 0, .int 0, .int 0, .int 0, .ref 164, .ref 165]))) (hc_0 : k < 0) : ax_Ca (mgT L xs) (d + 1) 109 [.ref 141, .int k] h (.inl (some (.int 0)), (ax_up h 141 (.inr (9, [.int 1, .int 0, .ref 142, .int 0, .ref 143, .ref 144, .ref 145, .ref 146, .ref 147, .int 0, .int 0, .ref 148, .int 0, .ref 149, .int 0, .int 0, .ref 150, .int 0, .ref 151, .int 0, .ref 152, .ref 153, .int 0, .int 0, .ref 154, .ref 155, .ref 156, .ref 157, .ref 158, .ref 159, .ref 160, .ref 161, .ref 162, .int 0, .int 0, .int 0, .int 0, .int 0, .int 0, .int 0, .int 0, .int 0, .ref 163, .int 0, .int 0, .int 0, .int 0, .ref 164, .ref 165])))) := by
  refine ag_call (Nat.le_of_ble_eq_true rfl) ?_
  show ax_Go (mgT L xs) (d + 0) 109 0 [some (.ref 141), some (.int k), none, none, none, none] [] h _
  refine ag_aload_n (d109_0 L xs) rfl ?_
  refine ag_iload_n (d109_1 L xs) rfl ?_
  refine ag_if_lt (d109_2 L xs) (t := 10) (by decide) (fun _ => ?_) (fun hn => absurd hc_0 hn)
  refine ag_iconst (d109_10 L xs) (x := 1) (by decide) ?_
  refine ag_goto (d109_11 L xs) (t := 15) (by decide) ?_
  refine ag_put (d109_15 L xs) (cj := 9) (k0 := 0) rfl F141 (ax_lt hz (Nat.le_of_ble_eq_true rfl)) (Nat.le_of_ble_eq_true rfl) rfl rfl ?_
  refine ag_aload_n (d109_18 L xs) rfl ?_
  refine ag_get (d109_19 L xs) (kd := 1) (cj := 9) (k0 := 0) rfl (Or.inl rfl) (ax_up_at _ _ _) rfl ?_
  refine ag_if_le (d109_22 L xs) (t := 27) (by decide) (fun hp => absurd hp (by decide)) (fun _ => ?_)
  refine ag_iconst (d109_25 L xs) (x := 0) (by decide) ?_
  exact ag_iret (d109_26 L xs) rfl rfl
theorem z109_40 (L : Nat) (xs : Nat → Int32) {d : Nat} {h : ax_H} {k : Int32} (hz : h.2.1 = 167) (F141 : h.1 141 = some (.inr (9, [.int 0, .int 0, .ref 142, .int 0, .ref 143, .ref 144, .ref 145, .ref 146, .ref 147, .int 0, .int 0, .ref 148, .int 0, .ref 149, .int 0, .int 0, .ref 150, .int 0, .ref 151, .int 0, .ref 152, .ref 153, .int 0, .int 0, .ref 154, .ref 155, .ref 156, .ref 157, .ref 158, .ref 159, .ref 160, .ref 161, .ref 162, .int 0, .int 0, .int 0, .int 0, .int 0, .int 0, .int 0, .int 0, .int 0, .ref 163, .int 0, .int 0, .int 0, .int 0, .ref 164, .ref 165]))) (hc_0 : ¬ (k < 0)) (hc_2 : 4 < k) : ax_Ca (mgT L xs) (d + 1) 109 [.ref 141, .int k] h (.inl (some (.int 0)), (ax_up h 141 (.inr (9, [.int 1, .int 0, .ref 142, .int 0, .ref 143, .ref 144, .ref 145, .ref 146, .ref 147, .int 0, .int 0, .ref 148, .int 0, .ref 149, .int 0, .int 0, .ref 150, .int 0, .ref 151, .int 0, .ref 152, .ref 153, .int 0, .int 0, .ref 154, .ref 155, .ref 156, .ref 157, .ref 158, .ref 159, .ref 160, .ref 161, .ref 162, .int 0, .int 0, .int 0, .int 0, .int 0, .int 0, .int 0, .int 0, .int 0, .ref 163, .int 0, .int 0, .int 0, .int 0, .ref 164, .ref 165])))) := by
  refine ag_call (Nat.le_of_ble_eq_true rfl) ?_
  show ax_Go (mgT L xs) (d + 0) 109 0 [some (.ref 141), some (.int k), none, none, none, none] [] h _
  refine ag_aload_n (d109_0 L xs) rfl ?_
  refine ag_iload_n (d109_1 L xs) rfl ?_
  refine ag_if_lt (d109_2 L xs) (t := 10) (by decide) (fun hp => absurd hp hc_0) (fun _ => ?_)
  refine ag_iload_n (d109_5 L xs) rfl ?_
  refine ag_iconst (d109_6 L xs) (x := 4) (by decide) ?_
  refine ag_icmp_le (d109_7 L xs) (t := 14) (by decide) (fun hp => absurd hp (Int32.not_le.mpr hc_2)) (fun _ => ?_)
  refine ag_iconst (d109_10 L xs) (x := 1) (by decide) ?_
  refine ag_goto (d109_11 L xs) (t := 15) (by decide) ?_
  refine ag_put (d109_15 L xs) (cj := 9) (k0 := 0) rfl F141 (ax_lt hz (Nat.le_of_ble_eq_true rfl)) (Nat.le_of_ble_eq_true rfl) rfl rfl ?_
  refine ag_aload_n (d109_18 L xs) rfl ?_
  refine ag_get (d109_19 L xs) (kd := 1) (cj := 9) (k0 := 0) rfl (Or.inl rfl) (ax_up_at _ _ _) rfl ?_
  refine ag_if_le (d109_22 L xs) (t := 27) (by decide) (fun hp => absurd hp (by decide)) (fun _ => ?_)
  refine ag_iconst (d109_25 L xs) (x := 0) (by decide) ?_
  exact ag_iret (d109_26 L xs) rfl rfl
theorem z110_41 (L : Nat) (xs : Nat → Int32) {d : Nat} {h : ax_H} (hz : h.2.1 = 167) : ax_Ca (mgT L xs) (d + 1) 110 [.ref 142, .int 0, .int 0] h (.inl (some (.int 0)), h) := by
  refine ag_call (Nat.le_of_ble_eq_true rfl) ?_
  show ax_Go (mgT L xs) (d + 0) 110 0 [some (.ref 142), some (.int 0), some (.int 0), none, none, none, none] [] h _
  refine ag_iload_n (d110_0 L xs) rfl ?_
  refine ag_iload_n (d110_1 L xs) rfl ?_
  refine ag_isub (d110_2 L xs) ?_
  refine ag_top (y := 0) (by decide) ?_
  refine ag_iconst (d110_3 L xs) (x := 1) (by decide) ?_
  refine ag_icmp_lt (d110_4 L xs) (t := 15) (by decide) (fun _ => ?_) (fun hn => absurd (by decide) hn)
  refine ag_iconst (d110_15 L xs) (x := 0) (by decide) ?_
  exact ag_iret (d110_16 L xs) rfl rfl
theorem z109_42 (L : Nat) (xs : Nat → Int32) {d : Nat} {h : ax_H} {k : Int32} (hz : h.2.1 = 167) (F141 : h.1 141 = some (.inr (9, [.int 0, .int 0, .ref 142, .int 0, .ref 143, .ref 144, .ref 145, .ref 146, .ref 147, .int 0, .int 0, .ref 148, .int 0, .ref 149, .int 0, .int 0, .ref 150, .int 0, .ref 151, .int 0, .ref 152, .ref 153, .int 0, .int 0, .ref 154, .ref 155, .ref 156, .ref 157, .ref 158, .ref 159, .ref 160, .ref 161, .ref 162, .int 0, .int 0, .int 0, .int 0, .int 0, .int 0, .int 0, .int 0, .int 0, .ref 163, .int 0, .int 0, .int 0, .int 0, .ref 164, .ref 165]))) (hc_0 : ¬ (k < 0)) (hc_2 : ¬ (4 < k)) : ax_Ca (mgT L xs) (d + 2) 109 [.ref 141, .int k] h (.inl (some (.int 0)), (ax_up (ax_up h 141 (.inr (9, [.int 0, .int 0, .ref 142, .int 0, .ref 143, .ref 144, .ref 145, .ref 146, .ref 147, .int 0, .int 0, .ref 148, .int 0, .ref 149, .int 0, .int 0, .ref 150, .int 0, .ref 151, .int 0, .ref 152, .ref 153, .int 0, .int 0, .ref 154, .ref 155, .ref 156, .ref 157, .ref 158, .ref 159, .ref 160, .ref 161, .ref 162, .int 0, .int 0, .int 0, .int 0, .int 0, .int 0, .int 0, .int 0, .int 0, .ref 163, .int 0, .int 0, .int 0, .int 0, .ref 164, .ref 165]))) 141 (.inr (9, [.int 1, .int 0, .ref 142, .int 0, .ref 143, .ref 144, .ref 145, .ref 146, .ref 147, .int 0, .int 0, .ref 148, .int 0, .ref 149, .int 0, .int 0, .ref 150, .int 0, .ref 151, .int 0, .ref 152, .ref 153, .int 0, .int 0, .ref 154, .ref 155, .ref 156, .ref 157, .ref 158, .ref 159, .ref 160, .ref 161, .ref 162, .int 0, .int 0, .int 0, .int 0, .int 0, .int 0, .int 0, .int 0, .int 0, .ref 163, .int 0, .int 0, .int 0, .int 0, .ref 164, .ref 165])))) := by
  refine ag_call (Nat.le_of_ble_eq_true rfl) ?_
  show ax_Go (mgT L xs) (d + 1) 109 0 [some (.ref 141), some (.int k), none, none, none, none] [] h _
  refine ag_aload_n (d109_0 L xs) rfl ?_
  refine ag_iload_n (d109_1 L xs) rfl ?_
  refine ag_if_lt (d109_2 L xs) (t := 10) (by decide) (fun hp => absurd hp hc_0) (fun _ => ?_)
  refine ag_iload_n (d109_5 L xs) rfl ?_
  refine ag_iconst (d109_6 L xs) (x := 4) (by decide) ?_
  refine ag_icmp_le (d109_7 L xs) (t := 14) (by decide) (fun _ => ?_) (fun hn => absurd (Int32.not_lt.mp hc_2) hn)
  refine ag_iconst (d109_14 L xs) (x := 0) (by decide) ?_
  refine ag_put (d109_15 L xs) (cj := 9) (k0 := 0) rfl F141 (ax_lt hz (Nat.le_of_ble_eq_true rfl)) (Nat.le_of_ble_eq_true rfl) rfl rfl ?_
  refine ag_aload_n (d109_18 L xs) rfl ?_
  refine ag_get (d109_19 L xs) (kd := 1) (cj := 9) (k0 := 0) rfl (Or.inl rfl) (ax_up_at _ _ _) rfl ?_
  refine ag_if_le (d109_22 L xs) (t := 27) (by decide) (fun _ => ?_) (fun hn => absurd (by decide) hn)
  refine ag_iconst (d109_27 L xs) (x := 0) (by decide) ?_
  refine ag_istore_n (d109_28 L xs) (ls' := [some (.ref 141), some (.int k), some (.int 0), none, none, none]) (Nat.le_of_ble_eq_true rfl) rfl ?_
  refine ag_iload_n (d109_29 L xs) rfl ?_
  refine ag_aload_n (d109_30 L xs) rfl ?_
  refine ag_get (d109_31 L xs) (kd := 1) (cj := 9) (k0 := 1) rfl (Or.inl rfl) (ax_up_at _ _ _) rfl ?_
  refine ag_icmp_ge (d109_34 L xs) (t := 66) (by decide) (fun _ => ?_) (fun hn => absurd (by decide) hn)
  refine ag_aload_n (d109_66 L xs) rfl ?_
  refine ag_get (d109_67 L xs) (kd := 1) (cj := 9) (k0 := 2) rfl (Or.inl rfl) (ax_up_at _ _ _) rfl ?_
  refine ag_iconst (d109_70 L xs) (x := 0) (by decide) ?_
  refine ag_iload_n (d109_71 L xs) rfl ?_
  refine ag_invs (d109_72 L xs) (kd := 6) (mj := 110) (n := 3) rfl (Or.inl rfl) (xs := [.int 0, .int 0, .ref 142]) (r := []) rfl rfl (Nat.le_of_ble_eq_true rfl) (z110_41 L xs (d := d + 0) (h := _) hz ) ?_
  refine ag_if_eq (d109_75 L xs) (t := 108) (by decide) (fun _ => ?_) (fun hn => absurd (by decide) hn)
  refine ag_iconst (d109_108 L xs) (x := 0) (by decide) ?_
  refine ag_istore_n (d109_109 L xs) (ls' := [some (.ref 141), some (.int k), some (.int 0), some (.int 0), none, none]) (Nat.le_of_ble_eq_true rfl) rfl ?_
  refine ag_iconst (d109_110 L xs) (x := 0) (by decide) ?_
  refine ag_istore (d109_111 L xs) (ls' := [some (.ref 141), some (.int k), some (.int 0), some (.int 0), some (.int 0), none]) (Nat.le_of_ble_eq_true rfl) rfl ?_
  refine ag_iload_n (d109_113 L xs) rfl ?_
  refine ag_if_eq (d109_114 L xs) (t := 158) (by decide) (fun _ => ?_) (fun hn => absurd (by decide) hn)
  refine ag_iload_n (d109_158 L xs) rfl ?_
  refine ag_if_eq (d109_159 L xs) (t := 182) (by decide) (fun _ => ?_) (fun hn => absurd (by decide) hn)
  refine ag_aload_n (d109_182 L xs) rfl ?_
  refine ag_iload_n (d109_183 L xs) rfl ?_
  refine ag_if_ne (d109_184 L xs) (t := 191) (by decide) (fun hp => absurd hp (by decide)) (fun _ => ?_)
  refine ag_iconst (d109_187 L xs) (x := 1) (by decide) ?_
  refine ag_goto (d109_188 L xs) (t := 205) (by decide) ?_
  refine ag_put (d109_205 L xs) (cj := 9) (k0 := 0) rfl (ax_up_at _ _ _) (ax_lt hz (Nat.le_of_ble_eq_true rfl)) (Nat.le_of_ble_eq_true rfl) rfl rfl ?_
  refine ag_aload_n (d109_208 L xs) rfl ?_
  refine ag_get (d109_209 L xs) (kd := 1) (cj := 9) (k0 := 0) rfl (Or.inl rfl) (ax_up_at _ _ _) rfl ?_
  refine ag_if_le (d109_212 L xs) (t := 217) (by decide) (fun hp => absurd hp (by decide)) (fun _ => ?_)
  refine ag_iconst (d109_215 L xs) (x := 0) (by decide) ?_
  exact ag_iret (d109_216 L xs) rfl rfl
theorem z110_43 (L : Nat) (xs : Nat → Int32) {d : Nat} {h : ax_H} (hz : h.2.1 = 167) : ax_Ca (mgT L xs) (d + 1) 110 [.ref 142, .int 0, .int 0] h (.inl (some (.int 0)), h) := by
  refine ag_call (Nat.le_of_ble_eq_true rfl) ?_
  show ax_Go (mgT L xs) (d + 0) 110 0 [some (.ref 142), some (.int 0), some (.int 0), none, none, none, none] [] h _
  refine ag_iload_n (d110_0 L xs) rfl ?_
  refine ag_iload_n (d110_1 L xs) rfl ?_
  refine ag_isub (d110_2 L xs) ?_
  refine ag_top (y := 0) (by decide) ?_
  refine ag_iconst (d110_3 L xs) (x := 1) (by decide) ?_
  refine ag_icmp_lt (d110_4 L xs) (t := 15) (by decide) (fun _ => ?_) (fun hn => absurd (by decide) hn)
  refine ag_iconst (d110_15 L xs) (x := 0) (by decide) ?_
  exact ag_iret (d110_16 L xs) rfl rfl
theorem z116_44 (L : Nat) (xs : Nat → Int32) {d : Nat} {h : ax_H} {k : Int32} (hz : h.2.1 = 167) (F141 : h.1 141 = some (.inr (9, [.int 0, .int 0, .ref 142, .int 0, .ref 143, .ref 144, .ref 145, .ref 146, .ref 147, .int 0, .int 0, .ref 148, .int 0, .ref 149, .int 0, .int 0, .ref 150, .int 0, .ref 151, .int 0, .ref 152, .ref 153, .int 0, .int 0, .ref 154, .ref 155, .ref 156, .ref 157, .ref 158, .ref 159, .ref 160, .ref 161, .ref 162, .int 0, .int 0, .int 0, .int 0, .int 0, .int 0, .int 0, .int 0, .int 0, .ref 163, .int 0, .int 0, .int 0, .int 0, .ref 164, .ref 165]))) : ax_Ca (mgT L xs) (d + 2) 116 [.ref 141, .int k] h (.inl (some (.int 0)), (ax_up h 141 (.inr (9, [.int 1, .int 0, .ref 142, .int 0, .ref 143, .ref 144, .ref 145, .ref 146, .ref 147, .int 0, .int 0, .ref 148, .int 0, .ref 149, .int 0, .int 0, .ref 150, .int 0, .ref 151, .int 0, .ref 152, .ref 153, .int 0, .int 0, .ref 154, .ref 155, .ref 156, .ref 157, .ref 158, .ref 159, .ref 160, .ref 161, .ref 162, .int 0, .int 0, .int 0, .int 0, .int 0, .int 0, .int 0, .int 0, .int 0, .ref 163, .int 0, .int 0, .int 0, .int 0, .ref 164, .ref 165])))) := by
  refine ag_call (Nat.le_of_ble_eq_true rfl) ?_
  show ax_Go (mgT L xs) (d + 1) 116 0 [some (.ref 141), some (.int k), none] [] h _
  refine ag_aload_n (d116_0 L xs) rfl ?_
  refine ag_aload_n (d116_1 L xs) rfl ?_
  refine ag_get (d116_2 L xs) (kd := 1) (cj := 9) (k0 := 2) rfl (Or.inl rfl) F141 rfl ?_
  refine ag_iconst (d116_5 L xs) (x := 0) (by decide) ?_
  refine ag_aload_n (d116_6 L xs) rfl ?_
  refine ag_get (d116_7 L xs) (kd := 1) (cj := 9) (k0 := 1) rfl (Or.inl rfl) F141 rfl ?_
  refine ag_invs (d116_10 L xs) (kd := 6) (mj := 110) (n := 3) rfl (Or.inl rfl) (xs := [.int 0, .int 0, .ref 142]) (r := [.ref 141]) rfl rfl (Nat.le_of_ble_eq_true rfl) (z110_43 L xs (d := d + 0) (h := _) hz ) ?_
  refine ag_if_eq (d116_13 L xs) (t := 20) (by decide) (fun _ => ?_) (fun hn => absurd (by decide) hn)
  refine ag_iconst (d116_20 L xs) (x := 1) (by decide) ?_
  refine ag_put (d116_21 L xs) (cj := 9) (k0 := 0) rfl F141 (ax_lt hz (Nat.le_of_ble_eq_true rfl)) (Nat.le_of_ble_eq_true rfl) rfl rfl ?_
  refine ag_aload_n (d116_24 L xs) rfl ?_
  refine ag_get (d116_25 L xs) (kd := 1) (cj := 9) (k0 := 0) rfl (Or.inl rfl) (ax_up_at _ _ _) rfl ?_
  refine ag_if_le (d116_28 L xs) (t := 33) (by decide) (fun hp => absurd hp (by decide)) (fun _ => ?_)
  refine ag_iconst (d116_31 L xs) (x := 0) (by decide) ?_
  exact ag_iret (d116_32 L xs) rfl rfl
theorem z155_45 (L : Nat) (xs : Nat → Int32) {d : Nat} {h : ax_H} {k : Int32} (hz : h.2.1 = 167) (F141 : h.1 141 = some (.inr (9, [.int 0, .int 0, .ref 142, .int 0, .ref 143, .ref 144, .ref 145, .ref 146, .ref 147, .int 0, .int 0, .ref 148, .int 0, .ref 149, .int 0, .int 0, .ref 150, .int 0, .ref 151, .int 0, .ref 152, .ref 153, .int 0, .int 0, .ref 154, .ref 155, .ref 156, .ref 157, .ref 158, .ref 159, .ref 160, .ref 161, .ref 162, .int 0, .int 0, .int 0, .int 0, .int 0, .int 0, .int 0, .int 0, .int 0, .ref 163, .int 0, .int 0, .int 0, .int 0, .ref 164, .ref 165]))) : ax_Ca (mgT L xs) (d + 2) 155 [.ref 141, .int k] h (.inl (some (.int 0)), (ax_up h 141 (.inr (9, [.int 1, .int 0, .ref 142, .int 0, .ref 143, .ref 144, .ref 145, .ref 146, .ref 147, .int 0, .int 0, .ref 148, .int 0, .ref 149, .int 0, .int 0, .ref 150, .int 0, .ref 151, .int 0, .ref 152, .ref 153, .int 0, .int 0, .ref 154, .ref 155, .ref 156, .ref 157, .ref 158, .ref 159, .ref 160, .ref 161, .ref 162, .int 0, .int 0, .int 0, .int 0, .int 0, .int 0, .int 0, .int 0, .int 0, .ref 163, .int 0, .int 0, .int 0, .int 0, .ref 164, .ref 165])))) := by
  refine ag_call (Nat.le_of_ble_eq_true rfl) ?_
  show ax_Go (mgT L xs) (d + 1) 155 0 [some (.ref 141), some (.int k), none, none, none, none, none, none, none, none, none] [] h _
  refine ag_aload_n (d155_0 L xs) rfl ?_
  refine ag_aload_n (d155_1 L xs) rfl ?_
  refine ag_get (d155_2 L xs) (kd := 1) (cj := 9) (k0 := 2) rfl (Or.inl rfl) F141 rfl ?_
  refine ag_iconst (d155_5 L xs) (x := 0) (by decide) ?_
  refine ag_aload_n (d155_6 L xs) rfl ?_
  refine ag_get (d155_7 L xs) (kd := 1) (cj := 9) (k0 := 1) rfl (Or.inl rfl) F141 rfl ?_
  refine ag_invs (d155_10 L xs) (kd := 6) (mj := 110) (n := 3) rfl (Or.inl rfl) (xs := [.int 0, .int 0, .ref 142]) (r := [.ref 141]) rfl rfl (Nat.le_of_ble_eq_true rfl) (z110_43 L xs (d := d + 0) (h := _) hz ) ?_
  refine ag_if_eq (d155_13 L xs) (t := 26) (by decide) (fun _ => ?_) (fun hn => absurd (by decide) hn)
  refine ag_iconst (d155_26 L xs) (x := 1) (by decide) ?_
  refine ag_goto (d155_27 L xs) (t := 42) (by decide) ?_
  refine ag_put (d155_42 L xs) (cj := 9) (k0 := 0) rfl F141 (ax_lt hz (Nat.le_of_ble_eq_true rfl)) (Nat.le_of_ble_eq_true rfl) rfl rfl ?_
  refine ag_aload_n (d155_45 L xs) rfl ?_
  refine ag_get (d155_46 L xs) (kd := 1) (cj := 9) (k0 := 0) rfl (Or.inl rfl) (ax_up_at _ _ _) rfl ?_
  refine ag_if_le (d155_49 L xs) (t := 54) (by decide) (fun hp => absurd hp (by decide)) (fun _ => ?_)
  refine ag_iconst (d155_52 L xs) (x := 0) (by decide) ?_
  exact ag_iret (d155_53 L xs) rfl rfl
theorem z107_46 (L : Nat) (xs : Nat → Int32) {d : Nat} {h : ax_H} (hz : h.2.1 = 167) (F141 : h.1 141 = some (.inr (9, [.int 0, .int 0, .ref 142, .int 0, .ref 143, .ref 144, .ref 145, .ref 146, .ref 147, .int 0, .int 0, .ref 148, .int 0, .ref 149, .int 0, .int 0, .ref 150, .int 0, .ref 151, .int 0, .ref 152, .ref 153, .int 0, .int 0, .ref 154, .ref 155, .ref 156, .ref 157, .ref 158, .ref 159, .ref 160, .ref 161, .ref 162, .int 0, .int 0, .int 0, .int 0, .int 0, .int 0, .int 0, .int 0, .int 0, .ref 163, .int 0, .int 0, .int 0, .int 0, .ref 164, .ref 165]))) : ax_Ca (mgT L xs) (d + 1) 107 [.ref 141] h (.inl none, (ax_up (ax_up h 141 (.inr (9, [.int 0, .int 0, .ref 142, .int 0, .ref 143, .ref 144, .ref 145, .ref 146, .ref 147, .int 0, .int 0, .ref 148, .int 0, .ref 149, .int 0, .int 0, .ref 150, .int 0, .ref 151, .int 0, .ref 152, .ref 153, .int 0, .int 0, .ref 154, .ref 155, .ref 156, .ref 157, .ref 158, .ref 159, .ref 160, .ref 161, .ref 162, .int 0, .int 0, .int 0, .int 0, .int 0, .int 0, .int 0, .int 0, .int 0, .ref 163, .int 0, .int 0, .int 0, .int 0, .ref 164, .ref 165]))) 141 (.inr (9, [.int 0, .int 0, .ref 142, .int 0, .ref 143, .ref 144, .ref 145, .ref 146, .ref 147, .int 0, .int 0, .ref 148, .int 0, .ref 149, .int 0, .int 0, .ref 150, .int 0, .ref 151, .int 0, .ref 152, .ref 153, .int 0, .int 0, .ref 154, .ref 155, .ref 156, .ref 157, .ref 158, .ref 159, .ref 160, .ref 161, .ref 162, .int 0, .int 0, .int 0, .int 0, .int 0, .int 0, .int 0, .int 0, .int 0, .ref 163, .int 0, .int 0, .int 0, .int 0, .ref 164, .ref 165])))) := by
  refine ag_call (Nat.le_of_ble_eq_true rfl) ?_
  show ax_Go (mgT L xs) (d + 0) 107 0 [some (.ref 141)] [] h _
  refine ag_aload_n (d107_0 L xs) rfl ?_
  refine ag_iconst (d107_1 L xs) (x := 0) (by decide) ?_
  refine ag_put (d107_2 L xs) (cj := 9) (k0 := 0) rfl F141 (ax_lt hz (Nat.le_of_ble_eq_true rfl)) (Nat.le_of_ble_eq_true rfl) rfl rfl ?_
  refine ag_aload_n (d107_5 L xs) rfl ?_
  refine ag_iconst (d107_6 L xs) (x := 0) (by decide) ?_
  refine ag_put (d107_7 L xs) (cj := 9) (k0 := 1) rfl (ax_up_at _ _ _) (ax_lt hz (Nat.le_of_ble_eq_true rfl)) (Nat.le_of_ble_eq_true rfl) rfl rfl ?_
  exact ag_vret (d107_10 L xs) rfl
theorem z0_47 (xs : Nat → Int32) {d : Nat} {h : ax_H} {s0 : Int32} (hs0 : xs 0 = s0) (hz : h.2.1 = 167) (F0 : h.1 0 = some (.inr (0, [.ref 1, .ref 3, .ref 87, .ref 137]))) (F1 : h.1 1 = some (.inr (1, [.ref 2, .int 0]))) (F141 : h.1 141 = some (.inr (9, [.int 0, .int 0, .ref 142, .int 0, .ref 143, .ref 144, .ref 145, .ref 146, .ref 147, .int 0, .int 0, .ref 148, .int 0, .ref 149, .int 0, .int 0, .ref 150, .int 0, .ref 151, .int 0, .ref 152, .ref 153, .int 0, .int 0, .ref 154, .ref 155, .ref 156, .ref 157, .ref 158, .ref 159, .ref 160, .ref 161, .ref 162, .int 0, .int 0, .int 0, .int 0, .int 0, .int 0, .int 0, .int 0, .int 0, .ref 163, .int 0, .int 0, .int 0, .int 0, .ref 164, .ref 165]))) (hj : s0 &&& 15 = 1) : ax_Go (mgT 3 xs) (d + 2) 0 23 [some (.ref ax_big), some (.ref 0), some (.ref 141), some (.ref 166), some (.int 0), none, none] [] h (.inl (some (.int 1)), (ax_up (ax_up (ax_up h 1 (.inr (1, [.ref 2, .int 0]))) 141 (.inr (9, [.int 0, .int 0, .ref 142, .int 0, .ref 143, .ref 144, .ref 145, .ref 146, .ref 147, .int 0, .int 0, .ref 148, .int 0, .ref 149, .int 0, .int 0, .ref 150, .int 0, .ref 151, .int 0, .ref 152, .ref 153, .int 0, .int 0, .ref 154, .ref 155, .ref 156, .ref 157, .ref 158, .ref 159, .ref 160, .ref 161, .ref 162, .int 0, .int 0, .int 0, .int 0, .int 0, .int 0, .int 0, .int 0, .int 0, .ref 163, .int 0, .int 0, .int 0, .int 0, .ref 164, .ref 165]))) 141 (.inr (9, [.int 0, .int 0, .ref 142, .int 0, .ref 143, .ref 144, .ref 145, .ref 146, .ref 147, .int 0, .int 0, .ref 148, .int 0, .ref 149, .int 0, .int 0, .ref 150, .int 0, .ref 151, .int 0, .ref 152, .ref 153, .int 0, .int 0, .ref 154, .ref 155, .ref 156, .ref 157, .ref 158, .ref 159, .ref 160, .ref 161, .ref 162, .int 0, .int 0, .int 0, .int 0, .int 0, .int 0, .int 0, .int 0, .int 0, .ref 163, .int 0, .int 0, .int 0, .int 0, .ref 164, .ref 165])))) := by
  refine ag_iload (d0_23 3 xs) rfl ?_
  refine ag_aload_n (d0_25 3 xs) rfl ?_
  refine ag_slen rfl (d0_26 3 xs) ?_
  refine ag_top (y := 3) (by decide) ?_
  refine ag_iconst (d0_27 3 xs) (x := 3) (by decide) ?_
  refine ag_isub (d0_28 3 xs) ?_
  refine ag_top (y := 0) (by decide) ?_
  refine ag_icmp_gt (d0_29 3 xs) (t := 447) (by decide) (fun hp => absurd hp (by decide)) (fun _ => ?_)
  refine ag_aload_n (d0_32 3 xs) rfl ?_
  refine ag_iload (d0_33 3 xs) rfl ?_
  refine ag_sald rfl (d0_35 3 xs) (x := s0) (show ¬ ((0 : Int32) < 0 ∨ 3 ≤ (0 : Int32).toNatClampNeg) from by decide) hs0 ?_
  refine ag_bipush (d0_36 3 xs) (x := 15) (by decide) ?_
  refine ag_iand (d0_38 3 xs) ?_
  refine ag_top (y := 1) hj ?_
  refine ag_tswIn (d0_39 3 xs) (of := 110) (t := 149) (by decide) (by decide) (by decide) ?_
  refine ag_aload_n (d0_149 3 xs) rfl ?_
  refine ag_invv (d0_150 3 xs) (kd := 7) (mj := 17) (n := 0) rfl (Or.inl rfl) (xs := []) (r := []) rfl rfl F0 rfl (Nat.le_of_ble_eq_true rfl) (z17_2 3 xs (d := d + 0) (h := _) hz F0 F1) ?_
  refine ag_aload_n (d0_153 3 xs) rfl ?_
  refine ag_invv (d0_154 3 xs) (kd := 7) (mj := 107) (n := 0) rfl (Or.inl rfl) (xs := []) (r := []) rfl rfl ((ax_up_ne _ _ (by decide)).trans F141) rfl (Nat.le_of_ble_eq_true rfl) (z107_46 3 xs (d := d + 1) (h := _) hz ((ax_up_ne _ _ (by decide)).trans F141)) ?_
  refine ag_goto (d0_157 3 xs) (t := 441) (by decide) ?_
  refine ag_iinc (d0_441 3 xs) (y := 3) (ls' := [some (.ref ax_big), some (.ref 0), some (.ref 141), some (.ref 166), some (.int 3), none, none]) rfl (by decide) rfl ?_
  refine ag_goto (d0_444 3 xs) (t := 23) (by decide) ?_
  refine ag_iload (d0_23 3 xs) rfl ?_
  refine ag_aload_n (d0_25 3 xs) rfl ?_
  refine ag_slen rfl (d0_26 3 xs) ?_
  refine ag_top (y := 3) (by decide) ?_
  refine ag_iconst (d0_27 3 xs) (x := 3) (by decide) ?_
  refine ag_isub (d0_28 3 xs) ?_
  refine ag_top (y := 0) (by decide) ?_
  refine ag_icmp_gt (d0_29 3 xs) (t := 447) (by decide) (fun _ => ?_) (fun hn => absurd (by decide) hn)
  refine ag_iconst (d0_447 3 xs) (x := 1) (by decide) ?_
  exact ag_iret (d0_448 3 xs) rfl rfl
theorem z0_48 (xs : Nat → Int32) {d : Nat} {h : ax_H} {s0 : Int32} (hs0 : xs 0 = s0) (hz : h.2.1 = 167) (F0 : h.1 0 = some (.inr (0, [.ref 1, .ref 3, .ref 87, .ref 137]))) (F1 : h.1 1 = some (.inr (1, [.ref 2, .int 0]))) (F141 : h.1 141 = some (.inr (9, [.int 0, .int 0, .ref 142, .int 0, .ref 143, .ref 144, .ref 145, .ref 146, .ref 147, .int 0, .int 0, .ref 148, .int 0, .ref 149, .int 0, .int 0, .ref 150, .int 0, .ref 151, .int 0, .ref 152, .ref 153, .int 0, .int 0, .ref 154, .ref 155, .ref 156, .ref 157, .ref 158, .ref 159, .ref 160, .ref 161, .ref 162, .int 0, .int 0, .int 0, .int 0, .int 0, .int 0, .int 0, .int 0, .int 0, .ref 163, .int 0, .int 0, .int 0, .int 0, .ref 164, .ref 165]))) (hj : s0 &&& 15 = 2) : ax_Go (mgT 3 xs) (d + 2) 0 23 [some (.ref ax_big), some (.ref 0), some (.ref 141), some (.ref 166), some (.int 0), none, none] [] h (.inl (some (.int 1)), (ax_up h 141 (.inr (9, [.int 0, .int 0, .ref 142, .int 0, .ref 143, .ref 144, .ref 145, .ref 146, .ref 147, .int 0, .int 0, .ref 148, .int 0, .ref 149, .int 0, .int 0, .ref 150, .int 0, .ref 151, .int 0, .ref 152, .ref 153, .int 0, .int 0, .ref 154, .ref 155, .ref 156, .ref 157, .ref 158, .ref 159, .ref 160, .ref 161, .ref 162, .int 0, .int 0, .int 0, .int 0, .int 0, .int 0, .int 0, .int 0, .int 0, .ref 163, .int 0, .int 0, .int 0, .int 0, .ref 164, .ref 165])))) := by
  refine ag_iload (d0_23 3 xs) rfl ?_
  refine ag_aload_n (d0_25 3 xs) rfl ?_
  refine ag_slen rfl (d0_26 3 xs) ?_
  refine ag_top (y := 3) (by decide) ?_
  refine ag_iconst (d0_27 3 xs) (x := 3) (by decide) ?_
  refine ag_isub (d0_28 3 xs) ?_
  refine ag_top (y := 0) (by decide) ?_
  refine ag_icmp_gt (d0_29 3 xs) (t := 447) (by decide) (fun hp => absurd hp (by decide)) (fun _ => ?_)
  refine ag_aload_n (d0_32 3 xs) rfl ?_
  refine ag_iload (d0_33 3 xs) rfl ?_
  refine ag_sald rfl (d0_35 3 xs) (x := s0) (show ¬ ((0 : Int32) < 0 ∨ 3 ≤ (0 : Int32).toNatClampNeg) from by decide) hs0 ?_
  refine ag_bipush (d0_36 3 xs) (x := 15) (by decide) ?_
  refine ag_iand (d0_38 3 xs) ?_
  refine ag_top (y := 2) hj ?_
  refine ag_tswIn (d0_39 3 xs) (of := 121) (t := 160) (by decide) (by decide) (by decide) ?_
  refine ag_aload_n (d0_160 3 xs) rfl ?_
  refine ag_invv (d0_161 3 xs) (kd := 7) (mj := 19) (n := 0) rfl (Or.inl rfl) (xs := []) (r := []) rfl rfl F0 rfl (Nat.le_of_ble_eq_true rfl) (z19_4 3 xs (d := d + 0) (h := _) hz F0 F1) ?_
  refine ag_aload_n (d0_164 3 xs) rfl ?_
  refine ag_invv (d0_165 3 xs) (kd := 7) (mj := 108) (n := 0) rfl (Or.inl rfl) (xs := []) (r := [.int 0]) rfl rfl F141 rfl (Nat.le_of_ble_eq_true rfl) (z108_31 3 xs (d := d + 1) (h := _) hz F141) ?_
  refine ag_icmp_eq (d0_168 3 xs) (t := 441) (by decide) (fun _ => ?_) (fun hn => absurd (by decide) hn)
  refine ag_iinc (d0_441 3 xs) (y := 3) (ls' := [some (.ref ax_big), some (.ref 0), some (.ref 141), some (.ref 166), some (.int 3), none, none]) rfl (by decide) rfl ?_
  refine ag_goto (d0_444 3 xs) (t := 23) (by decide) ?_
  refine ag_iload (d0_23 3 xs) rfl ?_
  refine ag_aload_n (d0_25 3 xs) rfl ?_
  refine ag_slen rfl (d0_26 3 xs) ?_
  refine ag_top (y := 3) (by decide) ?_
  refine ag_iconst (d0_27 3 xs) (x := 3) (by decide) ?_
  refine ag_isub (d0_28 3 xs) ?_
  refine ag_top (y := 0) (by decide) ?_
  refine ag_icmp_gt (d0_29 3 xs) (t := 447) (by decide) (fun _ => ?_) (fun hn => absurd (by decide) hn)
  refine ag_iconst (d0_447 3 xs) (x := 1) (by decide) ?_
  exact ag_iret (d0_448 3 xs) rfl rfl
theorem z36_49 (L : Nat) (xs : Nat → Int32) {d : Nat} {h : ax_H} {s1 : Int32} (hz : h.2.1 = 167) (F0 : h.1 0 = some (.inr (0, [.ref 1, .ref 3, .ref 87, .ref 137]))) (F1 : h.1 1 = some (.inr (1, [.ref 2, .int 0]))) : ax_Ca (mgT L xs) (d + 2) 36 [.ref 0, .int s1] h (.inl (some (.int 0)), h) := by
  refine ag_call (Nat.le_of_ble_eq_true rfl) ?_
  show ax_Go (mgT L xs) (d + 1) 36 0 [some (.ref 0), some (.int s1), none, none] [] h _
  refine ag_aload_n (d36_0 L xs) rfl ?_
  refine ag_get (d36_1 L xs) (kd := 1) (cj := 0) (k0 := 0) rfl (Or.inl rfl) F0 rfl ?_
  refine ag_bipush (d36_4 L xs) (x := 32) (by decide) ?_
  refine ag_iconst (d36_6 L xs) (x := 0) (by decide) ?_
  refine ag_aload_n (d36_7 L xs) rfl ?_
  refine ag_get (d36_8 L xs) (kd := 1) (cj := 0) (k0 := 0) rfl (Or.inl rfl) F0 rfl ?_
  refine ag_invv (d36_11 L xs) (kd := 7) (mj := 15) (n := 0) rfl (Or.inl rfl) (xs := []) (r := [.int 0, .int 32, .ref 1]) rfl rfl F1 rfl (Nat.le_of_ble_eq_true rfl) (z15_3 L xs (d := d + 0) (h := _) hz F1) ?_
  refine ag_invv (d36_14 L xs) (kd := 7) (mj := 37) (n := 3) rfl (Or.inl rfl) (xs := [.int 0, .int 0, .int 32]) (r := []) rfl rfl F1 rfl (Nat.le_of_ble_eq_true rfl) (z37_20 L xs (d := d + 0) (h := _) hz ) ?_
  refine ag_istore_n (d36_17 L xs) (ls' := [some (.ref 0), some (.int s1), some (.int 0), none]) (Nat.le_of_ble_eq_true rfl) rfl ?_
  refine ag_aload_n (d36_18 L xs) rfl ?_
  refine ag_get (d36_19 L xs) (kd := 1) (cj := 0) (k0 := 0) rfl (Or.inl rfl) F0 rfl ?_
  refine ag_iconst (d36_22 L xs) (x := 0) (by decide) ?_
  refine ag_iload_n (d36_23 L xs) rfl ?_
  refine ag_invv (d36_24 L xs) (kd := 7) (mj := 38) (n := 2) rfl (Or.inl rfl) (xs := [.int 0, .int 0]) (r := []) rfl rfl F1 rfl (Nat.le_of_ble_eq_true rfl) (z38_21 L xs (d := d + 0) (h := _) hz ) ?_
  refine ag_if_ne (d36_27 L xs) (t := 32) (by decide) (fun hp => absurd hp (by decide)) (fun _ => ?_)
  refine ag_iconst (d36_30 L xs) (x := 0) (by decide) ?_
  exact ag_iret (d36_31 L xs) rfl rfl
theorem z35_50 (L : Nat) (xs : Nat → Int32) {d : Nat} {h : ax_H} {s1 : Int32} (hz : h.2.1 = 167) (F0 : h.1 0 = some (.inr (0, [.ref 1, .ref 3, .ref 87, .ref 137]))) (F1 : h.1 1 = some (.inr (1, [.ref 2, .int 0]))) : ax_Ca (mgT L xs) (d + 3) 35 [.ref 0, .int s1] h (.inr 1, (ax_one h)) := by
  refine ag_callT (Nat.le_of_ble_eq_true rfl) ?_
  show ax_Go (mgT L xs) (d + 2) 35 0 [some (.ref 0), some (.int s1)] [] h _
  refine ag_aload_n (d35_0 L xs) rfl ?_
  refine ag_iload_n (d35_1 L xs) rfl ?_
  refine ag_invv (d35_2 L xs) (kd := 7) (mj := 36) (n := 1) rfl (Or.inl rfl) (xs := [.int s1]) (r := []) rfl rfl F0 rfl (Nat.le_of_ble_eq_true rfl) (z36_49 L xs (d := d + 0) (h := _) (s1 := s1) hz F0 F1) ?_
  refine ag_if_ne (d35_5 L xs) (t := 16) (by decide) (fun hp => absurd hp (by decide)) (fun _ => ?_)
  exact ag_thr (d35_8 L xs) rfl (d35_11 L xs) (d35_12 L xs) (d35_15 L xs) (by rw [hz]; decide) (Nat.le_of_ble_eq_true rfl) rfl
theorem z1_51 (L : Nat) (xs : Nat → Int32) {d : Nat} {h : ax_H} {s1 : Int32} (hz : h.2.1 = 167) (F0 : h.1 0 = some (.inr (0, [.ref 1, .ref 3, .ref 87, .ref 137]))) (F1 : h.1 1 = some (.inr (1, [.ref 2, .int 0]))) : ax_Ca (mgT L xs) (d + 4) 1 [.ref 0, .int s1, .ref 166] h (.inl (some (.int 1)), (ax_one h)) := by
  refine ag_call (Nat.le_of_ble_eq_true rfl) ?_
  show ax_Go (mgT L xs) (d + 3) 1 0 [some (.ref 0), some (.int s1), some (.ref 166), none] [] h _
  refine ag_aload_n (d1_0 L xs) rfl ?_
  refine ag_iconst (d1_1 L xs) (x := 0) (by decide) ?_
  refine ag_aload_n (d1_2 L xs) rfl ?_
  refine ag_iload_n (d1_3 L xs) rfl ?_
  refine ag_invc (d1_4 L xs) (mj := 35) (n := 1) rfl (xs := [.int s1]) (r := [.int 0, .ref 166]) rfl rfl F0 rfl (Nat.le_of_ble_eq_true rfl) (z35_50 L xs (d := d + 0) (h := _) (s1 := s1) hz F0 F1) (pc' := 12) rfl ?_
  refine ag_ref (b := 167) (by show (ax_one h).2.1 - 1 = _; rw [(ax_one_sz hz)]) ?_
  refine ag_astore_n (d1_12 L xs) (ls' := [some (.ref 0), some (.int s1), some (.ref 166), some (.ref 167)]) (Nat.le_of_ble_eq_true rfl) rfl ?_
  refine ag_iconst (d1_13 L xs) (x := 1) (by decide) ?_
  exact ag_iret (d1_14 L xs) rfl rfl
theorem z109_52 (L : Nat) (xs : Nat → Int32) {d : Nat} {h : ax_H} {s1 : Int32} (hz : h.2.1 = 168) (F141 : h.1 141 = some (.inr (9, [.int 0, .int 0, .ref 142, .int 0, .ref 143, .ref 144, .ref 145, .ref 146, .ref 147, .int 0, .int 0, .ref 148, .int 0, .ref 149, .int 0, .int 0, .ref 150, .int 0, .ref 151, .int 0, .ref 152, .ref 153, .int 0, .int 0, .ref 154, .ref 155, .ref 156, .ref 157, .ref 158, .ref 159, .ref 160, .ref 161, .ref 162, .int 0, .int 0, .int 0, .int 0, .int 0, .int 0, .int 0, .int 0, .int 0, .ref 163, .int 0, .int 0, .int 0, .int 0, .ref 164, .ref 165]))) (hc_3 : s1 < 0) : ax_Ca (mgT L xs) (d + 1) 109 [.ref 141, .int s1] h (.inl (some (.int 0)), (ax_up h 141 (.inr (9, [.int 1, .int 0, .ref 142, .int 0, .ref 143, .ref 144, .ref 145, .ref 146, .ref 147, .int 0, .int 0, .ref 148, .int 0, .ref 149, .int 0, .int 0, .ref 150, .int 0, .ref 151, .int 0, .ref 152, .ref 153, .int 0, .int 0, .ref 154, .ref 155, .ref 156, .ref 157, .ref 158, .ref 159, .ref 160, .ref 161, .ref 162, .int 0, .int 0, .int 0, .int 0, .int 0, .int 0, .int 0, .int 0, .int 0, .ref 163, .int 0, .int 0, .int 0, .int 0, .ref 164, .ref 165])))) := by
  refine ag_call (Nat.le_of_ble_eq_true rfl) ?_
  show ax_Go (mgT L xs) (d + 0) 109 0 [some (.ref 141), some (.int s1), none, none, none, none] [] h _
  refine ag_aload_n (d109_0 L xs) rfl ?_
  refine ag_iload_n (d109_1 L xs) rfl ?_
  refine ag_if_lt (d109_2 L xs) (t := 10) (by decide) (fun _ => ?_) (fun hn => absurd hc_3 hn)
  refine ag_iconst (d109_10 L xs) (x := 1) (by decide) ?_
  refine ag_goto (d109_11 L xs) (t := 15) (by decide) ?_
  refine ag_put (d109_15 L xs) (cj := 9) (k0 := 0) rfl F141 (ax_lt hz (Nat.le_of_ble_eq_true rfl)) (Nat.le_of_ble_eq_true rfl) rfl rfl ?_
  refine ag_aload_n (d109_18 L xs) rfl ?_
  refine ag_get (d109_19 L xs) (kd := 1) (cj := 9) (k0 := 0) rfl (Or.inl rfl) (ax_up_at _ _ _) rfl ?_
  refine ag_if_le (d109_22 L xs) (t := 27) (by decide) (fun hp => absurd hp (by decide)) (fun _ => ?_)
  refine ag_iconst (d109_25 L xs) (x := 0) (by decide) ?_
  exact ag_iret (d109_26 L xs) rfl rfl
theorem z109_53 (L : Nat) (xs : Nat → Int32) {d : Nat} {h : ax_H} {s1 : Int32} (hz : h.2.1 = 168) (F141 : h.1 141 = some (.inr (9, [.int 0, .int 0, .ref 142, .int 0, .ref 143, .ref 144, .ref 145, .ref 146, .ref 147, .int 0, .int 0, .ref 148, .int 0, .ref 149, .int 0, .int 0, .ref 150, .int 0, .ref 151, .int 0, .ref 152, .ref 153, .int 0, .int 0, .ref 154, .ref 155, .ref 156, .ref 157, .ref 158, .ref 159, .ref 160, .ref 161, .ref 162, .int 0, .int 0, .int 0, .int 0, .int 0, .int 0, .int 0, .int 0, .int 0, .ref 163, .int 0, .int 0, .int 0, .int 0, .ref 164, .ref 165]))) (hc_3 : ¬ (s1 < 0)) (hc_4 : 4 < s1) : ax_Ca (mgT L xs) (d + 1) 109 [.ref 141, .int s1] h (.inl (some (.int 0)), (ax_up h 141 (.inr (9, [.int 1, .int 0, .ref 142, .int 0, .ref 143, .ref 144, .ref 145, .ref 146, .ref 147, .int 0, .int 0, .ref 148, .int 0, .ref 149, .int 0, .int 0, .ref 150, .int 0, .ref 151, .int 0, .ref 152, .ref 153, .int 0, .int 0, .ref 154, .ref 155, .ref 156, .ref 157, .ref 158, .ref 159, .ref 160, .ref 161, .ref 162, .int 0, .int 0, .int 0, .int 0, .int 0, .int 0, .int 0, .int 0, .int 0, .ref 163, .int 0, .int 0, .int 0, .int 0, .ref 164, .ref 165])))) := by
  refine ag_call (Nat.le_of_ble_eq_true rfl) ?_
  show ax_Go (mgT L xs) (d + 0) 109 0 [some (.ref 141), some (.int s1), none, none, none, none] [] h _
  refine ag_aload_n (d109_0 L xs) rfl ?_
  refine ag_iload_n (d109_1 L xs) rfl ?_
  refine ag_if_lt (d109_2 L xs) (t := 10) (by decide) (fun hp => absurd hp hc_3) (fun _ => ?_)
  refine ag_iload_n (d109_5 L xs) rfl ?_
  refine ag_iconst (d109_6 L xs) (x := 4) (by decide) ?_
  refine ag_icmp_le (d109_7 L xs) (t := 14) (by decide) (fun hp => absurd hp (Int32.not_le.mpr hc_4)) (fun _ => ?_)
  refine ag_iconst (d109_10 L xs) (x := 1) (by decide) ?_
  refine ag_goto (d109_11 L xs) (t := 15) (by decide) ?_
  refine ag_put (d109_15 L xs) (cj := 9) (k0 := 0) rfl F141 (ax_lt hz (Nat.le_of_ble_eq_true rfl)) (Nat.le_of_ble_eq_true rfl) rfl rfl ?_
  refine ag_aload_n (d109_18 L xs) rfl ?_
  refine ag_get (d109_19 L xs) (kd := 1) (cj := 9) (k0 := 0) rfl (Or.inl rfl) (ax_up_at _ _ _) rfl ?_
  refine ag_if_le (d109_22 L xs) (t := 27) (by decide) (fun hp => absurd hp (by decide)) (fun _ => ?_)
  refine ag_iconst (d109_25 L xs) (x := 0) (by decide) ?_
  exact ag_iret (d109_26 L xs) rfl rfl
theorem z110_54 (L : Nat) (xs : Nat → Int32) {d : Nat} {h : ax_H} (hz : h.2.1 = 168) : ax_Ca (mgT L xs) (d + 1) 110 [.ref 142, .int 0, .int 0] h (.inl (some (.int 0)), h) := by
  refine ag_call (Nat.le_of_ble_eq_true rfl) ?_
  show ax_Go (mgT L xs) (d + 0) 110 0 [some (.ref 142), some (.int 0), some (.int 0), none, none, none, none] [] h _
  refine ag_iload_n (d110_0 L xs) rfl ?_
  refine ag_iload_n (d110_1 L xs) rfl ?_
  refine ag_isub (d110_2 L xs) ?_
  refine ag_top (y := 0) (by decide) ?_
  refine ag_iconst (d110_3 L xs) (x := 1) (by decide) ?_
  refine ag_icmp_lt (d110_4 L xs) (t := 15) (by decide) (fun _ => ?_) (fun hn => absurd (by decide) hn)
  refine ag_iconst (d110_15 L xs) (x := 0) (by decide) ?_
  exact ag_iret (d110_16 L xs) rfl rfl
theorem z109_55 (L : Nat) (xs : Nat → Int32) {d : Nat} {h : ax_H} {s1 : Int32} (hz : h.2.1 = 168) (F141 : h.1 141 = some (.inr (9, [.int 0, .int 0, .ref 142, .int 0, .ref 143, .ref 144, .ref 145, .ref 146, .ref 147, .int 0, .int 0, .ref 148, .int 0, .ref 149, .int 0, .int 0, .ref 150, .int 0, .ref 151, .int 0, .ref 152, .ref 153, .int 0, .int 0, .ref 154, .ref 155, .ref 156, .ref 157, .ref 158, .ref 159, .ref 160, .ref 161, .ref 162, .int 0, .int 0, .int 0, .int 0, .int 0, .int 0, .int 0, .int 0, .int 0, .ref 163, .int 0, .int 0, .int 0, .int 0, .ref 164, .ref 165]))) (hc_3 : ¬ (s1 < 0)) (hc_4 : ¬ (4 < s1)) : ax_Ca (mgT L xs) (d + 2) 109 [.ref 141, .int s1] h (.inl (some (.int 0)), (ax_up (ax_up h 141 (.inr (9, [.int 0, .int 0, .ref 142, .int 0, .ref 143, .ref 144, .ref 145, .ref 146, .ref 147, .int 0, .int 0, .ref 148, .int 0, .ref 149, .int 0, .int 0, .ref 150, .int 0, .ref 151, .int 0, .ref 152, .ref 153, .int 0, .int 0, .ref 154, .ref 155, .ref 156, .ref 157, .ref 158, .ref 159, .ref 160, .ref 161, .ref 162, .int 0, .int 0, .int 0, .int 0, .int 0, .int 0, .int 0, .int 0, .int 0, .ref 163, .int 0, .int 0, .int 0, .int 0, .ref 164, .ref 165]))) 141 (.inr (9, [.int 1, .int 0, .ref 142, .int 0, .ref 143, .ref 144, .ref 145, .ref 146, .ref 147, .int 0, .int 0, .ref 148, .int 0, .ref 149, .int 0, .int 0, .ref 150, .int 0, .ref 151, .int 0, .ref 152, .ref 153, .int 0, .int 0, .ref 154, .ref 155, .ref 156, .ref 157, .ref 158, .ref 159, .ref 160, .ref 161, .ref 162, .int 0, .int 0, .int 0, .int 0, .int 0, .int 0, .int 0, .int 0, .int 0, .ref 163, .int 0, .int 0, .int 0, .int 0, .ref 164, .ref 165])))) := by
  refine ag_call (Nat.le_of_ble_eq_true rfl) ?_
  show ax_Go (mgT L xs) (d + 1) 109 0 [some (.ref 141), some (.int s1), none, none, none, none] [] h _
  refine ag_aload_n (d109_0 L xs) rfl ?_
  refine ag_iload_n (d109_1 L xs) rfl ?_
  refine ag_if_lt (d109_2 L xs) (t := 10) (by decide) (fun hp => absurd hp hc_3) (fun _ => ?_)
  refine ag_iload_n (d109_5 L xs) rfl ?_
  refine ag_iconst (d109_6 L xs) (x := 4) (by decide) ?_
  refine ag_icmp_le (d109_7 L xs) (t := 14) (by decide) (fun _ => ?_) (fun hn => absurd (Int32.not_lt.mp hc_4) hn)
  refine ag_iconst (d109_14 L xs) (x := 0) (by decide) ?_
  refine ag_put (d109_15 L xs) (cj := 9) (k0 := 0) rfl F141 (ax_lt hz (Nat.le_of_ble_eq_true rfl)) (Nat.le_of_ble_eq_true rfl) rfl rfl ?_
  refine ag_aload_n (d109_18 L xs) rfl ?_
  refine ag_get (d109_19 L xs) (kd := 1) (cj := 9) (k0 := 0) rfl (Or.inl rfl) (ax_up_at _ _ _) rfl ?_
  refine ag_if_le (d109_22 L xs) (t := 27) (by decide) (fun _ => ?_) (fun hn => absurd (by decide) hn)
  refine ag_iconst (d109_27 L xs) (x := 0) (by decide) ?_
  refine ag_istore_n (d109_28 L xs) (ls' := [some (.ref 141), some (.int s1), some (.int 0), none, none, none]) (Nat.le_of_ble_eq_true rfl) rfl ?_
  refine ag_iload_n (d109_29 L xs) rfl ?_
  refine ag_aload_n (d109_30 L xs) rfl ?_
  refine ag_get (d109_31 L xs) (kd := 1) (cj := 9) (k0 := 1) rfl (Or.inl rfl) (ax_up_at _ _ _) rfl ?_
  refine ag_icmp_ge (d109_34 L xs) (t := 66) (by decide) (fun _ => ?_) (fun hn => absurd (by decide) hn)
  refine ag_aload_n (d109_66 L xs) rfl ?_
  refine ag_get (d109_67 L xs) (kd := 1) (cj := 9) (k0 := 2) rfl (Or.inl rfl) (ax_up_at _ _ _) rfl ?_
  refine ag_iconst (d109_70 L xs) (x := 0) (by decide) ?_
  refine ag_iload_n (d109_71 L xs) rfl ?_
  refine ag_invs (d109_72 L xs) (kd := 6) (mj := 110) (n := 3) rfl (Or.inl rfl) (xs := [.int 0, .int 0, .ref 142]) (r := []) rfl rfl (Nat.le_of_ble_eq_true rfl) (z110_54 L xs (d := d + 0) (h := _) hz ) ?_
  refine ag_if_eq (d109_75 L xs) (t := 108) (by decide) (fun _ => ?_) (fun hn => absurd (by decide) hn)
  refine ag_iconst (d109_108 L xs) (x := 0) (by decide) ?_
  refine ag_istore_n (d109_109 L xs) (ls' := [some (.ref 141), some (.int s1), some (.int 0), some (.int 0), none, none]) (Nat.le_of_ble_eq_true rfl) rfl ?_
  refine ag_iconst (d109_110 L xs) (x := 0) (by decide) ?_
  refine ag_istore (d109_111 L xs) (ls' := [some (.ref 141), some (.int s1), some (.int 0), some (.int 0), some (.int 0), none]) (Nat.le_of_ble_eq_true rfl) rfl ?_
  refine ag_iload_n (d109_113 L xs) rfl ?_
  refine ag_if_eq (d109_114 L xs) (t := 158) (by decide) (fun _ => ?_) (fun hn => absurd (by decide) hn)
  refine ag_iload_n (d109_158 L xs) rfl ?_
  refine ag_if_eq (d109_159 L xs) (t := 182) (by decide) (fun _ => ?_) (fun hn => absurd (by decide) hn)
  refine ag_aload_n (d109_182 L xs) rfl ?_
  refine ag_iload_n (d109_183 L xs) rfl ?_
  refine ag_if_ne (d109_184 L xs) (t := 191) (by decide) (fun hp => absurd hp (by decide)) (fun _ => ?_)
  refine ag_iconst (d109_187 L xs) (x := 1) (by decide) ?_
  refine ag_goto (d109_188 L xs) (t := 205) (by decide) ?_
  refine ag_put (d109_205 L xs) (cj := 9) (k0 := 0) rfl (ax_up_at _ _ _) (ax_lt hz (Nat.le_of_ble_eq_true rfl)) (Nat.le_of_ble_eq_true rfl) rfl rfl ?_
  refine ag_aload_n (d109_208 L xs) rfl ?_
  refine ag_get (d109_209 L xs) (kd := 1) (cj := 9) (k0 := 0) rfl (Or.inl rfl) (ax_up_at _ _ _) rfl ?_
  refine ag_if_le (d109_212 L xs) (t := 217) (by decide) (fun hp => absurd hp (by decide)) (fun _ => ?_)
  refine ag_iconst (d109_215 L xs) (x := 0) (by decide) ?_
  exact ag_iret (d109_216 L xs) rfl rfl
theorem z15_56 (L : Nat) (xs : Nat → Int32) {d : Nat} {h : ax_H} (hz : h.2.1 = 167) (F1 : h.1 1 = some (.inr (1, [.ref 2, .int 0]))) : ax_Ca (mgT L xs) (d + 1) 15 [.ref 1] h (.inl (some (.int 0)), h) := by
  refine ag_call (Nat.le_of_ble_eq_true rfl) ?_
  show ax_Go (mgT L xs) (d + 0) 15 0 [some (.ref 1)] [] h _
  refine ag_aload_n (d15_0 L xs) rfl ?_
  refine ag_get (d15_1 L xs) (kd := 1) (cj := 1) (k0 := 1) rfl (Or.inl rfl) F1 rfl ?_
  exact ag_iret (d15_4 L xs) rfl rfl
theorem z37_57 (L : Nat) (xs : Nat → Int32) {d : Nat} {h : ax_H} (hz : h.2.1 = 167) : ax_Ca (mgT L xs) (d + 1) 37 [.ref 1, .int 32, .int 0, .int 0] h (.inl (some (.int 0)), h) := by
  refine ag_call (Nat.le_of_ble_eq_true rfl) ?_
  show ax_Go (mgT L xs) (d + 0) 37 0 [some (.ref 1), some (.int 32), some (.int 0), some (.int 0), none] [] h _
  refine ag_iload_n (d37_0 L xs) rfl ?_
  refine ag_istore (d37_1 L xs) (ls' := [some (.ref 1), some (.int 32), some (.int 0), some (.int 0), some (.int 0)]) (Nat.le_of_ble_eq_true rfl) rfl ?_
  refine ag_iload (d37_3 L xs) rfl ?_
  refine ag_iload_n (d37_5 L xs) rfl ?_
  refine ag_icmp_ge (d37_6 L xs) (t := 28) (by decide) (fun _ => ?_) (fun hn => absurd (by decide) hn)
  refine ag_iload_n (d37_28 L xs) rfl ?_
  exact ag_iret (d37_29 L xs) rfl rfl
theorem z38_58 (L : Nat) (xs : Nat → Int32) {d : Nat} {h : ax_H} (hz : h.2.1 = 167) : ax_Ca (mgT L xs) (d + 1) 38 [.ref 1, .int 0, .int 0] h (.inl (some (.int 0)), h) := by
  refine ag_call (Nat.le_of_ble_eq_true rfl) ?_
  show ax_Go (mgT L xs) (d + 0) 38 0 [some (.ref 1), some (.int 0), some (.int 0), none, none, none] [] h _
  refine ag_iload_n (d38_0 L xs) rfl ?_
  refine ag_iload_n (d38_1 L xs) rfl ?_
  refine ag_isub (d38_2 L xs) ?_
  refine ag_top (y := 0) (by decide) ?_
  refine ag_bipush (d38_3 L xs) (x := 48) (by decide) ?_
  refine ag_icmp_le (d38_5 L xs) (t := 10) (by decide) (fun _ => ?_) (fun hn => absurd (by decide) hn)
  refine ag_iconst (d38_10 L xs) (x := 0) (by decide) ?_
  refine ag_istore_n (d38_11 L xs) (ls' := [some (.ref 1), some (.int 0), some (.int 0), some (.int 0), none, none]) (Nat.le_of_ble_eq_true rfl) rfl ?_
  refine ag_iload_n (d38_12 L xs) rfl ?_
  refine ag_istore (d38_13 L xs) (ls' := [some (.ref 1), some (.int 0), some (.int 0), some (.int 0), some (.int 0), none]) (Nat.le_of_ble_eq_true rfl) rfl ?_
  refine ag_iload (d38_15 L xs) rfl ?_
  refine ag_iload_n (d38_17 L xs) rfl ?_
  refine ag_icmp_ge (d38_18 L xs) (t := 72) (by decide) (fun _ => ?_) (fun hn => absurd (by decide) hn)
  refine ag_iload_n (d38_72 L xs) rfl ?_
  refine ag_if_le (d38_73 L xs) (t := 80) (by decide) (fun _ => ?_) (fun hn => absurd (by decide) hn)
  refine ag_iconst (d38_80 L xs) (x := 0) (by decide) ?_
  exact ag_iret (d38_81 L xs) rfl rfl
theorem z36_59 (L : Nat) (xs : Nat → Int32) {d : Nat} {h : ax_H} {s1 : Int32} (hz : h.2.1 = 167) (F0 : h.1 0 = some (.inr (0, [.ref 1, .ref 3, .ref 87, .ref 137]))) (F1 : h.1 1 = some (.inr (1, [.ref 2, .int 0]))) : ax_Ca (mgT L xs) (d + 2) 36 [.ref 0, .int s1] h (.inl (some (.int 0)), h) := by
  refine ag_call (Nat.le_of_ble_eq_true rfl) ?_
  show ax_Go (mgT L xs) (d + 1) 36 0 [some (.ref 0), some (.int s1), none, none] [] h _
  refine ag_aload_n (d36_0 L xs) rfl ?_
  refine ag_get (d36_1 L xs) (kd := 1) (cj := 0) (k0 := 0) rfl (Or.inl rfl) F0 rfl ?_
  refine ag_bipush (d36_4 L xs) (x := 32) (by decide) ?_
  refine ag_iconst (d36_6 L xs) (x := 0) (by decide) ?_
  refine ag_aload_n (d36_7 L xs) rfl ?_
  refine ag_get (d36_8 L xs) (kd := 1) (cj := 0) (k0 := 0) rfl (Or.inl rfl) F0 rfl ?_
  refine ag_invv (d36_11 L xs) (kd := 7) (mj := 15) (n := 0) rfl (Or.inl rfl) (xs := []) (r := [.int 0, .int 32, .ref 1]) rfl rfl F1 rfl (Nat.le_of_ble_eq_true rfl) (z15_56 L xs (d := d + 0) (h := _) hz F1) ?_
  refine ag_invv (d36_14 L xs) (kd := 7) (mj := 37) (n := 3) rfl (Or.inl rfl) (xs := [.int 0, .int 0, .int 32]) (r := []) rfl rfl F1 rfl (Nat.le_of_ble_eq_true rfl) (z37_57 L xs (d := d + 0) (h := _) hz ) ?_
  refine ag_istore_n (d36_17 L xs) (ls' := [some (.ref 0), some (.int s1), some (.int 0), none]) (Nat.le_of_ble_eq_true rfl) rfl ?_
  refine ag_aload_n (d36_18 L xs) rfl ?_
  refine ag_get (d36_19 L xs) (kd := 1) (cj := 0) (k0 := 0) rfl (Or.inl rfl) F0 rfl ?_
  refine ag_iconst (d36_22 L xs) (x := 0) (by decide) ?_
  refine ag_iload_n (d36_23 L xs) rfl ?_
  refine ag_invv (d36_24 L xs) (kd := 7) (mj := 38) (n := 2) rfl (Or.inl rfl) (xs := [.int 0, .int 0]) (r := []) rfl rfl F1 rfl (Nat.le_of_ble_eq_true rfl) (z38_58 L xs (d := d + 0) (h := _) hz ) ?_
  refine ag_if_ne (d36_27 L xs) (t := 32) (by decide) (fun hp => absurd hp (by decide)) (fun _ => ?_)
  refine ag_iconst (d36_30 L xs) (x := 0) (by decide) ?_
  exact ag_iret (d36_31 L xs) rfl rfl
theorem z35_60 (L : Nat) (xs : Nat → Int32) {d : Nat} {h : ax_H} {s1 : Int32} (hz : h.2.1 = 167) (F0 : h.1 0 = some (.inr (0, [.ref 1, .ref 3, .ref 87, .ref 137]))) (F1 : h.1 1 = some (.inr (1, [.ref 2, .int 0]))) : ax_Ca (mgT L xs) (d + 3) 35 [.ref 0, .int s1] h (.inr 1, (ax_one h)) := by
  refine ag_callT (Nat.le_of_ble_eq_true rfl) ?_
  show ax_Go (mgT L xs) (d + 2) 35 0 [some (.ref 0), some (.int s1)] [] h _
  refine ag_aload_n (d35_0 L xs) rfl ?_
  refine ag_iload_n (d35_1 L xs) rfl ?_
  refine ag_invv (d35_2 L xs) (kd := 7) (mj := 36) (n := 1) rfl (Or.inl rfl) (xs := [.int s1]) (r := []) rfl rfl F0 rfl (Nat.le_of_ble_eq_true rfl) (z36_59 L xs (d := d + 0) (h := _) (s1 := s1) hz F0 F1) ?_
  refine ag_if_ne (d35_5 L xs) (t := 16) (by decide) (fun hp => absurd hp (by decide)) (fun _ => ?_)
  exact ag_thr (d35_8 L xs) rfl (d35_11 L xs) (d35_12 L xs) (d35_15 L xs) (by rw [hz]; decide) (Nat.le_of_ble_eq_true rfl) rfl
theorem z1_61 (L : Nat) (xs : Nat → Int32) {d : Nat} {h : ax_H} {s1 : Int32} (hz : h.2.1 = 167) (F0 : h.1 0 = some (.inr (0, [.ref 1, .ref 3, .ref 87, .ref 137]))) (F1 : h.1 1 = some (.inr (1, [.ref 2, .int 0]))) : ax_Ca (mgT L xs) (d + 4) 1 [.ref 0, .int s1, .ref 166] h (.inl (some (.int 1)), (ax_one h)) := by
  refine ag_call (Nat.le_of_ble_eq_true rfl) ?_
  show ax_Go (mgT L xs) (d + 3) 1 0 [some (.ref 0), some (.int s1), some (.ref 166), none] [] h _
  refine ag_aload_n (d1_0 L xs) rfl ?_
  refine ag_iconst (d1_1 L xs) (x := 0) (by decide) ?_
  refine ag_aload_n (d1_2 L xs) rfl ?_
  refine ag_iload_n (d1_3 L xs) rfl ?_
  refine ag_invc (d1_4 L xs) (mj := 35) (n := 1) rfl (xs := [.int s1]) (r := [.int 0, .ref 166]) rfl rfl F0 rfl (Nat.le_of_ble_eq_true rfl) (z35_60 L xs (d := d + 0) (h := _) (s1 := s1) hz F0 F1) (pc' := 12) rfl ?_
  refine ag_ref (b := 167) (by show (ax_one h).2.1 - 1 = _; rw [(ax_one_sz hz)]) ?_
  refine ag_astore_n (d1_12 L xs) (ls' := [some (.ref 0), some (.int s1), some (.ref 166), some (.ref 167)]) (Nat.le_of_ble_eq_true rfl) rfl ?_
  refine ag_iconst (d1_13 L xs) (x := 1) (by decide) ?_
  exact ag_iret (d1_14 L xs) rfl rfl
theorem z105_62 (L : Nat) (xs : Nat → Int32) {d : Nat} {h : ax_H} (hz : h.2.1 = 168) (F141 : h.1 141 = some (.inr (9, [.int 1, .int 0, .ref 142, .int 0, .ref 143, .ref 144, .ref 145, .ref 146, .ref 147, .int 0, .int 0, .ref 148, .int 0, .ref 149, .int 0, .int 0, .ref 150, .int 0, .ref 151, .int 0, .ref 152, .ref 153, .int 0, .int 0, .ref 154, .ref 155, .ref 156, .ref 157, .ref 158, .ref 159, .ref 160, .ref 161, .ref 162, .int 0, .int 0, .int 0, .int 0, .int 0, .int 0, .int 0, .int 0, .int 0, .ref 163, .int 0, .int 0, .int 0, .int 0, .ref 164, .ref 165]))) : ax_Ca (mgT L xs) (d + 1) 105 [.ref 141] h (.inl (some (.int 1)), h) := by
  refine ag_call (Nat.le_of_ble_eq_true rfl) ?_
  show ax_Go (mgT L xs) (d + 0) 105 0 [some (.ref 141)] [] h _
  refine ag_aload_n (d105_0 L xs) rfl ?_
  refine ag_get (d105_1 L xs) (kd := 1) (cj := 9) (k0 := 0) rfl (Or.inl rfl) F141 rfl ?_
  exact ag_iret (d105_4 L xs) rfl rfl
theorem z0_63 (xs : Nat → Int32) {d : Nat} {h : ax_H} {s0 : Int32} (hs0 : xs 0 = s0) {s1 : Int32} (hs1 : xs 1 = s1) (hz : h.2.1 = 167) (F0 : h.1 0 = some (.inr (0, [.ref 1, .ref 3, .ref 87, .ref 137]))) (F1 : h.1 1 = some (.inr (1, [.ref 2, .int 0]))) (F141 : h.1 141 = some (.inr (9, [.int 0, .int 0, .ref 142, .int 0, .ref 143, .ref 144, .ref 145, .ref 146, .ref 147, .int 0, .int 0, .ref 148, .int 0, .ref 149, .int 0, .int 0, .ref 150, .int 0, .ref 151, .int 0, .ref 152, .ref 153, .int 0, .int 0, .ref 154, .ref 155, .ref 156, .ref 157, .ref 158, .ref 159, .ref 160, .ref 161, .ref 162, .int 0, .int 0, .int 0, .int 0, .int 0, .int 0, .int 0, .int 0, .int 0, .ref 163, .int 0, .int 0, .int 0, .int 0, .ref 164, .ref 165]))) (hc_3 : s1 < 0) (hj : s0 &&& 15 = 3) : ax_Go (mgT 3 xs) (d + 4) 0 23 [some (.ref ax_big), some (.ref 0), some (.ref 141), some (.ref 166), some (.int 0), none, none] [] h (.inl (some (.int 1)), (ax_up (ax_one h) 141 (.inr (9, [.int 1, .int 0, .ref 142, .int 0, .ref 143, .ref 144, .ref 145, .ref 146, .ref 147, .int 0, .int 0, .ref 148, .int 0, .ref 149, .int 0, .int 0, .ref 150, .int 0, .ref 151, .int 0, .ref 152, .ref 153, .int 0, .int 0, .ref 154, .ref 155, .ref 156, .ref 157, .ref 158, .ref 159, .ref 160, .ref 161, .ref 162, .int 0, .int 0, .int 0, .int 0, .int 0, .int 0, .int 0, .int 0, .int 0, .ref 163, .int 0, .int 0, .int 0, .int 0, .ref 164, .ref 165])))) := by
  refine ag_iload (d0_23 3 xs) rfl ?_
  refine ag_aload_n (d0_25 3 xs) rfl ?_
  refine ag_slen rfl (d0_26 3 xs) ?_
  refine ag_top (y := 3) (by decide) ?_
  refine ag_iconst (d0_27 3 xs) (x := 3) (by decide) ?_
  refine ag_isub (d0_28 3 xs) ?_
  refine ag_top (y := 0) (by decide) ?_
  refine ag_icmp_gt (d0_29 3 xs) (t := 447) (by decide) (fun hp => absurd hp (by decide)) (fun _ => ?_)
  refine ag_aload_n (d0_32 3 xs) rfl ?_
  refine ag_iload (d0_33 3 xs) rfl ?_
  refine ag_sald rfl (d0_35 3 xs) (x := s0) (show ¬ ((0 : Int32) < 0 ∨ 3 ≤ (0 : Int32).toNatClampNeg) from by decide) hs0 ?_
  refine ag_bipush (d0_36 3 xs) (x := 15) (by decide) ?_
  refine ag_iand (d0_38 3 xs) ?_
  refine ag_top (y := 3) hj ?_
  refine ag_tswIn (d0_39 3 xs) (of := 134) (t := 173) (by decide) (by decide) (by decide) ?_
  refine ag_aload_n (d0_173 3 xs) rfl ?_
  refine ag_aload_n (d0_174 3 xs) rfl ?_
  refine ag_iload (d0_175 3 xs) rfl ?_
  refine ag_iconst (d0_177 3 xs) (x := 1) (by decide) ?_
  refine ag_iadd (d0_178 3 xs) ?_
  refine ag_top (y := 1) (by decide) ?_
  refine ag_sald rfl (d0_179 3 xs) (x := s1) (show ¬ ((1 : Int32) < 0 ∨ 3 ≤ (1 : Int32).toNatClampNeg) from by decide) hs1 ?_
  refine ag_aload_n (d0_180 3 xs) rfl ?_
  refine ag_invs (d0_181 3 xs) (kd := 26) (mj := 1) (n := 3) rfl (Or.inr (Or.inr rfl)) (xs := [.ref 166, .int s1, .ref 0]) (r := []) rfl rfl (Nat.le_of_ble_eq_true rfl) (z1_61 3 xs (d := d + 0) (h := _) (s1 := s1) hz F0 F1) ?_
  refine ag_istore (d0_184 3 xs) (ls' := [some (.ref ax_big), some (.ref 0), some (.ref 141), some (.ref 166), some (.int 0), some (.int 1), none]) (Nat.le_of_ble_eq_true rfl) rfl ?_
  refine ag_aload_n (d0_186 3 xs) rfl ?_
  refine ag_aload_n (d0_187 3 xs) rfl ?_
  refine ag_iload (d0_188 3 xs) rfl ?_
  refine ag_iconst (d0_190 3 xs) (x := 1) (by decide) ?_
  refine ag_iadd (d0_191 3 xs) ?_
  refine ag_top (y := 1) (by decide) ?_
  refine ag_sald rfl (d0_192 3 xs) (x := s1) (show ¬ ((1 : Int32) < 0 ∨ 3 ≤ (1 : Int32).toNatClampNeg) from by decide) hs1 ?_
  refine ag_invv (d0_193 3 xs) (kd := 7) (mj := 109) (n := 1) rfl (Or.inl rfl) (xs := [.int s1]) (r := []) rfl rfl ((ax_one_at _ 141).trans F141) rfl (Nat.le_of_ble_eq_true rfl) (z109_52 3 xs (d := d + 3) (h := _) (s1 := s1) (ax_one_sz hz) ((ax_one_at _ 141).trans F141) hc_3) ?_
  refine ag_istore (d0_196 3 xs) (ls' := [some (.ref ax_big), some (.ref 0), some (.ref 141), some (.ref 166), some (.int 0), some (.int 1), some (.int 0)]) (Nat.le_of_ble_eq_true rfl) rfl ?_
  refine ag_aload_n (d0_198 3 xs) rfl ?_
  refine ag_invv (d0_199 3 xs) (kd := 7) (mj := 105) (n := 0) rfl (Or.inl rfl) (xs := []) (r := []) rfl rfl (ax_up_at _ _ _) rfl (Nat.le_of_ble_eq_true rfl) (z105_62 3 xs (d := d + 3) (h := _) (ax_one_sz hz) (ax_up_at _ _ _)) ?_
  refine ag_iload (d0_202 3 xs) rfl ?_
  refine ag_icmp_eq (d0_204 3 xs) (t := 209) (by decide) (fun _ => ?_) (fun hn => absurd (by decide) hn)
  refine ag_iload (d0_209 3 xs) rfl ?_
  refine ag_if_ne (d0_211 3 xs) (t := 226) (by decide) (fun _ => ?_) (fun hn => absurd (by decide) hn)
  refine ag_goto (d0_226 3 xs) (t := 441) (by decide) ?_
  refine ag_iinc (d0_441 3 xs) (y := 3) (ls' := [some (.ref ax_big), some (.ref 0), some (.ref 141), some (.ref 166), some (.int 3), some (.int 1), some (.int 0)]) rfl (by decide) rfl ?_
  refine ag_goto (d0_444 3 xs) (t := 23) (by decide) ?_
  refine ag_iload (d0_23 3 xs) rfl ?_
  refine ag_aload_n (d0_25 3 xs) rfl ?_
  refine ag_slen rfl (d0_26 3 xs) ?_
  refine ag_top (y := 3) (by decide) ?_
  refine ag_iconst (d0_27 3 xs) (x := 3) (by decide) ?_
  refine ag_isub (d0_28 3 xs) ?_
  refine ag_top (y := 0) (by decide) ?_
  refine ag_icmp_gt (d0_29 3 xs) (t := 447) (by decide) (fun _ => ?_) (fun hn => absurd (by decide) hn)
  refine ag_iconst (d0_447 3 xs) (x := 1) (by decide) ?_
  exact ag_iret (d0_448 3 xs) rfl rfl
theorem z15_64 (L : Nat) (xs : Nat → Int32) {d : Nat} {h : ax_H} (hz : h.2.1 = 167) (F1 : h.1 1 = some (.inr (1, [.ref 2, .int 0]))) : ax_Ca (mgT L xs) (d + 1) 15 [.ref 1] h (.inl (some (.int 0)), h) := by
  refine ag_call (Nat.le_of_ble_eq_true rfl) ?_
  show ax_Go (mgT L xs) (d + 0) 15 0 [some (.ref 1)] [] h _
  refine ag_aload_n (d15_0 L xs) rfl ?_
  refine ag_get (d15_1 L xs) (kd := 1) (cj := 1) (k0 := 1) rfl (Or.inl rfl) F1 rfl ?_
  exact ag_iret (d15_4 L xs) rfl rfl
theorem z37_65 (L : Nat) (xs : Nat → Int32) {d : Nat} {h : ax_H} (hz : h.2.1 = 167) : ax_Ca (mgT L xs) (d + 1) 37 [.ref 1, .int 32, .int 0, .int 0] h (.inl (some (.int 0)), h) := by
  refine ag_call (Nat.le_of_ble_eq_true rfl) ?_
  show ax_Go (mgT L xs) (d + 0) 37 0 [some (.ref 1), some (.int 32), some (.int 0), some (.int 0), none] [] h _
  refine ag_iload_n (d37_0 L xs) rfl ?_
  refine ag_istore (d37_1 L xs) (ls' := [some (.ref 1), some (.int 32), some (.int 0), some (.int 0), some (.int 0)]) (Nat.le_of_ble_eq_true rfl) rfl ?_
  refine ag_iload (d37_3 L xs) rfl ?_
  refine ag_iload_n (d37_5 L xs) rfl ?_
  refine ag_icmp_ge (d37_6 L xs) (t := 28) (by decide) (fun _ => ?_) (fun hn => absurd (by decide) hn)
  refine ag_iload_n (d37_28 L xs) rfl ?_
  exact ag_iret (d37_29 L xs) rfl rfl
theorem z38_66 (L : Nat) (xs : Nat → Int32) {d : Nat} {h : ax_H} (hz : h.2.1 = 167) : ax_Ca (mgT L xs) (d + 1) 38 [.ref 1, .int 0, .int 0] h (.inl (some (.int 0)), h) := by
  refine ag_call (Nat.le_of_ble_eq_true rfl) ?_
  show ax_Go (mgT L xs) (d + 0) 38 0 [some (.ref 1), some (.int 0), some (.int 0), none, none, none] [] h _
  refine ag_iload_n (d38_0 L xs) rfl ?_
  refine ag_iload_n (d38_1 L xs) rfl ?_
  refine ag_isub (d38_2 L xs) ?_
  refine ag_top (y := 0) (by decide) ?_
  refine ag_bipush (d38_3 L xs) (x := 48) (by decide) ?_
  refine ag_icmp_le (d38_5 L xs) (t := 10) (by decide) (fun _ => ?_) (fun hn => absurd (by decide) hn)
  refine ag_iconst (d38_10 L xs) (x := 0) (by decide) ?_
  refine ag_istore_n (d38_11 L xs) (ls' := [some (.ref 1), some (.int 0), some (.int 0), some (.int 0), none, none]) (Nat.le_of_ble_eq_true rfl) rfl ?_
  refine ag_iload_n (d38_12 L xs) rfl ?_
  refine ag_istore (d38_13 L xs) (ls' := [some (.ref 1), some (.int 0), some (.int 0), some (.int 0), some (.int 0), none]) (Nat.le_of_ble_eq_true rfl) rfl ?_
  refine ag_iload (d38_15 L xs) rfl ?_
  refine ag_iload_n (d38_17 L xs) rfl ?_
  refine ag_icmp_ge (d38_18 L xs) (t := 72) (by decide) (fun _ => ?_) (fun hn => absurd (by decide) hn)
  refine ag_iload_n (d38_72 L xs) rfl ?_
  refine ag_if_le (d38_73 L xs) (t := 80) (by decide) (fun _ => ?_) (fun hn => absurd (by decide) hn)
  refine ag_iconst (d38_80 L xs) (x := 0) (by decide) ?_
  exact ag_iret (d38_81 L xs) rfl rfl
theorem z36_67 (L : Nat) (xs : Nat → Int32) {d : Nat} {h : ax_H} {s1 : Int32} (hz : h.2.1 = 167) (F0 : h.1 0 = some (.inr (0, [.ref 1, .ref 3, .ref 87, .ref 137]))) (F1 : h.1 1 = some (.inr (1, [.ref 2, .int 0]))) : ax_Ca (mgT L xs) (d + 2) 36 [.ref 0, .int s1] h (.inl (some (.int 0)), h) := by
  refine ag_call (Nat.le_of_ble_eq_true rfl) ?_
  show ax_Go (mgT L xs) (d + 1) 36 0 [some (.ref 0), some (.int s1), none, none] [] h _
  refine ag_aload_n (d36_0 L xs) rfl ?_
  refine ag_get (d36_1 L xs) (kd := 1) (cj := 0) (k0 := 0) rfl (Or.inl rfl) F0 rfl ?_
  refine ag_bipush (d36_4 L xs) (x := 32) (by decide) ?_
  refine ag_iconst (d36_6 L xs) (x := 0) (by decide) ?_
  refine ag_aload_n (d36_7 L xs) rfl ?_
  refine ag_get (d36_8 L xs) (kd := 1) (cj := 0) (k0 := 0) rfl (Or.inl rfl) F0 rfl ?_
  refine ag_invv (d36_11 L xs) (kd := 7) (mj := 15) (n := 0) rfl (Or.inl rfl) (xs := []) (r := [.int 0, .int 32, .ref 1]) rfl rfl F1 rfl (Nat.le_of_ble_eq_true rfl) (z15_64 L xs (d := d + 0) (h := _) hz F1) ?_
  refine ag_invv (d36_14 L xs) (kd := 7) (mj := 37) (n := 3) rfl (Or.inl rfl) (xs := [.int 0, .int 0, .int 32]) (r := []) rfl rfl F1 rfl (Nat.le_of_ble_eq_true rfl) (z37_65 L xs (d := d + 0) (h := _) hz ) ?_
  refine ag_istore_n (d36_17 L xs) (ls' := [some (.ref 0), some (.int s1), some (.int 0), none]) (Nat.le_of_ble_eq_true rfl) rfl ?_
  refine ag_aload_n (d36_18 L xs) rfl ?_
  refine ag_get (d36_19 L xs) (kd := 1) (cj := 0) (k0 := 0) rfl (Or.inl rfl) F0 rfl ?_
  refine ag_iconst (d36_22 L xs) (x := 0) (by decide) ?_
  refine ag_iload_n (d36_23 L xs) rfl ?_
  refine ag_invv (d36_24 L xs) (kd := 7) (mj := 38) (n := 2) rfl (Or.inl rfl) (xs := [.int 0, .int 0]) (r := []) rfl rfl F1 rfl (Nat.le_of_ble_eq_true rfl) (z38_66 L xs (d := d + 0) (h := _) hz ) ?_
  refine ag_if_ne (d36_27 L xs) (t := 32) (by decide) (fun hp => absurd hp (by decide)) (fun _ => ?_)
  refine ag_iconst (d36_30 L xs) (x := 0) (by decide) ?_
  exact ag_iret (d36_31 L xs) rfl rfl
theorem z35_68 (L : Nat) (xs : Nat → Int32) {d : Nat} {h : ax_H} {s1 : Int32} (hz : h.2.1 = 167) (F0 : h.1 0 = some (.inr (0, [.ref 1, .ref 3, .ref 87, .ref 137]))) (F1 : h.1 1 = some (.inr (1, [.ref 2, .int 0]))) : ax_Ca (mgT L xs) (d + 3) 35 [.ref 0, .int s1] h (.inr 1, (ax_one h)) := by
  refine ag_callT (Nat.le_of_ble_eq_true rfl) ?_
  show ax_Go (mgT L xs) (d + 2) 35 0 [some (.ref 0), some (.int s1)] [] h _
  refine ag_aload_n (d35_0 L xs) rfl ?_
  refine ag_iload_n (d35_1 L xs) rfl ?_
  refine ag_invv (d35_2 L xs) (kd := 7) (mj := 36) (n := 1) rfl (Or.inl rfl) (xs := [.int s1]) (r := []) rfl rfl F0 rfl (Nat.le_of_ble_eq_true rfl) (z36_67 L xs (d := d + 0) (h := _) (s1 := s1) hz F0 F1) ?_
  refine ag_if_ne (d35_5 L xs) (t := 16) (by decide) (fun hp => absurd hp (by decide)) (fun _ => ?_)
  exact ag_thr (d35_8 L xs) rfl (d35_11 L xs) (d35_12 L xs) (d35_15 L xs) (by rw [hz]; decide) (Nat.le_of_ble_eq_true rfl) rfl
theorem z1_69 (L : Nat) (xs : Nat → Int32) {d : Nat} {h : ax_H} {s1 : Int32} (hz : h.2.1 = 167) (F0 : h.1 0 = some (.inr (0, [.ref 1, .ref 3, .ref 87, .ref 137]))) (F1 : h.1 1 = some (.inr (1, [.ref 2, .int 0]))) : ax_Ca (mgT L xs) (d + 4) 1 [.ref 0, .int s1, .ref 166] h (.inl (some (.int 1)), (ax_one h)) := by
  refine ag_call (Nat.le_of_ble_eq_true rfl) ?_
  show ax_Go (mgT L xs) (d + 3) 1 0 [some (.ref 0), some (.int s1), some (.ref 166), none] [] h _
  refine ag_aload_n (d1_0 L xs) rfl ?_
  refine ag_iconst (d1_1 L xs) (x := 0) (by decide) ?_
  refine ag_aload_n (d1_2 L xs) rfl ?_
  refine ag_iload_n (d1_3 L xs) rfl ?_
  refine ag_invc (d1_4 L xs) (mj := 35) (n := 1) rfl (xs := [.int s1]) (r := [.int 0, .ref 166]) rfl rfl F0 rfl (Nat.le_of_ble_eq_true rfl) (z35_68 L xs (d := d + 0) (h := _) (s1 := s1) hz F0 F1) (pc' := 12) rfl ?_
  refine ag_ref (b := 167) (by show (ax_one h).2.1 - 1 = _; rw [(ax_one_sz hz)]) ?_
  refine ag_astore_n (d1_12 L xs) (ls' := [some (.ref 0), some (.int s1), some (.ref 166), some (.ref 167)]) (Nat.le_of_ble_eq_true rfl) rfl ?_
  refine ag_iconst (d1_13 L xs) (x := 1) (by decide) ?_
  exact ag_iret (d1_14 L xs) rfl rfl
theorem z15_70 (L : Nat) (xs : Nat → Int32) {d : Nat} {h : ax_H} (hz : h.2.1 = 167) (F1 : h.1 1 = some (.inr (1, [.ref 2, .int 0]))) : ax_Ca (mgT L xs) (d + 1) 15 [.ref 1] h (.inl (some (.int 0)), h) := by
  refine ag_call (Nat.le_of_ble_eq_true rfl) ?_
  show ax_Go (mgT L xs) (d + 0) 15 0 [some (.ref 1)] [] h _
  refine ag_aload_n (d15_0 L xs) rfl ?_
  refine ag_get (d15_1 L xs) (kd := 1) (cj := 1) (k0 := 1) rfl (Or.inl rfl) F1 rfl ?_
  exact ag_iret (d15_4 L xs) rfl rfl
theorem z37_71 (L : Nat) (xs : Nat → Int32) {d : Nat} {h : ax_H} (hz : h.2.1 = 167) : ax_Ca (mgT L xs) (d + 1) 37 [.ref 1, .int 32, .int 0, .int 0] h (.inl (some (.int 0)), h) := by
  refine ag_call (Nat.le_of_ble_eq_true rfl) ?_
  show ax_Go (mgT L xs) (d + 0) 37 0 [some (.ref 1), some (.int 32), some (.int 0), some (.int 0), none] [] h _
  refine ag_iload_n (d37_0 L xs) rfl ?_
  refine ag_istore (d37_1 L xs) (ls' := [some (.ref 1), some (.int 32), some (.int 0), some (.int 0), some (.int 0)]) (Nat.le_of_ble_eq_true rfl) rfl ?_
  refine ag_iload (d37_3 L xs) rfl ?_
  refine ag_iload_n (d37_5 L xs) rfl ?_
  refine ag_icmp_ge (d37_6 L xs) (t := 28) (by decide) (fun _ => ?_) (fun hn => absurd (by decide) hn)
  refine ag_iload_n (d37_28 L xs) rfl ?_
  exact ag_iret (d37_29 L xs) rfl rfl
theorem z38_72 (L : Nat) (xs : Nat → Int32) {d : Nat} {h : ax_H} (hz : h.2.1 = 167) : ax_Ca (mgT L xs) (d + 1) 38 [.ref 1, .int 0, .int 0] h (.inl (some (.int 0)), h) := by
  refine ag_call (Nat.le_of_ble_eq_true rfl) ?_
  show ax_Go (mgT L xs) (d + 0) 38 0 [some (.ref 1), some (.int 0), some (.int 0), none, none, none] [] h _
  refine ag_iload_n (d38_0 L xs) rfl ?_
  refine ag_iload_n (d38_1 L xs) rfl ?_
  refine ag_isub (d38_2 L xs) ?_
  refine ag_top (y := 0) (by decide) ?_
  refine ag_bipush (d38_3 L xs) (x := 48) (by decide) ?_
  refine ag_icmp_le (d38_5 L xs) (t := 10) (by decide) (fun _ => ?_) (fun hn => absurd (by decide) hn)
  refine ag_iconst (d38_10 L xs) (x := 0) (by decide) ?_
  refine ag_istore_n (d38_11 L xs) (ls' := [some (.ref 1), some (.int 0), some (.int 0), some (.int 0), none, none]) (Nat.le_of_ble_eq_true rfl) rfl ?_
  refine ag_iload_n (d38_12 L xs) rfl ?_
  refine ag_istore (d38_13 L xs) (ls' := [some (.ref 1), some (.int 0), some (.int 0), some (.int 0), some (.int 0), none]) (Nat.le_of_ble_eq_true rfl) rfl ?_
  refine ag_iload (d38_15 L xs) rfl ?_
  refine ag_iload_n (d38_17 L xs) rfl ?_
  refine ag_icmp_ge (d38_18 L xs) (t := 72) (by decide) (fun _ => ?_) (fun hn => absurd (by decide) hn)
  refine ag_iload_n (d38_72 L xs) rfl ?_
  refine ag_if_le (d38_73 L xs) (t := 80) (by decide) (fun _ => ?_) (fun hn => absurd (by decide) hn)
  refine ag_iconst (d38_80 L xs) (x := 0) (by decide) ?_
  exact ag_iret (d38_81 L xs) rfl rfl
theorem z36_73 (L : Nat) (xs : Nat → Int32) {d : Nat} {h : ax_H} {s1 : Int32} (hz : h.2.1 = 167) (F0 : h.1 0 = some (.inr (0, [.ref 1, .ref 3, .ref 87, .ref 137]))) (F1 : h.1 1 = some (.inr (1, [.ref 2, .int 0]))) : ax_Ca (mgT L xs) (d + 2) 36 [.ref 0, .int s1] h (.inl (some (.int 0)), h) := by
  refine ag_call (Nat.le_of_ble_eq_true rfl) ?_
  show ax_Go (mgT L xs) (d + 1) 36 0 [some (.ref 0), some (.int s1), none, none] [] h _
  refine ag_aload_n (d36_0 L xs) rfl ?_
  refine ag_get (d36_1 L xs) (kd := 1) (cj := 0) (k0 := 0) rfl (Or.inl rfl) F0 rfl ?_
  refine ag_bipush (d36_4 L xs) (x := 32) (by decide) ?_
  refine ag_iconst (d36_6 L xs) (x := 0) (by decide) ?_
  refine ag_aload_n (d36_7 L xs) rfl ?_
  refine ag_get (d36_8 L xs) (kd := 1) (cj := 0) (k0 := 0) rfl (Or.inl rfl) F0 rfl ?_
  refine ag_invv (d36_11 L xs) (kd := 7) (mj := 15) (n := 0) rfl (Or.inl rfl) (xs := []) (r := [.int 0, .int 32, .ref 1]) rfl rfl F1 rfl (Nat.le_of_ble_eq_true rfl) (z15_70 L xs (d := d + 0) (h := _) hz F1) ?_
  refine ag_invv (d36_14 L xs) (kd := 7) (mj := 37) (n := 3) rfl (Or.inl rfl) (xs := [.int 0, .int 0, .int 32]) (r := []) rfl rfl F1 rfl (Nat.le_of_ble_eq_true rfl) (z37_71 L xs (d := d + 0) (h := _) hz ) ?_
  refine ag_istore_n (d36_17 L xs) (ls' := [some (.ref 0), some (.int s1), some (.int 0), none]) (Nat.le_of_ble_eq_true rfl) rfl ?_
  refine ag_aload_n (d36_18 L xs) rfl ?_
  refine ag_get (d36_19 L xs) (kd := 1) (cj := 0) (k0 := 0) rfl (Or.inl rfl) F0 rfl ?_
  refine ag_iconst (d36_22 L xs) (x := 0) (by decide) ?_
  refine ag_iload_n (d36_23 L xs) rfl ?_
  refine ag_invv (d36_24 L xs) (kd := 7) (mj := 38) (n := 2) rfl (Or.inl rfl) (xs := [.int 0, .int 0]) (r := []) rfl rfl F1 rfl (Nat.le_of_ble_eq_true rfl) (z38_72 L xs (d := d + 0) (h := _) hz ) ?_
  refine ag_if_ne (d36_27 L xs) (t := 32) (by decide) (fun hp => absurd hp (by decide)) (fun _ => ?_)
  refine ag_iconst (d36_30 L xs) (x := 0) (by decide) ?_
  exact ag_iret (d36_31 L xs) rfl rfl
theorem z35_74 (L : Nat) (xs : Nat → Int32) {d : Nat} {h : ax_H} {s1 : Int32} (hz : h.2.1 = 167) (F0 : h.1 0 = some (.inr (0, [.ref 1, .ref 3, .ref 87, .ref 137]))) (F1 : h.1 1 = some (.inr (1, [.ref 2, .int 0]))) : ax_Ca (mgT L xs) (d + 3) 35 [.ref 0, .int s1] h (.inr 1, (ax_one h)) := by
  refine ag_callT (Nat.le_of_ble_eq_true rfl) ?_
  show ax_Go (mgT L xs) (d + 2) 35 0 [some (.ref 0), some (.int s1)] [] h _
  refine ag_aload_n (d35_0 L xs) rfl ?_
  refine ag_iload_n (d35_1 L xs) rfl ?_
  refine ag_invv (d35_2 L xs) (kd := 7) (mj := 36) (n := 1) rfl (Or.inl rfl) (xs := [.int s1]) (r := []) rfl rfl F0 rfl (Nat.le_of_ble_eq_true rfl) (z36_73 L xs (d := d + 0) (h := _) (s1 := s1) hz F0 F1) ?_
  refine ag_if_ne (d35_5 L xs) (t := 16) (by decide) (fun hp => absurd hp (by decide)) (fun _ => ?_)
  exact ag_thr (d35_8 L xs) rfl (d35_11 L xs) (d35_12 L xs) (d35_15 L xs) (by rw [hz]; decide) (Nat.le_of_ble_eq_true rfl) rfl
theorem z1_75 (L : Nat) (xs : Nat → Int32) {d : Nat} {h : ax_H} {s1 : Int32} (hz : h.2.1 = 167) (F0 : h.1 0 = some (.inr (0, [.ref 1, .ref 3, .ref 87, .ref 137]))) (F1 : h.1 1 = some (.inr (1, [.ref 2, .int 0]))) : ax_Ca (mgT L xs) (d + 4) 1 [.ref 0, .int s1, .ref 166] h (.inl (some (.int 1)), (ax_one h)) := by
  refine ag_call (Nat.le_of_ble_eq_true rfl) ?_
  show ax_Go (mgT L xs) (d + 3) 1 0 [some (.ref 0), some (.int s1), some (.ref 166), none] [] h _
  refine ag_aload_n (d1_0 L xs) rfl ?_
  refine ag_iconst (d1_1 L xs) (x := 0) (by decide) ?_
  refine ag_aload_n (d1_2 L xs) rfl ?_
  refine ag_iload_n (d1_3 L xs) rfl ?_
  refine ag_invc (d1_4 L xs) (mj := 35) (n := 1) rfl (xs := [.int s1]) (r := [.int 0, .ref 166]) rfl rfl F0 rfl (Nat.le_of_ble_eq_true rfl) (z35_74 L xs (d := d + 0) (h := _) (s1 := s1) hz F0 F1) (pc' := 12) rfl ?_
  refine ag_ref (b := 167) (by show (ax_one h).2.1 - 1 = _; rw [(ax_one_sz hz)]) ?_
  refine ag_astore_n (d1_12 L xs) (ls' := [some (.ref 0), some (.int s1), some (.ref 166), some (.ref 167)]) (Nat.le_of_ble_eq_true rfl) rfl ?_
  refine ag_iconst (d1_13 L xs) (x := 1) (by decide) ?_
  exact ag_iret (d1_14 L xs) rfl rfl
theorem z105_76 (L : Nat) (xs : Nat → Int32) {d : Nat} {h : ax_H} (hz : h.2.1 = 168) (F141 : h.1 141 = some (.inr (9, [.int 1, .int 0, .ref 142, .int 0, .ref 143, .ref 144, .ref 145, .ref 146, .ref 147, .int 0, .int 0, .ref 148, .int 0, .ref 149, .int 0, .int 0, .ref 150, .int 0, .ref 151, .int 0, .ref 152, .ref 153, .int 0, .int 0, .ref 154, .ref 155, .ref 156, .ref 157, .ref 158, .ref 159, .ref 160, .ref 161, .ref 162, .int 0, .int 0, .int 0, .int 0, .int 0, .int 0, .int 0, .int 0, .int 0, .ref 163, .int 0, .int 0, .int 0, .int 0, .ref 164, .ref 165]))) : ax_Ca (mgT L xs) (d + 1) 105 [.ref 141] h (.inl (some (.int 1)), h) := by
  refine ag_call (Nat.le_of_ble_eq_true rfl) ?_
  show ax_Go (mgT L xs) (d + 0) 105 0 [some (.ref 141)] [] h _
  refine ag_aload_n (d105_0 L xs) rfl ?_
  refine ag_get (d105_1 L xs) (kd := 1) (cj := 9) (k0 := 0) rfl (Or.inl rfl) F141 rfl ?_
  exact ag_iret (d105_4 L xs) rfl rfl
theorem z0_77 (xs : Nat → Int32) {d : Nat} {h : ax_H} {s0 : Int32} (hs0 : xs 0 = s0) {s1 : Int32} (hs1 : xs 1 = s1) (hz : h.2.1 = 167) (F0 : h.1 0 = some (.inr (0, [.ref 1, .ref 3, .ref 87, .ref 137]))) (F1 : h.1 1 = some (.inr (1, [.ref 2, .int 0]))) (F141 : h.1 141 = some (.inr (9, [.int 0, .int 0, .ref 142, .int 0, .ref 143, .ref 144, .ref 145, .ref 146, .ref 147, .int 0, .int 0, .ref 148, .int 0, .ref 149, .int 0, .int 0, .ref 150, .int 0, .ref 151, .int 0, .ref 152, .ref 153, .int 0, .int 0, .ref 154, .ref 155, .ref 156, .ref 157, .ref 158, .ref 159, .ref 160, .ref 161, .ref 162, .int 0, .int 0, .int 0, .int 0, .int 0, .int 0, .int 0, .int 0, .int 0, .ref 163, .int 0, .int 0, .int 0, .int 0, .ref 164, .ref 165]))) (hc_3 : ¬ (s1 < 0)) (hc_4 : 4 < s1) (hj : s0 &&& 15 = 3) : ax_Go (mgT 3 xs) (d + 4) 0 23 [some (.ref ax_big), some (.ref 0), some (.ref 141), some (.ref 166), some (.int 0), none, none] [] h (.inl (some (.int 1)), (ax_up (ax_one h) 141 (.inr (9, [.int 1, .int 0, .ref 142, .int 0, .ref 143, .ref 144, .ref 145, .ref 146, .ref 147, .int 0, .int 0, .ref 148, .int 0, .ref 149, .int 0, .int 0, .ref 150, .int 0, .ref 151, .int 0, .ref 152, .ref 153, .int 0, .int 0, .ref 154, .ref 155, .ref 156, .ref 157, .ref 158, .ref 159, .ref 160, .ref 161, .ref 162, .int 0, .int 0, .int 0, .int 0, .int 0, .int 0, .int 0, .int 0, .int 0, .ref 163, .int 0, .int 0, .int 0, .int 0, .ref 164, .ref 165])))) := by
  refine ag_iload (d0_23 3 xs) rfl ?_
  refine ag_aload_n (d0_25 3 xs) rfl ?_
  refine ag_slen rfl (d0_26 3 xs) ?_
  refine ag_top (y := 3) (by decide) ?_
  refine ag_iconst (d0_27 3 xs) (x := 3) (by decide) ?_
  refine ag_isub (d0_28 3 xs) ?_
  refine ag_top (y := 0) (by decide) ?_
  refine ag_icmp_gt (d0_29 3 xs) (t := 447) (by decide) (fun hp => absurd hp (by decide)) (fun _ => ?_)
  refine ag_aload_n (d0_32 3 xs) rfl ?_
  refine ag_iload (d0_33 3 xs) rfl ?_
  refine ag_sald rfl (d0_35 3 xs) (x := s0) (show ¬ ((0 : Int32) < 0 ∨ 3 ≤ (0 : Int32).toNatClampNeg) from by decide) hs0 ?_
  refine ag_bipush (d0_36 3 xs) (x := 15) (by decide) ?_
  refine ag_iand (d0_38 3 xs) ?_
  refine ag_top (y := 3) hj ?_
  refine ag_tswIn (d0_39 3 xs) (of := 134) (t := 173) (by decide) (by decide) (by decide) ?_
  refine ag_aload_n (d0_173 3 xs) rfl ?_
  refine ag_aload_n (d0_174 3 xs) rfl ?_
  refine ag_iload (d0_175 3 xs) rfl ?_
  refine ag_iconst (d0_177 3 xs) (x := 1) (by decide) ?_
  refine ag_iadd (d0_178 3 xs) ?_
  refine ag_top (y := 1) (by decide) ?_
  refine ag_sald rfl (d0_179 3 xs) (x := s1) (show ¬ ((1 : Int32) < 0 ∨ 3 ≤ (1 : Int32).toNatClampNeg) from by decide) hs1 ?_
  refine ag_aload_n (d0_180 3 xs) rfl ?_
  refine ag_invs (d0_181 3 xs) (kd := 26) (mj := 1) (n := 3) rfl (Or.inr (Or.inr rfl)) (xs := [.ref 166, .int s1, .ref 0]) (r := []) rfl rfl (Nat.le_of_ble_eq_true rfl) (z1_75 3 xs (d := d + 0) (h := _) (s1 := s1) hz F0 F1) ?_
  refine ag_istore (d0_184 3 xs) (ls' := [some (.ref ax_big), some (.ref 0), some (.ref 141), some (.ref 166), some (.int 0), some (.int 1), none]) (Nat.le_of_ble_eq_true rfl) rfl ?_
  refine ag_aload_n (d0_186 3 xs) rfl ?_
  refine ag_aload_n (d0_187 3 xs) rfl ?_
  refine ag_iload (d0_188 3 xs) rfl ?_
  refine ag_iconst (d0_190 3 xs) (x := 1) (by decide) ?_
  refine ag_iadd (d0_191 3 xs) ?_
  refine ag_top (y := 1) (by decide) ?_
  refine ag_sald rfl (d0_192 3 xs) (x := s1) (show ¬ ((1 : Int32) < 0 ∨ 3 ≤ (1 : Int32).toNatClampNeg) from by decide) hs1 ?_
  refine ag_invv (d0_193 3 xs) (kd := 7) (mj := 109) (n := 1) rfl (Or.inl rfl) (xs := [.int s1]) (r := []) rfl rfl ((ax_one_at _ 141).trans F141) rfl (Nat.le_of_ble_eq_true rfl) (z109_53 3 xs (d := d + 3) (h := _) (s1 := s1) (ax_one_sz hz) ((ax_one_at _ 141).trans F141) hc_3 hc_4) ?_
  refine ag_istore (d0_196 3 xs) (ls' := [some (.ref ax_big), some (.ref 0), some (.ref 141), some (.ref 166), some (.int 0), some (.int 1), some (.int 0)]) (Nat.le_of_ble_eq_true rfl) rfl ?_
  refine ag_aload_n (d0_198 3 xs) rfl ?_
  refine ag_invv (d0_199 3 xs) (kd := 7) (mj := 105) (n := 0) rfl (Or.inl rfl) (xs := []) (r := []) rfl rfl (ax_up_at _ _ _) rfl (Nat.le_of_ble_eq_true rfl) (z105_76 3 xs (d := d + 3) (h := _) (ax_one_sz hz) (ax_up_at _ _ _)) ?_
  refine ag_iload (d0_202 3 xs) rfl ?_
  refine ag_icmp_eq (d0_204 3 xs) (t := 209) (by decide) (fun _ => ?_) (fun hn => absurd (by decide) hn)
  refine ag_iload (d0_209 3 xs) rfl ?_
  refine ag_if_ne (d0_211 3 xs) (t := 226) (by decide) (fun _ => ?_) (fun hn => absurd (by decide) hn)
  refine ag_goto (d0_226 3 xs) (t := 441) (by decide) ?_
  refine ag_iinc (d0_441 3 xs) (y := 3) (ls' := [some (.ref ax_big), some (.ref 0), some (.ref 141), some (.ref 166), some (.int 3), some (.int 1), some (.int 0)]) rfl (by decide) rfl ?_
  refine ag_goto (d0_444 3 xs) (t := 23) (by decide) ?_
  refine ag_iload (d0_23 3 xs) rfl ?_
  refine ag_aload_n (d0_25 3 xs) rfl ?_
  refine ag_slen rfl (d0_26 3 xs) ?_
  refine ag_top (y := 3) (by decide) ?_
  refine ag_iconst (d0_27 3 xs) (x := 3) (by decide) ?_
  refine ag_isub (d0_28 3 xs) ?_
  refine ag_top (y := 0) (by decide) ?_
  refine ag_icmp_gt (d0_29 3 xs) (t := 447) (by decide) (fun _ => ?_) (fun hn => absurd (by decide) hn)
  refine ag_iconst (d0_447 3 xs) (x := 1) (by decide) ?_
  exact ag_iret (d0_448 3 xs) rfl rfl
theorem z15_78 (L : Nat) (xs : Nat → Int32) {d : Nat} {h : ax_H} (hz : h.2.1 = 167) (F1 : h.1 1 = some (.inr (1, [.ref 2, .int 0]))) : ax_Ca (mgT L xs) (d + 1) 15 [.ref 1] h (.inl (some (.int 0)), h) := by
  refine ag_call (Nat.le_of_ble_eq_true rfl) ?_
  show ax_Go (mgT L xs) (d + 0) 15 0 [some (.ref 1)] [] h _
  refine ag_aload_n (d15_0 L xs) rfl ?_
  refine ag_get (d15_1 L xs) (kd := 1) (cj := 1) (k0 := 1) rfl (Or.inl rfl) F1 rfl ?_
  exact ag_iret (d15_4 L xs) rfl rfl
theorem z37_79 (L : Nat) (xs : Nat → Int32) {d : Nat} {h : ax_H} (hz : h.2.1 = 167) : ax_Ca (mgT L xs) (d + 1) 37 [.ref 1, .int 32, .int 0, .int 0] h (.inl (some (.int 0)), h) := by
  refine ag_call (Nat.le_of_ble_eq_true rfl) ?_
  show ax_Go (mgT L xs) (d + 0) 37 0 [some (.ref 1), some (.int 32), some (.int 0), some (.int 0), none] [] h _
  refine ag_iload_n (d37_0 L xs) rfl ?_
  refine ag_istore (d37_1 L xs) (ls' := [some (.ref 1), some (.int 32), some (.int 0), some (.int 0), some (.int 0)]) (Nat.le_of_ble_eq_true rfl) rfl ?_
  refine ag_iload (d37_3 L xs) rfl ?_
  refine ag_iload_n (d37_5 L xs) rfl ?_
  refine ag_icmp_ge (d37_6 L xs) (t := 28) (by decide) (fun _ => ?_) (fun hn => absurd (by decide) hn)
  refine ag_iload_n (d37_28 L xs) rfl ?_
  exact ag_iret (d37_29 L xs) rfl rfl
theorem z38_80 (L : Nat) (xs : Nat → Int32) {d : Nat} {h : ax_H} (hz : h.2.1 = 167) : ax_Ca (mgT L xs) (d + 1) 38 [.ref 1, .int 0, .int 0] h (.inl (some (.int 0)), h) := by
  refine ag_call (Nat.le_of_ble_eq_true rfl) ?_
  show ax_Go (mgT L xs) (d + 0) 38 0 [some (.ref 1), some (.int 0), some (.int 0), none, none, none] [] h _
  refine ag_iload_n (d38_0 L xs) rfl ?_
  refine ag_iload_n (d38_1 L xs) rfl ?_
  refine ag_isub (d38_2 L xs) ?_
  refine ag_top (y := 0) (by decide) ?_
  refine ag_bipush (d38_3 L xs) (x := 48) (by decide) ?_
  refine ag_icmp_le (d38_5 L xs) (t := 10) (by decide) (fun _ => ?_) (fun hn => absurd (by decide) hn)
  refine ag_iconst (d38_10 L xs) (x := 0) (by decide) ?_
  refine ag_istore_n (d38_11 L xs) (ls' := [some (.ref 1), some (.int 0), some (.int 0), some (.int 0), none, none]) (Nat.le_of_ble_eq_true rfl) rfl ?_
  refine ag_iload_n (d38_12 L xs) rfl ?_
  refine ag_istore (d38_13 L xs) (ls' := [some (.ref 1), some (.int 0), some (.int 0), some (.int 0), some (.int 0), none]) (Nat.le_of_ble_eq_true rfl) rfl ?_
  refine ag_iload (d38_15 L xs) rfl ?_
  refine ag_iload_n (d38_17 L xs) rfl ?_
  refine ag_icmp_ge (d38_18 L xs) (t := 72) (by decide) (fun _ => ?_) (fun hn => absurd (by decide) hn)
  refine ag_iload_n (d38_72 L xs) rfl ?_
  refine ag_if_le (d38_73 L xs) (t := 80) (by decide) (fun _ => ?_) (fun hn => absurd (by decide) hn)
  refine ag_iconst (d38_80 L xs) (x := 0) (by decide) ?_
  exact ag_iret (d38_81 L xs) rfl rfl
theorem z36_81 (L : Nat) (xs : Nat → Int32) {d : Nat} {h : ax_H} {s1 : Int32} (hz : h.2.1 = 167) (F0 : h.1 0 = some (.inr (0, [.ref 1, .ref 3, .ref 87, .ref 137]))) (F1 : h.1 1 = some (.inr (1, [.ref 2, .int 0]))) : ax_Ca (mgT L xs) (d + 2) 36 [.ref 0, .int s1] h (.inl (some (.int 0)), h) := by
  refine ag_call (Nat.le_of_ble_eq_true rfl) ?_
  show ax_Go (mgT L xs) (d + 1) 36 0 [some (.ref 0), some (.int s1), none, none] [] h _
  refine ag_aload_n (d36_0 L xs) rfl ?_
  refine ag_get (d36_1 L xs) (kd := 1) (cj := 0) (k0 := 0) rfl (Or.inl rfl) F0 rfl ?_
  refine ag_bipush (d36_4 L xs) (x := 32) (by decide) ?_
  refine ag_iconst (d36_6 L xs) (x := 0) (by decide) ?_
  refine ag_aload_n (d36_7 L xs) rfl ?_
  refine ag_get (d36_8 L xs) (kd := 1) (cj := 0) (k0 := 0) rfl (Or.inl rfl) F0 rfl ?_
  refine ag_invv (d36_11 L xs) (kd := 7) (mj := 15) (n := 0) rfl (Or.inl rfl) (xs := []) (r := [.int 0, .int 32, .ref 1]) rfl rfl F1 rfl (Nat.le_of_ble_eq_true rfl) (z15_78 L xs (d := d + 0) (h := _) hz F1) ?_
  refine ag_invv (d36_14 L xs) (kd := 7) (mj := 37) (n := 3) rfl (Or.inl rfl) (xs := [.int 0, .int 0, .int 32]) (r := []) rfl rfl F1 rfl (Nat.le_of_ble_eq_true rfl) (z37_79 L xs (d := d + 0) (h := _) hz ) ?_
  refine ag_istore_n (d36_17 L xs) (ls' := [some (.ref 0), some (.int s1), some (.int 0), none]) (Nat.le_of_ble_eq_true rfl) rfl ?_
  refine ag_aload_n (d36_18 L xs) rfl ?_
  refine ag_get (d36_19 L xs) (kd := 1) (cj := 0) (k0 := 0) rfl (Or.inl rfl) F0 rfl ?_
  refine ag_iconst (d36_22 L xs) (x := 0) (by decide) ?_
  refine ag_iload_n (d36_23 L xs) rfl ?_
  refine ag_invv (d36_24 L xs) (kd := 7) (mj := 38) (n := 2) rfl (Or.inl rfl) (xs := [.int 0, .int 0]) (r := []) rfl rfl F1 rfl (Nat.le_of_ble_eq_true rfl) (z38_80 L xs (d := d + 0) (h := _) hz ) ?_
  refine ag_if_ne (d36_27 L xs) (t := 32) (by decide) (fun hp => absurd hp (by decide)) (fun _ => ?_)
  refine ag_iconst (d36_30 L xs) (x := 0) (by decide) ?_
  exact ag_iret (d36_31 L xs) rfl rfl
theorem z35_82 (L : Nat) (xs : Nat → Int32) {d : Nat} {h : ax_H} {s1 : Int32} (hz : h.2.1 = 167) (F0 : h.1 0 = some (.inr (0, [.ref 1, .ref 3, .ref 87, .ref 137]))) (F1 : h.1 1 = some (.inr (1, [.ref 2, .int 0]))) : ax_Ca (mgT L xs) (d + 3) 35 [.ref 0, .int s1] h (.inr 1, (ax_one h)) := by
  refine ag_callT (Nat.le_of_ble_eq_true rfl) ?_
  show ax_Go (mgT L xs) (d + 2) 35 0 [some (.ref 0), some (.int s1)] [] h _
  refine ag_aload_n (d35_0 L xs) rfl ?_
  refine ag_iload_n (d35_1 L xs) rfl ?_
  refine ag_invv (d35_2 L xs) (kd := 7) (mj := 36) (n := 1) rfl (Or.inl rfl) (xs := [.int s1]) (r := []) rfl rfl F0 rfl (Nat.le_of_ble_eq_true rfl) (z36_81 L xs (d := d + 0) (h := _) (s1 := s1) hz F0 F1) ?_
  refine ag_if_ne (d35_5 L xs) (t := 16) (by decide) (fun hp => absurd hp (by decide)) (fun _ => ?_)
  exact ag_thr (d35_8 L xs) rfl (d35_11 L xs) (d35_12 L xs) (d35_15 L xs) (by rw [hz]; decide) (Nat.le_of_ble_eq_true rfl) rfl
theorem z1_83 (L : Nat) (xs : Nat → Int32) {d : Nat} {h : ax_H} {s1 : Int32} (hz : h.2.1 = 167) (F0 : h.1 0 = some (.inr (0, [.ref 1, .ref 3, .ref 87, .ref 137]))) (F1 : h.1 1 = some (.inr (1, [.ref 2, .int 0]))) : ax_Ca (mgT L xs) (d + 4) 1 [.ref 0, .int s1, .ref 166] h (.inl (some (.int 1)), (ax_one h)) := by
  refine ag_call (Nat.le_of_ble_eq_true rfl) ?_
  show ax_Go (mgT L xs) (d + 3) 1 0 [some (.ref 0), some (.int s1), some (.ref 166), none] [] h _
  refine ag_aload_n (d1_0 L xs) rfl ?_
  refine ag_iconst (d1_1 L xs) (x := 0) (by decide) ?_
  refine ag_aload_n (d1_2 L xs) rfl ?_
  refine ag_iload_n (d1_3 L xs) rfl ?_
  refine ag_invc (d1_4 L xs) (mj := 35) (n := 1) rfl (xs := [.int s1]) (r := [.int 0, .ref 166]) rfl rfl F0 rfl (Nat.le_of_ble_eq_true rfl) (z35_82 L xs (d := d + 0) (h := _) (s1 := s1) hz F0 F1) (pc' := 12) rfl ?_
  refine ag_ref (b := 167) (by show (ax_one h).2.1 - 1 = _; rw [(ax_one_sz hz)]) ?_
  refine ag_astore_n (d1_12 L xs) (ls' := [some (.ref 0), some (.int s1), some (.ref 166), some (.ref 167)]) (Nat.le_of_ble_eq_true rfl) rfl ?_
  refine ag_iconst (d1_13 L xs) (x := 1) (by decide) ?_
  exact ag_iret (d1_14 L xs) rfl rfl
theorem z105_84 (L : Nat) (xs : Nat → Int32) {d : Nat} {h : ax_H} (hz : h.2.1 = 168) (F141 : h.1 141 = some (.inr (9, [.int 1, .int 0, .ref 142, .int 0, .ref 143, .ref 144, .ref 145, .ref 146, .ref 147, .int 0, .int 0, .ref 148, .int 0, .ref 149, .int 0, .int 0, .ref 150, .int 0, .ref 151, .int 0, .ref 152, .ref 153, .int 0, .int 0, .ref 154, .ref 155, .ref 156, .ref 157, .ref 158, .ref 159, .ref 160, .ref 161, .ref 162, .int 0, .int 0, .int 0, .int 0, .int 0, .int 0, .int 0, .int 0, .int 0, .ref 163, .int 0, .int 0, .int 0, .int 0, .ref 164, .ref 165]))) : ax_Ca (mgT L xs) (d + 1) 105 [.ref 141] h (.inl (some (.int 1)), h) := by
  refine ag_call (Nat.le_of_ble_eq_true rfl) ?_
  show ax_Go (mgT L xs) (d + 0) 105 0 [some (.ref 141)] [] h _
  refine ag_aload_n (d105_0 L xs) rfl ?_
  refine ag_get (d105_1 L xs) (kd := 1) (cj := 9) (k0 := 0) rfl (Or.inl rfl) F141 rfl ?_
  exact ag_iret (d105_4 L xs) rfl rfl
theorem z0_85 (xs : Nat → Int32) {d : Nat} {h : ax_H} {s0 : Int32} (hs0 : xs 0 = s0) {s1 : Int32} (hs1 : xs 1 = s1) (hz : h.2.1 = 167) (F0 : h.1 0 = some (.inr (0, [.ref 1, .ref 3, .ref 87, .ref 137]))) (F1 : h.1 1 = some (.inr (1, [.ref 2, .int 0]))) (F141 : h.1 141 = some (.inr (9, [.int 0, .int 0, .ref 142, .int 0, .ref 143, .ref 144, .ref 145, .ref 146, .ref 147, .int 0, .int 0, .ref 148, .int 0, .ref 149, .int 0, .int 0, .ref 150, .int 0, .ref 151, .int 0, .ref 152, .ref 153, .int 0, .int 0, .ref 154, .ref 155, .ref 156, .ref 157, .ref 158, .ref 159, .ref 160, .ref 161, .ref 162, .int 0, .int 0, .int 0, .int 0, .int 0, .int 0, .int 0, .int 0, .int 0, .ref 163, .int 0, .int 0, .int 0, .int 0, .ref 164, .ref 165]))) (hc_3 : ¬ (s1 < 0)) (hc_4 : ¬ (4 < s1)) (hj : s0 &&& 15 = 3) : ax_Go (mgT 3 xs) (d + 4) 0 23 [some (.ref ax_big), some (.ref 0), some (.ref 141), some (.ref 166), some (.int 0), none, none] [] h (.inl (some (.int 1)), (ax_up (ax_up (ax_one h) 141 (.inr (9, [.int 0, .int 0, .ref 142, .int 0, .ref 143, .ref 144, .ref 145, .ref 146, .ref 147, .int 0, .int 0, .ref 148, .int 0, .ref 149, .int 0, .int 0, .ref 150, .int 0, .ref 151, .int 0, .ref 152, .ref 153, .int 0, .int 0, .ref 154, .ref 155, .ref 156, .ref 157, .ref 158, .ref 159, .ref 160, .ref 161, .ref 162, .int 0, .int 0, .int 0, .int 0, .int 0, .int 0, .int 0, .int 0, .int 0, .ref 163, .int 0, .int 0, .int 0, .int 0, .ref 164, .ref 165]))) 141 (.inr (9, [.int 1, .int 0, .ref 142, .int 0, .ref 143, .ref 144, .ref 145, .ref 146, .ref 147, .int 0, .int 0, .ref 148, .int 0, .ref 149, .int 0, .int 0, .ref 150, .int 0, .ref 151, .int 0, .ref 152, .ref 153, .int 0, .int 0, .ref 154, .ref 155, .ref 156, .ref 157, .ref 158, .ref 159, .ref 160, .ref 161, .ref 162, .int 0, .int 0, .int 0, .int 0, .int 0, .int 0, .int 0, .int 0, .int 0, .ref 163, .int 0, .int 0, .int 0, .int 0, .ref 164, .ref 165])))) := by
  refine ag_iload (d0_23 3 xs) rfl ?_
  refine ag_aload_n (d0_25 3 xs) rfl ?_
  refine ag_slen rfl (d0_26 3 xs) ?_
  refine ag_top (y := 3) (by decide) ?_
  refine ag_iconst (d0_27 3 xs) (x := 3) (by decide) ?_
  refine ag_isub (d0_28 3 xs) ?_
  refine ag_top (y := 0) (by decide) ?_
  refine ag_icmp_gt (d0_29 3 xs) (t := 447) (by decide) (fun hp => absurd hp (by decide)) (fun _ => ?_)
  refine ag_aload_n (d0_32 3 xs) rfl ?_
  refine ag_iload (d0_33 3 xs) rfl ?_
  refine ag_sald rfl (d0_35 3 xs) (x := s0) (show ¬ ((0 : Int32) < 0 ∨ 3 ≤ (0 : Int32).toNatClampNeg) from by decide) hs0 ?_
  refine ag_bipush (d0_36 3 xs) (x := 15) (by decide) ?_
  refine ag_iand (d0_38 3 xs) ?_
  refine ag_top (y := 3) hj ?_
  refine ag_tswIn (d0_39 3 xs) (of := 134) (t := 173) (by decide) (by decide) (by decide) ?_
  refine ag_aload_n (d0_173 3 xs) rfl ?_
  refine ag_aload_n (d0_174 3 xs) rfl ?_
  refine ag_iload (d0_175 3 xs) rfl ?_
  refine ag_iconst (d0_177 3 xs) (x := 1) (by decide) ?_
  refine ag_iadd (d0_178 3 xs) ?_
  refine ag_top (y := 1) (by decide) ?_
  refine ag_sald rfl (d0_179 3 xs) (x := s1) (show ¬ ((1 : Int32) < 0 ∨ 3 ≤ (1 : Int32).toNatClampNeg) from by decide) hs1 ?_
  refine ag_aload_n (d0_180 3 xs) rfl ?_
  refine ag_invs (d0_181 3 xs) (kd := 26) (mj := 1) (n := 3) rfl (Or.inr (Or.inr rfl)) (xs := [.ref 166, .int s1, .ref 0]) (r := []) rfl rfl (Nat.le_of_ble_eq_true rfl) (z1_83 3 xs (d := d + 0) (h := _) (s1 := s1) hz F0 F1) ?_
  refine ag_istore (d0_184 3 xs) (ls' := [some (.ref ax_big), some (.ref 0), some (.ref 141), some (.ref 166), some (.int 0), some (.int 1), none]) (Nat.le_of_ble_eq_true rfl) rfl ?_
  refine ag_aload_n (d0_186 3 xs) rfl ?_
  refine ag_aload_n (d0_187 3 xs) rfl ?_
  refine ag_iload (d0_188 3 xs) rfl ?_
  refine ag_iconst (d0_190 3 xs) (x := 1) (by decide) ?_
  refine ag_iadd (d0_191 3 xs) ?_
  refine ag_top (y := 1) (by decide) ?_
  refine ag_sald rfl (d0_192 3 xs) (x := s1) (show ¬ ((1 : Int32) < 0 ∨ 3 ≤ (1 : Int32).toNatClampNeg) from by decide) hs1 ?_
  refine ag_invv (d0_193 3 xs) (kd := 7) (mj := 109) (n := 1) rfl (Or.inl rfl) (xs := [.int s1]) (r := []) rfl rfl ((ax_one_at _ 141).trans F141) rfl (Nat.le_of_ble_eq_true rfl) (z109_55 3 xs (d := d + 2) (h := _) (s1 := s1) (ax_one_sz hz) ((ax_one_at _ 141).trans F141) hc_3 hc_4) ?_
  refine ag_istore (d0_196 3 xs) (ls' := [some (.ref ax_big), some (.ref 0), some (.ref 141), some (.ref 166), some (.int 0), some (.int 1), some (.int 0)]) (Nat.le_of_ble_eq_true rfl) rfl ?_
  refine ag_aload_n (d0_198 3 xs) rfl ?_
  refine ag_invv (d0_199 3 xs) (kd := 7) (mj := 105) (n := 0) rfl (Or.inl rfl) (xs := []) (r := []) rfl rfl (ax_up_at _ _ _) rfl (Nat.le_of_ble_eq_true rfl) (z105_84 3 xs (d := d + 3) (h := _) (ax_one_sz hz) (ax_up_at _ _ _)) ?_
  refine ag_iload (d0_202 3 xs) rfl ?_
  refine ag_icmp_eq (d0_204 3 xs) (t := 209) (by decide) (fun _ => ?_) (fun hn => absurd (by decide) hn)
  refine ag_iload (d0_209 3 xs) rfl ?_
  refine ag_if_ne (d0_211 3 xs) (t := 226) (by decide) (fun _ => ?_) (fun hn => absurd (by decide) hn)
  refine ag_goto (d0_226 3 xs) (t := 441) (by decide) ?_
  refine ag_iinc (d0_441 3 xs) (y := 3) (ls' := [some (.ref ax_big), some (.ref 0), some (.ref 141), some (.ref 166), some (.int 3), some (.int 1), some (.int 0)]) rfl (by decide) rfl ?_
  refine ag_goto (d0_444 3 xs) (t := 23) (by decide) ?_
  refine ag_iload (d0_23 3 xs) rfl ?_
  refine ag_aload_n (d0_25 3 xs) rfl ?_
  refine ag_slen rfl (d0_26 3 xs) ?_
  refine ag_top (y := 3) (by decide) ?_
  refine ag_iconst (d0_27 3 xs) (x := 3) (by decide) ?_
  refine ag_isub (d0_28 3 xs) ?_
  refine ag_top (y := 0) (by decide) ?_
  refine ag_icmp_gt (d0_29 3 xs) (t := 447) (by decide) (fun _ => ?_) (fun hn => absurd (by decide) hn)
  refine ag_iconst (d0_447 3 xs) (x := 1) (by decide) ?_
  exact ag_iret (d0_448 3 xs) rfl rfl
theorem z21_86 (L : Nat) (xs : Nat → Int32) {d : Nat} {h : ax_H} {s1 : Int32} (hz : h.2.1 = 167) (hc_3 : s1 < 0) : ax_Ca (mgT L xs) (d + 1) 21 [.ref 3, .int s1] h (.inl (some (.int 0)), h) := by
  refine ag_call (Nat.le_of_ble_eq_true rfl) ?_
  show ax_Go (mgT L xs) (d + 0) 21 0 [some (.ref 3), some (.int s1), none, none] [] h _
  refine ag_iload_n (d21_0 L xs) rfl ?_
  refine ag_if_lt (d21_1 L xs) (t := 12) (by decide) (fun _ => ?_) (fun hn => absurd hc_3 hn)
  refine ag_iconst (d21_12 L xs) (x := 0) (by decide) ?_
  exact ag_iret (d21_13 L xs) rfl rfl
theorem z21_87 (L : Nat) (xs : Nat → Int32) {d : Nat} {h : ax_H} {s1 : Int32} (hz : h.2.1 = 167) (F3 : h.1 3 = some (.inr (3, [.ref 4, .int 0, .ref 5]))) (hc_3 : ¬ (s1 < 0)) : ax_Ca (mgT L xs) (d + 1) 21 [.ref 3, .int s1] h (.inl (some (.int 0)), h) := by
  refine ag_call (Nat.le_of_ble_eq_true rfl) ?_
  show ax_Go (mgT L xs) (d + 0) 21 0 [some (.ref 3), some (.int s1), none, none] [] h _
  refine ag_iload_n (d21_0 L xs) rfl ?_
  refine ag_if_lt (d21_1 L xs) (t := 12) (by decide) (fun hp => absurd hp hc_3) (fun _ => ?_)
  refine ag_iload_n (d21_4 L xs) rfl ?_
  refine ag_aload_n (d21_5 L xs) rfl ?_
  refine ag_get (d21_6 L xs) (kd := 1) (cj := 3) (k0 := 1) rfl (Or.inl rfl) F3 rfl ?_
  refine ag_icmp_lt (d21_9 L xs) (t := 14) (by decide) (fun hp => absurd hp hc_3) (fun _ => ?_)
  refine ag_iconst (d21_12 L xs) (x := 0) (by decide) ?_
  exact ag_iret (d21_13 L xs) rfl rfl
theorem z20_88 (L : Nat) (xs : Nat → Int32) {d : Nat} {h : ax_H} {s1 : Int32} (hz : h.2.1 = 167) (F0 : h.1 0 = some (.inr (0, [.ref 1, .ref 3, .ref 87, .ref 137]))) (F3 : h.1 3 = some (.inr (3, [.ref 4, .int 0, .ref 5]))) (hc_3 : s1 < 0) : ax_Ca (mgT L xs) (d + 2) 20 [.ref 0, .int s1] h (.inl (some (.int 0)), h) := by
  refine ag_call (Nat.le_of_ble_eq_true rfl) ?_
  show ax_Go (mgT L xs) (d + 1) 20 0 [some (.ref 0), some (.int s1)] [] h _
  refine ag_aload_n (d20_0 L xs) rfl ?_
  refine ag_get (d20_1 L xs) (kd := 1) (cj := 0) (k0 := 1) rfl (Or.inl rfl) F0 rfl ?_
  refine ag_iload_n (d20_4 L xs) rfl ?_
  refine ag_invv (d20_5 L xs) (kd := 7) (mj := 21) (n := 1) rfl (Or.inl rfl) (xs := [.int s1]) (r := []) rfl rfl F3 rfl (Nat.le_of_ble_eq_true rfl) (z21_86 L xs (d := d + 0) (h := _) (s1 := s1) hz hc_3) ?_
  exact ag_iret (d20_8 L xs) rfl rfl
theorem z20_89 (L : Nat) (xs : Nat → Int32) {d : Nat} {h : ax_H} {s1 : Int32} (hz : h.2.1 = 167) (F0 : h.1 0 = some (.inr (0, [.ref 1, .ref 3, .ref 87, .ref 137]))) (F3 : h.1 3 = some (.inr (3, [.ref 4, .int 0, .ref 5]))) (hc_3 : ¬ (s1 < 0)) : ax_Ca (mgT L xs) (d + 2) 20 [.ref 0, .int s1] h (.inl (some (.int 0)), h) := by
  refine ag_call (Nat.le_of_ble_eq_true rfl) ?_
  show ax_Go (mgT L xs) (d + 1) 20 0 [some (.ref 0), some (.int s1)] [] h _
  refine ag_aload_n (d20_0 L xs) rfl ?_
  refine ag_get (d20_1 L xs) (kd := 1) (cj := 0) (k0 := 1) rfl (Or.inl rfl) F0 rfl ?_
  refine ag_iload_n (d20_4 L xs) rfl ?_
  refine ag_invv (d20_5 L xs) (kd := 7) (mj := 21) (n := 1) rfl (Or.inl rfl) (xs := [.int s1]) (r := []) rfl rfl F3 rfl (Nat.le_of_ble_eq_true rfl) (z21_87 L xs (d := d + 0) (h := _) (s1 := s1) hz F3 hc_3) ?_
  exact ag_iret (d20_8 L xs) rfl rfl
theorem z115_90 (L : Nat) (xs : Nat → Int32) {d : Nat} {h : ax_H} {s1 : Int32} (hz : h.2.1 = 167) (F141 : h.1 141 = some (.inr (9, [.int 0, .int 0, .ref 142, .int 0, .ref 143, .ref 144, .ref 145, .ref 146, .ref 147, .int 0, .int 0, .ref 148, .int 0, .ref 149, .int 0, .int 0, .ref 150, .int 0, .ref 151, .int 0, .ref 152, .ref 153, .int 0, .int 0, .ref 154, .ref 155, .ref 156, .ref 157, .ref 158, .ref 159, .ref 160, .ref 161, .ref 162, .int 0, .int 0, .int 0, .int 0, .int 0, .int 0, .int 0, .int 0, .int 0, .ref 163, .int 0, .int 0, .int 0, .int 0, .ref 164, .ref 165]))) (hc_3 : s1 < 0) : ax_Ca (mgT L xs) (d + 1) 115 [.ref 141, .int s1] h (.inl (some (.int 0)), (ax_up h 141 (.inr (9, [.int 0, .int 0, .ref 142, .int 0, .ref 143, .ref 144, .ref 145, .ref 146, .ref 147, .int 0, .int 0, .ref 148, .int 0, .ref 149, .int 0, .int 0, .ref 150, .int 0, .ref 151, .int 0, .ref 152, .ref 153, .int 0, .int 0, .ref 154, .ref 155, .ref 156, .ref 157, .ref 158, .ref 159, .ref 160, .ref 161, .ref 162, .int 0, .int 0, .int 0, .int 0, .int 0, .int 0, .int 0, .int 0, .int 0, .ref 163, .int 0, .int 0, .int 0, .int 0, .ref 164, .ref 165])))) := by
  refine ag_call (Nat.le_of_ble_eq_true rfl) ?_
  show ax_Go (mgT L xs) (d + 0) 115 0 [some (.ref 141), some (.int s1), none, none] [] h _
  refine ag_aload_n (d115_0 L xs) rfl ?_
  refine ag_iconst (d115_1 L xs) (x := 0) (by decide) ?_
  refine ag_put (d115_2 L xs) (cj := 9) (k0 := 0) rfl F141 (ax_lt hz (Nat.le_of_ble_eq_true rfl)) (Nat.le_of_ble_eq_true rfl) rfl rfl ?_
  refine ag_iload_n (d115_5 L xs) rfl ?_
  refine ag_if_lt (d115_6 L xs) (t := 17) (by decide) (fun _ => ?_) (fun hn => absurd hc_3 hn)
  refine ag_iconst (d115_17 L xs) (x := 0) (by decide) ?_
  exact ag_iret (d115_18 L xs) rfl rfl
theorem z0_91 (xs : Nat → Int32) {d : Nat} {h : ax_H} {s0 : Int32} (hs0 : xs 0 = s0) {s1 : Int32} (hs1 : xs 1 = s1) (hz : h.2.1 = 167) (F0 : h.1 0 = some (.inr (0, [.ref 1, .ref 3, .ref 87, .ref 137]))) (F3 : h.1 3 = some (.inr (3, [.ref 4, .int 0, .ref 5]))) (F141 : h.1 141 = some (.inr (9, [.int 0, .int 0, .ref 142, .int 0, .ref 143, .ref 144, .ref 145, .ref 146, .ref 147, .int 0, .int 0, .ref 148, .int 0, .ref 149, .int 0, .int 0, .ref 150, .int 0, .ref 151, .int 0, .ref 152, .ref 153, .int 0, .int 0, .ref 154, .ref 155, .ref 156, .ref 157, .ref 158, .ref 159, .ref 160, .ref 161, .ref 162, .int 0, .int 0, .int 0, .int 0, .int 0, .int 0, .int 0, .int 0, .int 0, .ref 163, .int 0, .int 0, .int 0, .int 0, .ref 164, .ref 165]))) (hc_3 : s1 < 0) (hj : s0 &&& 15 = 4) : ax_Go (mgT 3 xs) (d + 2) 0 23 [some (.ref ax_big), some (.ref 0), some (.ref 141), some (.ref 166), some (.int 0), none, none] [] h (.inl (some (.int 1)), (ax_up h 141 (.inr (9, [.int 0, .int 0, .ref 142, .int 0, .ref 143, .ref 144, .ref 145, .ref 146, .ref 147, .int 0, .int 0, .ref 148, .int 0, .ref 149, .int 0, .int 0, .ref 150, .int 0, .ref 151, .int 0, .ref 152, .ref 153, .int 0, .int 0, .ref 154, .ref 155, .ref 156, .ref 157, .ref 158, .ref 159, .ref 160, .ref 161, .ref 162, .int 0, .int 0, .int 0, .int 0, .int 0, .int 0, .int 0, .int 0, .int 0, .ref 163, .int 0, .int 0, .int 0, .int 0, .ref 164, .ref 165])))) := by
  refine ag_iload (d0_23 3 xs) rfl ?_
  refine ag_aload_n (d0_25 3 xs) rfl ?_
  refine ag_slen rfl (d0_26 3 xs) ?_
  refine ag_top (y := 3) (by decide) ?_
  refine ag_iconst (d0_27 3 xs) (x := 3) (by decide) ?_
  refine ag_isub (d0_28 3 xs) ?_
  refine ag_top (y := 0) (by decide) ?_
  refine ag_icmp_gt (d0_29 3 xs) (t := 447) (by decide) (fun hp => absurd hp (by decide)) (fun _ => ?_)
  refine ag_aload_n (d0_32 3 xs) rfl ?_
  refine ag_iload (d0_33 3 xs) rfl ?_
  refine ag_sald rfl (d0_35 3 xs) (x := s0) (show ¬ ((0 : Int32) < 0 ∨ 3 ≤ (0 : Int32).toNatClampNeg) from by decide) hs0 ?_
  refine ag_bipush (d0_36 3 xs) (x := 15) (by decide) ?_
  refine ag_iand (d0_38 3 xs) ?_
  refine ag_top (y := 4) hj ?_
  refine ag_tswIn (d0_39 3 xs) (of := 190) (t := 229) (by decide) (by decide) (by decide) ?_
  refine ag_aload_n (d0_229 3 xs) rfl ?_
  refine ag_aload_n (d0_230 3 xs) rfl ?_
  refine ag_iload (d0_231 3 xs) rfl ?_
  refine ag_iconst (d0_233 3 xs) (x := 1) (by decide) ?_
  refine ag_iadd (d0_234 3 xs) ?_
  refine ag_top (y := 1) (by decide) ?_
  refine ag_sald rfl (d0_235 3 xs) (x := s1) (show ¬ ((1 : Int32) < 0 ∨ 3 ≤ (1 : Int32).toNatClampNeg) from by decide) hs1 ?_
  refine ag_invv (d0_236 3 xs) (kd := 7) (mj := 20) (n := 1) rfl (Or.inl rfl) (xs := [.int s1]) (r := []) rfl rfl F0 rfl (Nat.le_of_ble_eq_true rfl) (z20_88 3 xs (d := d + 0) (h := _) (s1 := s1) hz F0 F3 hc_3) ?_
  refine ag_aload_n (d0_239 3 xs) rfl ?_
  refine ag_aload_n (d0_240 3 xs) rfl ?_
  refine ag_iload (d0_241 3 xs) rfl ?_
  refine ag_iconst (d0_243 3 xs) (x := 1) (by decide) ?_
  refine ag_iadd (d0_244 3 xs) ?_
  refine ag_top (y := 1) (by decide) ?_
  refine ag_sald rfl (d0_245 3 xs) (x := s1) (show ¬ ((1 : Int32) < 0 ∨ 3 ≤ (1 : Int32).toNatClampNeg) from by decide) hs1 ?_
  refine ag_invv (d0_246 3 xs) (kd := 7) (mj := 115) (n := 1) rfl (Or.inl rfl) (xs := [.int s1]) (r := [.int 0]) rfl rfl F141 rfl (Nat.le_of_ble_eq_true rfl) (z115_90 3 xs (d := d + 1) (h := _) (s1 := s1) hz F141 hc_3) ?_
  refine ag_icmp_eq (d0_249 3 xs) (t := 441) (by decide) (fun _ => ?_) (fun hn => absurd (by decide) hn)
  refine ag_iinc (d0_441 3 xs) (y := 3) (ls' := [some (.ref ax_big), some (.ref 0), some (.ref 141), some (.ref 166), some (.int 3), none, none]) rfl (by decide) rfl ?_
  refine ag_goto (d0_444 3 xs) (t := 23) (by decide) ?_
  refine ag_iload (d0_23 3 xs) rfl ?_
  refine ag_aload_n (d0_25 3 xs) rfl ?_
  refine ag_slen rfl (d0_26 3 xs) ?_
  refine ag_top (y := 3) (by decide) ?_
  refine ag_iconst (d0_27 3 xs) (x := 3) (by decide) ?_
  refine ag_isub (d0_28 3 xs) ?_
  refine ag_top (y := 0) (by decide) ?_
  refine ag_icmp_gt (d0_29 3 xs) (t := 447) (by decide) (fun _ => ?_) (fun hn => absurd (by decide) hn)
  refine ag_iconst (d0_447 3 xs) (x := 1) (by decide) ?_
  exact ag_iret (d0_448 3 xs) rfl rfl
theorem z115_92 (L : Nat) (xs : Nat → Int32) {d : Nat} {h : ax_H} {s1 : Int32} (hz : h.2.1 = 167) (F141 : h.1 141 = some (.inr (9, [.int 0, .int 0, .ref 142, .int 0, .ref 143, .ref 144, .ref 145, .ref 146, .ref 147, .int 0, .int 0, .ref 148, .int 0, .ref 149, .int 0, .int 0, .ref 150, .int 0, .ref 151, .int 0, .ref 152, .ref 153, .int 0, .int 0, .ref 154, .ref 155, .ref 156, .ref 157, .ref 158, .ref 159, .ref 160, .ref 161, .ref 162, .int 0, .int 0, .int 0, .int 0, .int 0, .int 0, .int 0, .int 0, .int 0, .ref 163, .int 0, .int 0, .int 0, .int 0, .ref 164, .ref 165]))) (hc_3 : ¬ (s1 < 0)) : ax_Ca (mgT L xs) (d + 1) 115 [.ref 141, .int s1] h (.inl (some (.int 0)), (ax_up h 141 (.inr (9, [.int 0, .int 0, .ref 142, .int 0, .ref 143, .ref 144, .ref 145, .ref 146, .ref 147, .int 0, .int 0, .ref 148, .int 0, .ref 149, .int 0, .int 0, .ref 150, .int 0, .ref 151, .int 0, .ref 152, .ref 153, .int 0, .int 0, .ref 154, .ref 155, .ref 156, .ref 157, .ref 158, .ref 159, .ref 160, .ref 161, .ref 162, .int 0, .int 0, .int 0, .int 0, .int 0, .int 0, .int 0, .int 0, .int 0, .ref 163, .int 0, .int 0, .int 0, .int 0, .ref 164, .ref 165])))) := by
  refine ag_call (Nat.le_of_ble_eq_true rfl) ?_
  show ax_Go (mgT L xs) (d + 0) 115 0 [some (.ref 141), some (.int s1), none, none] [] h _
  refine ag_aload_n (d115_0 L xs) rfl ?_
  refine ag_iconst (d115_1 L xs) (x := 0) (by decide) ?_
  refine ag_put (d115_2 L xs) (cj := 9) (k0 := 0) rfl F141 (ax_lt hz (Nat.le_of_ble_eq_true rfl)) (Nat.le_of_ble_eq_true rfl) rfl rfl ?_
  refine ag_iload_n (d115_5 L xs) rfl ?_
  refine ag_if_lt (d115_6 L xs) (t := 17) (by decide) (fun hp => absurd hp hc_3) (fun _ => ?_)
  refine ag_iload_n (d115_9 L xs) rfl ?_
  refine ag_aload_n (d115_10 L xs) rfl ?_
  refine ag_get (d115_11 L xs) (kd := 1) (cj := 9) (k0 := 3) rfl (Or.inl rfl) (ax_up_at _ _ _) rfl ?_
  refine ag_icmp_lt (d115_14 L xs) (t := 19) (by decide) (fun hp => absurd hp hc_3) (fun _ => ?_)
  refine ag_iconst (d115_17 L xs) (x := 0) (by decide) ?_
  exact ag_iret (d115_18 L xs) rfl rfl
theorem z0_93 (xs : Nat → Int32) {d : Nat} {h : ax_H} {s0 : Int32} (hs0 : xs 0 = s0) {s1 : Int32} (hs1 : xs 1 = s1) (hz : h.2.1 = 167) (F0 : h.1 0 = some (.inr (0, [.ref 1, .ref 3, .ref 87, .ref 137]))) (F3 : h.1 3 = some (.inr (3, [.ref 4, .int 0, .ref 5]))) (F141 : h.1 141 = some (.inr (9, [.int 0, .int 0, .ref 142, .int 0, .ref 143, .ref 144, .ref 145, .ref 146, .ref 147, .int 0, .int 0, .ref 148, .int 0, .ref 149, .int 0, .int 0, .ref 150, .int 0, .ref 151, .int 0, .ref 152, .ref 153, .int 0, .int 0, .ref 154, .ref 155, .ref 156, .ref 157, .ref 158, .ref 159, .ref 160, .ref 161, .ref 162, .int 0, .int 0, .int 0, .int 0, .int 0, .int 0, .int 0, .int 0, .int 0, .ref 163, .int 0, .int 0, .int 0, .int 0, .ref 164, .ref 165]))) (hc_3 : ¬ (s1 < 0)) (hj : s0 &&& 15 = 4) : ax_Go (mgT 3 xs) (d + 2) 0 23 [some (.ref ax_big), some (.ref 0), some (.ref 141), some (.ref 166), some (.int 0), none, none] [] h (.inl (some (.int 1)), (ax_up h 141 (.inr (9, [.int 0, .int 0, .ref 142, .int 0, .ref 143, .ref 144, .ref 145, .ref 146, .ref 147, .int 0, .int 0, .ref 148, .int 0, .ref 149, .int 0, .int 0, .ref 150, .int 0, .ref 151, .int 0, .ref 152, .ref 153, .int 0, .int 0, .ref 154, .ref 155, .ref 156, .ref 157, .ref 158, .ref 159, .ref 160, .ref 161, .ref 162, .int 0, .int 0, .int 0, .int 0, .int 0, .int 0, .int 0, .int 0, .int 0, .ref 163, .int 0, .int 0, .int 0, .int 0, .ref 164, .ref 165])))) := by
  refine ag_iload (d0_23 3 xs) rfl ?_
  refine ag_aload_n (d0_25 3 xs) rfl ?_
  refine ag_slen rfl (d0_26 3 xs) ?_
  refine ag_top (y := 3) (by decide) ?_
  refine ag_iconst (d0_27 3 xs) (x := 3) (by decide) ?_
  refine ag_isub (d0_28 3 xs) ?_
  refine ag_top (y := 0) (by decide) ?_
  refine ag_icmp_gt (d0_29 3 xs) (t := 447) (by decide) (fun hp => absurd hp (by decide)) (fun _ => ?_)
  refine ag_aload_n (d0_32 3 xs) rfl ?_
  refine ag_iload (d0_33 3 xs) rfl ?_
  refine ag_sald rfl (d0_35 3 xs) (x := s0) (show ¬ ((0 : Int32) < 0 ∨ 3 ≤ (0 : Int32).toNatClampNeg) from by decide) hs0 ?_
  refine ag_bipush (d0_36 3 xs) (x := 15) (by decide) ?_
  refine ag_iand (d0_38 3 xs) ?_
  refine ag_top (y := 4) hj ?_
  refine ag_tswIn (d0_39 3 xs) (of := 190) (t := 229) (by decide) (by decide) (by decide) ?_
  refine ag_aload_n (d0_229 3 xs) rfl ?_
  refine ag_aload_n (d0_230 3 xs) rfl ?_
  refine ag_iload (d0_231 3 xs) rfl ?_
  refine ag_iconst (d0_233 3 xs) (x := 1) (by decide) ?_
  refine ag_iadd (d0_234 3 xs) ?_
  refine ag_top (y := 1) (by decide) ?_
  refine ag_sald rfl (d0_235 3 xs) (x := s1) (show ¬ ((1 : Int32) < 0 ∨ 3 ≤ (1 : Int32).toNatClampNeg) from by decide) hs1 ?_
  refine ag_invv (d0_236 3 xs) (kd := 7) (mj := 20) (n := 1) rfl (Or.inl rfl) (xs := [.int s1]) (r := []) rfl rfl F0 rfl (Nat.le_of_ble_eq_true rfl) (z20_89 3 xs (d := d + 0) (h := _) (s1 := s1) hz F0 F3 hc_3) ?_
  refine ag_aload_n (d0_239 3 xs) rfl ?_
  refine ag_aload_n (d0_240 3 xs) rfl ?_
  refine ag_iload (d0_241 3 xs) rfl ?_
  refine ag_iconst (d0_243 3 xs) (x := 1) (by decide) ?_
  refine ag_iadd (d0_244 3 xs) ?_
  refine ag_top (y := 1) (by decide) ?_
  refine ag_sald rfl (d0_245 3 xs) (x := s1) (show ¬ ((1 : Int32) < 0 ∨ 3 ≤ (1 : Int32).toNatClampNeg) from by decide) hs1 ?_
  refine ag_invv (d0_246 3 xs) (kd := 7) (mj := 115) (n := 1) rfl (Or.inl rfl) (xs := [.int s1]) (r := [.int 0]) rfl rfl F141 rfl (Nat.le_of_ble_eq_true rfl) (z115_92 3 xs (d := d + 1) (h := _) (s1 := s1) hz F141 hc_3) ?_
  refine ag_icmp_eq (d0_249 3 xs) (t := 441) (by decide) (fun _ => ?_) (fun hn => absurd (by decide) hn)
  refine ag_iinc (d0_441 3 xs) (y := 3) (ls' := [some (.ref ax_big), some (.ref 0), some (.ref 141), some (.ref 166), some (.int 3), none, none]) rfl (by decide) rfl ?_
  refine ag_goto (d0_444 3 xs) (t := 23) (by decide) ?_
  refine ag_iload (d0_23 3 xs) rfl ?_
  refine ag_aload_n (d0_25 3 xs) rfl ?_
  refine ag_slen rfl (d0_26 3 xs) ?_
  refine ag_top (y := 3) (by decide) ?_
  refine ag_iconst (d0_27 3 xs) (x := 3) (by decide) ?_
  refine ag_isub (d0_28 3 xs) ?_
  refine ag_top (y := 0) (by decide) ?_
  refine ag_icmp_gt (d0_29 3 xs) (t := 447) (by decide) (fun _ => ?_) (fun hn => absurd (by decide) hn)
  refine ag_iconst (d0_447 3 xs) (x := 1) (by decide) ?_
  exact ag_iret (d0_448 3 xs) rfl rfl
theorem z45_94 (L : Nat) (xs : Nat → Int32) {d : Nat} {h : ax_H} {s1 : Int32} (hz : h.2.1 = 167) (F0 : h.1 0 = some (.inr (0, [.ref 1, .ref 3, .ref 87, .ref 137]))) (F1 : h.1 1 = some (.inr (1, [.ref 2, .int 0]))) : ax_Ca (mgT L xs) (d + 3) 45 [.ref 0, .int s1] h (.inr 1, (ax_one h)) := by
  refine ag_callT (Nat.le_of_ble_eq_true rfl) ?_
  show ax_Go (mgT L xs) (d + 2) 45 0 [some (.ref 0), some (.int s1), none] [] h _
  refine ag_aload_n (d45_0 L xs) rfl ?_
  refine ag_get (d45_1 L xs) (kd := 1) (cj := 0) (k0 := 0) rfl (Or.inl rfl) F0 rfl ?_
  refine ag_invv (d45_4 L xs) (kd := 7) (mj := 46) (n := 0) rfl (Or.inl rfl) (xs := []) (r := []) rfl rfl F1 rfl (Nat.le_of_ble_eq_true rfl) (z46_24 L xs (d := d + 0) (h := _) hz F1) ?_
  refine ag_if_ne (d45_7 L xs) (t := 18) (by decide) (fun hp => absurd hp (by decide)) (fun _ => ?_)
  exact ag_thr (d45_10 L xs) rfl (d45_13 L xs) (d45_14 L xs) (d45_17 L xs) (by rw [hz]; decide) (Nat.le_of_ble_eq_true rfl) rfl
theorem z2_95 (L : Nat) (xs : Nat → Int32) {d : Nat} {h : ax_H} {s1 : Int32} (hz : h.2.1 = 167) (F0 : h.1 0 = some (.inr (0, [.ref 1, .ref 3, .ref 87, .ref 137]))) (F1 : h.1 1 = some (.inr (1, [.ref 2, .int 0]))) : ax_Ca (mgT L xs) (d + 4) 2 [.ref 0, .int s1, .ref 166] h (.inl (some (.int 1)), (ax_one h)) := by
  refine ag_call (Nat.le_of_ble_eq_true rfl) ?_
  show ax_Go (mgT L xs) (d + 3) 2 0 [some (.ref 0), some (.int s1), some (.ref 166), none] [] h _
  refine ag_aload_n (d2_0 L xs) rfl ?_
  refine ag_iconst (d2_1 L xs) (x := 0) (by decide) ?_
  refine ag_aload_n (d2_2 L xs) rfl ?_
  refine ag_iload_n (d2_3 L xs) rfl ?_
  refine ag_invc (d2_4 L xs) (mj := 45) (n := 1) rfl (xs := [.int s1]) (r := [.int 0, .ref 166]) rfl rfl F0 rfl (Nat.le_of_ble_eq_true rfl) (z45_94 L xs (d := d + 0) (h := _) (s1 := s1) hz F0 F1) (pc' := 12) rfl ?_
  refine ag_ref (b := 167) (by show (ax_one h).2.1 - 1 = _; rw [(ax_one_sz hz)]) ?_
  refine ag_astore_n (d2_12 L xs) (ls' := [some (.ref 0), some (.int s1), some (.ref 166), some (.ref 167)]) (Nat.le_of_ble_eq_true rfl) rfl ?_
  refine ag_iconst (d2_13 L xs) (x := 1) (by decide) ?_
  exact ag_iret (d2_14 L xs) rfl rfl
theorem z110_96 (L : Nat) (xs : Nat → Int32) {d : Nat} {h : ax_H} (hz : h.2.1 = 168) : ax_Ca (mgT L xs) (d + 1) 110 [.ref 142, .int 0, .int 0] h (.inl (some (.int 0)), h) := by
  refine ag_call (Nat.le_of_ble_eq_true rfl) ?_
  show ax_Go (mgT L xs) (d + 0) 110 0 [some (.ref 142), some (.int 0), some (.int 0), none, none, none, none] [] h _
  refine ag_iload_n (d110_0 L xs) rfl ?_
  refine ag_iload_n (d110_1 L xs) rfl ?_
  refine ag_isub (d110_2 L xs) ?_
  refine ag_top (y := 0) (by decide) ?_
  refine ag_iconst (d110_3 L xs) (x := 1) (by decide) ?_
  refine ag_icmp_lt (d110_4 L xs) (t := 15) (by decide) (fun _ => ?_) (fun hn => absurd (by decide) hn)
  refine ag_iconst (d110_15 L xs) (x := 0) (by decide) ?_
  exact ag_iret (d110_16 L xs) rfl rfl
theorem z116_97 (L : Nat) (xs : Nat → Int32) {d : Nat} {h : ax_H} {s1 : Int32} (hz : h.2.1 = 168) (F141 : h.1 141 = some (.inr (9, [.int 0, .int 0, .ref 142, .int 0, .ref 143, .ref 144, .ref 145, .ref 146, .ref 147, .int 0, .int 0, .ref 148, .int 0, .ref 149, .int 0, .int 0, .ref 150, .int 0, .ref 151, .int 0, .ref 152, .ref 153, .int 0, .int 0, .ref 154, .ref 155, .ref 156, .ref 157, .ref 158, .ref 159, .ref 160, .ref 161, .ref 162, .int 0, .int 0, .int 0, .int 0, .int 0, .int 0, .int 0, .int 0, .int 0, .ref 163, .int 0, .int 0, .int 0, .int 0, .ref 164, .ref 165]))) : ax_Ca (mgT L xs) (d + 2) 116 [.ref 141, .int s1] h (.inl (some (.int 0)), (ax_up h 141 (.inr (9, [.int 1, .int 0, .ref 142, .int 0, .ref 143, .ref 144, .ref 145, .ref 146, .ref 147, .int 0, .int 0, .ref 148, .int 0, .ref 149, .int 0, .int 0, .ref 150, .int 0, .ref 151, .int 0, .ref 152, .ref 153, .int 0, .int 0, .ref 154, .ref 155, .ref 156, .ref 157, .ref 158, .ref 159, .ref 160, .ref 161, .ref 162, .int 0, .int 0, .int 0, .int 0, .int 0, .int 0, .int 0, .int 0, .int 0, .ref 163, .int 0, .int 0, .int 0, .int 0, .ref 164, .ref 165])))) := by
  refine ag_call (Nat.le_of_ble_eq_true rfl) ?_
  show ax_Go (mgT L xs) (d + 1) 116 0 [some (.ref 141), some (.int s1), none] [] h _
  refine ag_aload_n (d116_0 L xs) rfl ?_
  refine ag_aload_n (d116_1 L xs) rfl ?_
  refine ag_get (d116_2 L xs) (kd := 1) (cj := 9) (k0 := 2) rfl (Or.inl rfl) F141 rfl ?_
  refine ag_iconst (d116_5 L xs) (x := 0) (by decide) ?_
  refine ag_aload_n (d116_6 L xs) rfl ?_
  refine ag_get (d116_7 L xs) (kd := 1) (cj := 9) (k0 := 1) rfl (Or.inl rfl) F141 rfl ?_
  refine ag_invs (d116_10 L xs) (kd := 6) (mj := 110) (n := 3) rfl (Or.inl rfl) (xs := [.int 0, .int 0, .ref 142]) (r := [.ref 141]) rfl rfl (Nat.le_of_ble_eq_true rfl) (z110_96 L xs (d := d + 0) (h := _) hz ) ?_
  refine ag_if_eq (d116_13 L xs) (t := 20) (by decide) (fun _ => ?_) (fun hn => absurd (by decide) hn)
  refine ag_iconst (d116_20 L xs) (x := 1) (by decide) ?_
  refine ag_put (d116_21 L xs) (cj := 9) (k0 := 0) rfl F141 (ax_lt hz (Nat.le_of_ble_eq_true rfl)) (Nat.le_of_ble_eq_true rfl) rfl rfl ?_
  refine ag_aload_n (d116_24 L xs) rfl ?_
  refine ag_get (d116_25 L xs) (kd := 1) (cj := 9) (k0 := 0) rfl (Or.inl rfl) (ax_up_at _ _ _) rfl ?_
  refine ag_if_le (d116_28 L xs) (t := 33) (by decide) (fun hp => absurd hp (by decide)) (fun _ => ?_)
  refine ag_iconst (d116_31 L xs) (x := 0) (by decide) ?_
  exact ag_iret (d116_32 L xs) rfl rfl
theorem z105_98 (L : Nat) (xs : Nat → Int32) {d : Nat} {h : ax_H} (hz : h.2.1 = 168) (F141 : h.1 141 = some (.inr (9, [.int 1, .int 0, .ref 142, .int 0, .ref 143, .ref 144, .ref 145, .ref 146, .ref 147, .int 0, .int 0, .ref 148, .int 0, .ref 149, .int 0, .int 0, .ref 150, .int 0, .ref 151, .int 0, .ref 152, .ref 153, .int 0, .int 0, .ref 154, .ref 155, .ref 156, .ref 157, .ref 158, .ref 159, .ref 160, .ref 161, .ref 162, .int 0, .int 0, .int 0, .int 0, .int 0, .int 0, .int 0, .int 0, .int 0, .ref 163, .int 0, .int 0, .int 0, .int 0, .ref 164, .ref 165]))) : ax_Ca (mgT L xs) (d + 1) 105 [.ref 141] h (.inl (some (.int 1)), h) := by
  refine ag_call (Nat.le_of_ble_eq_true rfl) ?_
  show ax_Go (mgT L xs) (d + 0) 105 0 [some (.ref 141)] [] h _
  refine ag_aload_n (d105_0 L xs) rfl ?_
  refine ag_get (d105_1 L xs) (kd := 1) (cj := 9) (k0 := 0) rfl (Or.inl rfl) F141 rfl ?_
  exact ag_iret (d105_4 L xs) rfl rfl
theorem z0_99 (xs : Nat → Int32) {d : Nat} {h : ax_H} {s0 : Int32} (hs0 : xs 0 = s0) {s1 : Int32} (hs1 : xs 1 = s1) (hz : h.2.1 = 167) (F0 : h.1 0 = some (.inr (0, [.ref 1, .ref 3, .ref 87, .ref 137]))) (F1 : h.1 1 = some (.inr (1, [.ref 2, .int 0]))) (F141 : h.1 141 = some (.inr (9, [.int 0, .int 0, .ref 142, .int 0, .ref 143, .ref 144, .ref 145, .ref 146, .ref 147, .int 0, .int 0, .ref 148, .int 0, .ref 149, .int 0, .int 0, .ref 150, .int 0, .ref 151, .int 0, .ref 152, .ref 153, .int 0, .int 0, .ref 154, .ref 155, .ref 156, .ref 157, .ref 158, .ref 159, .ref 160, .ref 161, .ref 162, .int 0, .int 0, .int 0, .int 0, .int 0, .int 0, .int 0, .int 0, .int 0, .ref 163, .int 0, .int 0, .int 0, .int 0, .ref 164, .ref 165]))) (hj : s0 &&& 15 = 5) : ax_Go (mgT 3 xs) (d + 4) 0 23 [some (.ref ax_big), some (.ref 0), some (.ref 141), some (.ref 166), some (.int 0), none, none] [] h (.inl (some (.int 1)), (ax_up (ax_one h) 141 (.inr (9, [.int 1, .int 0, .ref 142, .int 0, .ref 143, .ref 144, .ref 145, .ref 146, .ref 147, .int 0, .int 0, .ref 148, .int 0, .ref 149, .int 0, .int 0, .ref 150, .int 0, .ref 151, .int 0, .ref 152, .ref 153, .int 0, .int 0, .ref 154, .ref 155, .ref 156, .ref 157, .ref 158, .ref 159, .ref 160, .ref 161, .ref 162, .int 0, .int 0, .int 0, .int 0, .int 0, .int 0, .int 0, .int 0, .int 0, .ref 163, .int 0, .int 0, .int 0, .int 0, .ref 164, .ref 165])))) := by
  refine ag_iload (d0_23 3 xs) rfl ?_
  refine ag_aload_n (d0_25 3 xs) rfl ?_
  refine ag_slen rfl (d0_26 3 xs) ?_
  refine ag_top (y := 3) (by decide) ?_
  refine ag_iconst (d0_27 3 xs) (x := 3) (by decide) ?_
  refine ag_isub (d0_28 3 xs) ?_
  refine ag_top (y := 0) (by decide) ?_
  refine ag_icmp_gt (d0_29 3 xs) (t := 447) (by decide) (fun hp => absurd hp (by decide)) (fun _ => ?_)
  refine ag_aload_n (d0_32 3 xs) rfl ?_
  refine ag_iload (d0_33 3 xs) rfl ?_
  refine ag_sald rfl (d0_35 3 xs) (x := s0) (show ¬ ((0 : Int32) < 0 ∨ 3 ≤ (0 : Int32).toNatClampNeg) from by decide) hs0 ?_
  refine ag_bipush (d0_36 3 xs) (x := 15) (by decide) ?_
  refine ag_iand (d0_38 3 xs) ?_
  refine ag_top (y := 5) hj ?_
  refine ag_tswIn (d0_39 3 xs) (of := 215) (t := 254) (by decide) (by decide) (by decide) ?_
  refine ag_aload_n (d0_254 3 xs) rfl ?_
  refine ag_aload_n (d0_255 3 xs) rfl ?_
  refine ag_iload (d0_256 3 xs) rfl ?_
  refine ag_iconst (d0_258 3 xs) (x := 1) (by decide) ?_
  refine ag_iadd (d0_259 3 xs) ?_
  refine ag_top (y := 1) (by decide) ?_
  refine ag_sald rfl (d0_260 3 xs) (x := s1) (show ¬ ((1 : Int32) < 0 ∨ 3 ≤ (1 : Int32).toNatClampNeg) from by decide) hs1 ?_
  refine ag_aload_n (d0_261 3 xs) rfl ?_
  refine ag_invs (d0_262 3 xs) (kd := 26) (mj := 2) (n := 3) rfl (Or.inr (Or.inr rfl)) (xs := [.ref 166, .int s1, .ref 0]) (r := []) rfl rfl (Nat.le_of_ble_eq_true rfl) (z2_95 3 xs (d := d + 0) (h := _) (s1 := s1) hz F0 F1) ?_
  refine ag_istore (d0_265 3 xs) (ls' := [some (.ref ax_big), some (.ref 0), some (.ref 141), some (.ref 166), some (.int 0), some (.int 1), none]) (Nat.le_of_ble_eq_true rfl) rfl ?_
  refine ag_aload_n (d0_267 3 xs) rfl ?_
  refine ag_aload_n (d0_268 3 xs) rfl ?_
  refine ag_iload (d0_269 3 xs) rfl ?_
  refine ag_iconst (d0_271 3 xs) (x := 1) (by decide) ?_
  refine ag_iadd (d0_272 3 xs) ?_
  refine ag_top (y := 1) (by decide) ?_
  refine ag_sald rfl (d0_273 3 xs) (x := s1) (show ¬ ((1 : Int32) < 0 ∨ 3 ≤ (1 : Int32).toNatClampNeg) from by decide) hs1 ?_
  refine ag_invv (d0_274 3 xs) (kd := 7) (mj := 116) (n := 1) rfl (Or.inl rfl) (xs := [.int s1]) (r := []) rfl rfl ((ax_one_at _ 141).trans F141) rfl (Nat.le_of_ble_eq_true rfl) (z116_97 3 xs (d := d + 2) (h := _) (s1 := s1) (ax_one_sz hz) ((ax_one_at _ 141).trans F141)) ?_
  refine ag_istore (d0_277 3 xs) (ls' := [some (.ref ax_big), some (.ref 0), some (.ref 141), some (.ref 166), some (.int 0), some (.int 1), some (.int 0)]) (Nat.le_of_ble_eq_true rfl) rfl ?_
  refine ag_aload_n (d0_279 3 xs) rfl ?_
  refine ag_invv (d0_280 3 xs) (kd := 7) (mj := 105) (n := 0) rfl (Or.inl rfl) (xs := []) (r := []) rfl rfl (ax_up_at _ _ _) rfl (Nat.le_of_ble_eq_true rfl) (z105_98 3 xs (d := d + 3) (h := _) (ax_one_sz hz) (ax_up_at _ _ _)) ?_
  refine ag_iload (d0_283 3 xs) rfl ?_
  refine ag_icmp_eq (d0_285 3 xs) (t := 290) (by decide) (fun _ => ?_) (fun hn => absurd (by decide) hn)
  refine ag_iload (d0_290 3 xs) rfl ?_
  refine ag_if_ne (d0_292 3 xs) (t := 307) (by decide) (fun _ => ?_) (fun hn => absurd (by decide) hn)
  refine ag_goto (d0_307 3 xs) (t := 441) (by decide) ?_
  refine ag_iinc (d0_441 3 xs) (y := 3) (ls' := [some (.ref ax_big), some (.ref 0), some (.ref 141), some (.ref 166), some (.int 3), some (.int 1), some (.int 0)]) rfl (by decide) rfl ?_
  refine ag_goto (d0_444 3 xs) (t := 23) (by decide) ?_
  refine ag_iload (d0_23 3 xs) rfl ?_
  refine ag_aload_n (d0_25 3 xs) rfl ?_
  refine ag_slen rfl (d0_26 3 xs) ?_
  refine ag_top (y := 3) (by decide) ?_
  refine ag_iconst (d0_27 3 xs) (x := 3) (by decide) ?_
  refine ag_isub (d0_28 3 xs) ?_
  refine ag_top (y := 0) (by decide) ?_
  refine ag_icmp_gt (d0_29 3 xs) (t := 447) (by decide) (fun _ => ?_) (fun hn => absurd (by decide) hn)
  refine ag_iconst (d0_447 3 xs) (x := 1) (by decide) ?_
  exact ag_iret (d0_448 3 xs) rfl rfl
theorem z22_100 (L : Nat) (xs : Nat → Int32) {d : Nat} {h : ax_H} {s1 : Int32} (hz : h.2.1 = 167) (F0 : h.1 0 = some (.inr (0, [.ref 1, .ref 3, .ref 87, .ref 137]))) (F87 : h.1 87 = some (.inr (6, [.ref 3, .ref 88, .ref 89, .ref 91, .int 0, .int (-1), .int 0, .int 0, .int 0, .int 0]))) : ax_Ca (mgT L xs) (d + 2) 22 [.ref 0, .int s1] h (.inl (some (.int (-1))), h) := by
  refine ag_call (Nat.le_of_ble_eq_true rfl) ?_
  show ax_Go (mgT L xs) (d + 1) 22 0 [some (.ref 0), some (.int s1)] [] h _
  refine ag_aload_n (d22_0 L xs) rfl ?_
  refine ag_get (d22_1 L xs) (kd := 1) (cj := 0) (k0 := 2) rfl (Or.inl rfl) F0 rfl ?_
  refine ag_invv (d22_4 L xs) (kd := 7) (mj := 23) (n := 0) rfl (Or.inl rfl) (xs := []) (r := []) rfl rfl F87 rfl (Nat.le_of_ble_eq_true rfl) (z23_9 L xs (d := d + 0) (h := _) hz F87) ?_
  refine ag_if_ne (d22_7 L xs) (t := 12) (by decide) (fun hp => absurd hp (by decide)) (fun _ => ?_)
  refine ag_iconst (d22_10 L xs) (x := (-1)) (by decide) ?_
  exact ag_iret (d22_11 L xs) rfl rfl
theorem z153_101 (L : Nat) (xs : Nat → Int32) {d : Nat} {h : ax_H} {s1 : Int32} (hz : h.2.1 = 167) (F141 : h.1 141 = some (.inr (9, [.int 0, .int 0, .ref 142, .int 0, .ref 143, .ref 144, .ref 145, .ref 146, .ref 147, .int 0, .int 0, .ref 148, .int 0, .ref 149, .int 0, .int 0, .ref 150, .int 0, .ref 151, .int 0, .ref 152, .ref 153, .int 0, .int 0, .ref 154, .ref 155, .ref 156, .ref 157, .ref 158, .ref 159, .ref 160, .ref 161, .ref 162, .int 0, .int 0, .int 0, .int 0, .int 0, .int 0, .int 0, .int 0, .int 0, .ref 163, .int 0, .int 0, .int 0, .int 0, .ref 164, .ref 165]))) : ax_Ca (mgT L xs) (d + 1) 153 [.ref 141, .int s1] h (.inl (some (.int (-1))), (ax_up h 141 (.inr (9, [.int 0, .int 0, .ref 142, .int 0, .ref 143, .ref 144, .ref 145, .ref 146, .ref 147, .int 0, .int 0, .ref 148, .int 0, .ref 149, .int 0, .int 0, .ref 150, .int 0, .ref 151, .int 0, .ref 152, .ref 153, .int 0, .int 0, .ref 154, .ref 155, .ref 156, .ref 157, .ref 158, .ref 159, .ref 160, .ref 161, .ref 162, .int 0, .int 0, .int 0, .int 0, .int 0, .int 0, .int 0, .int 0, .int 0, .ref 163, .int 0, .int 0, .int 0, .int 0, .ref 164, .ref 165])))) := by
  refine ag_call (Nat.le_of_ble_eq_true rfl) ?_
  show ax_Go (mgT L xs) (d + 0) 153 0 [some (.ref 141), some (.int s1)] [] h _
  refine ag_aload_n (d153_0 L xs) rfl ?_
  refine ag_iconst (d153_1 L xs) (x := 0) (by decide) ?_
  refine ag_put (d153_2 L xs) (cj := 9) (k0 := 0) rfl F141 (ax_lt hz (Nat.le_of_ble_eq_true rfl)) (Nat.le_of_ble_eq_true rfl) rfl rfl ?_
  refine ag_aload_n (d153_5 L xs) rfl ?_
  refine ag_get (d153_6 L xs) (kd := 1) (cj := 9) (k0 := 34) rfl (Or.inl rfl) (ax_up_at _ _ _) rfl ?_
  refine ag_if_ne (d153_9 L xs) (t := 14) (by decide) (fun hp => absurd hp (by decide)) (fun _ => ?_)
  refine ag_iconst (d153_12 L xs) (x := (-1)) (by decide) ?_
  exact ag_iret (d153_13 L xs) rfl rfl
theorem z0_102 (xs : Nat → Int32) {d : Nat} {h : ax_H} {s0 : Int32} (hs0 : xs 0 = s0) {s1 : Int32} (hs1 : xs 1 = s1) (hz : h.2.1 = 167) (F0 : h.1 0 = some (.inr (0, [.ref 1, .ref 3, .ref 87, .ref 137]))) (F87 : h.1 87 = some (.inr (6, [.ref 3, .ref 88, .ref 89, .ref 91, .int 0, .int (-1), .int 0, .int 0, .int 0, .int 0]))) (F141 : h.1 141 = some (.inr (9, [.int 0, .int 0, .ref 142, .int 0, .ref 143, .ref 144, .ref 145, .ref 146, .ref 147, .int 0, .int 0, .ref 148, .int 0, .ref 149, .int 0, .int 0, .ref 150, .int 0, .ref 151, .int 0, .ref 152, .ref 153, .int 0, .int 0, .ref 154, .ref 155, .ref 156, .ref 157, .ref 158, .ref 159, .ref 160, .ref 161, .ref 162, .int 0, .int 0, .int 0, .int 0, .int 0, .int 0, .int 0, .int 0, .int 0, .ref 163, .int 0, .int 0, .int 0, .int 0, .ref 164, .ref 165]))) (hj : s0 &&& 15 = 6) : ax_Go (mgT 3 xs) (d + 2) 0 23 [some (.ref ax_big), some (.ref 0), some (.ref 141), some (.ref 166), some (.int 0), none, none] [] h (.inl (some (.int 1)), (ax_up h 141 (.inr (9, [.int 0, .int 0, .ref 142, .int 0, .ref 143, .ref 144, .ref 145, .ref 146, .ref 147, .int 0, .int 0, .ref 148, .int 0, .ref 149, .int 0, .int 0, .ref 150, .int 0, .ref 151, .int 0, .ref 152, .ref 153, .int 0, .int 0, .ref 154, .ref 155, .ref 156, .ref 157, .ref 158, .ref 159, .ref 160, .ref 161, .ref 162, .int 0, .int 0, .int 0, .int 0, .int 0, .int 0, .int 0, .int 0, .int 0, .ref 163, .int 0, .int 0, .int 0, .int 0, .ref 164, .ref 165])))) := by
  refine ag_iload (d0_23 3 xs) rfl ?_
  refine ag_aload_n (d0_25 3 xs) rfl ?_
  refine ag_slen rfl (d0_26 3 xs) ?_
  refine ag_top (y := 3) (by decide) ?_
  refine ag_iconst (d0_27 3 xs) (x := 3) (by decide) ?_
  refine ag_isub (d0_28 3 xs) ?_
  refine ag_top (y := 0) (by decide) ?_
  refine ag_icmp_gt (d0_29 3 xs) (t := 447) (by decide) (fun hp => absurd hp (by decide)) (fun _ => ?_)
  refine ag_aload_n (d0_32 3 xs) rfl ?_
  refine ag_iload (d0_33 3 xs) rfl ?_
  refine ag_sald rfl (d0_35 3 xs) (x := s0) (show ¬ ((0 : Int32) < 0 ∨ 3 ≤ (0 : Int32).toNatClampNeg) from by decide) hs0 ?_
  refine ag_bipush (d0_36 3 xs) (x := 15) (by decide) ?_
  refine ag_iand (d0_38 3 xs) ?_
  refine ag_top (y := 6) hj ?_
  refine ag_tswIn (d0_39 3 xs) (of := 271) (t := 310) (by decide) (by decide) (by decide) ?_
  refine ag_aload_n (d0_310 3 xs) rfl ?_
  refine ag_aload_n (d0_311 3 xs) rfl ?_
  refine ag_iload (d0_312 3 xs) rfl ?_
  refine ag_iconst (d0_314 3 xs) (x := 1) (by decide) ?_
  refine ag_iadd (d0_315 3 xs) ?_
  refine ag_top (y := 1) (by decide) ?_
  refine ag_sald rfl (d0_316 3 xs) (x := s1) (show ¬ ((1 : Int32) < 0 ∨ 3 ≤ (1 : Int32).toNatClampNeg) from by decide) hs1 ?_
  refine ag_invv (d0_317 3 xs) (kd := 7) (mj := 22) (n := 1) rfl (Or.inl rfl) (xs := [.int s1]) (r := []) rfl rfl F0 rfl (Nat.le_of_ble_eq_true rfl) (z22_100 3 xs (d := d + 0) (h := _) (s1 := s1) hz F0 F87) ?_
  refine ag_aload_n (d0_320 3 xs) rfl ?_
  refine ag_aload_n (d0_321 3 xs) rfl ?_
  refine ag_iload (d0_322 3 xs) rfl ?_
  refine ag_iconst (d0_324 3 xs) (x := 1) (by decide) ?_
  refine ag_iadd (d0_325 3 xs) ?_
  refine ag_top (y := 1) (by decide) ?_
  refine ag_sald rfl (d0_326 3 xs) (x := s1) (show ¬ ((1 : Int32) < 0 ∨ 3 ≤ (1 : Int32).toNatClampNeg) from by decide) hs1 ?_
  refine ag_invv (d0_327 3 xs) (kd := 7) (mj := 153) (n := 1) rfl (Or.inl rfl) (xs := [.int s1]) (r := [.int (-1)]) rfl rfl F141 rfl (Nat.le_of_ble_eq_true rfl) (z153_101 3 xs (d := d + 1) (h := _) (s1 := s1) hz F141) ?_
  refine ag_icmp_eq (d0_330 3 xs) (t := 441) (by decide) (fun _ => ?_) (fun hn => absurd (by decide) hn)
  refine ag_iinc (d0_441 3 xs) (y := 3) (ls' := [some (.ref ax_big), some (.ref 0), some (.ref 141), some (.ref 166), some (.int 3), none, none]) rfl (by decide) rfl ?_
  refine ag_goto (d0_444 3 xs) (t := 23) (by decide) ?_
  refine ag_iload (d0_23 3 xs) rfl ?_
  refine ag_aload_n (d0_25 3 xs) rfl ?_
  refine ag_slen rfl (d0_26 3 xs) ?_
  refine ag_top (y := 3) (by decide) ?_
  refine ag_iconst (d0_27 3 xs) (x := 3) (by decide) ?_
  refine ag_isub (d0_28 3 xs) ?_
  refine ag_top (y := 0) (by decide) ?_
  refine ag_icmp_gt (d0_29 3 xs) (t := 447) (by decide) (fun _ => ?_) (fun hn => absurd (by decide) hn)
  refine ag_iconst (d0_447 3 xs) (x := 1) (by decide) ?_
  exact ag_iret (d0_448 3 xs) rfl rfl
theorem z29_103 (L : Nat) (xs : Nat → Int32) {d : Nat} {h : ax_H} {s1 : Int32} (hz : h.2.1 = 167) (F0 : h.1 0 = some (.inr (0, [.ref 1, .ref 3, .ref 87, .ref 137]))) (F3 : h.1 3 = some (.inr (3, [.ref 4, .int 0, .ref 5]))) (F5 : h.1 5 = some (.inr (1, [.ref 6, .int 0]))) : ax_Ca (mgT L xs) (d + 2) 29 [.ref 0, .int s1] h (.inl (some (.int (-1))), h) := by
  refine ag_call (Nat.le_of_ble_eq_true rfl) ?_
  show ax_Go (mgT L xs) (d + 1) 29 0 [some (.ref 0), some (.int s1), none] [] h _
  refine ag_aload_n (d29_0 L xs) rfl ?_
  refine ag_get (d29_1 L xs) (kd := 1) (cj := 0) (k0 := 1) rfl (Or.inl rfl) F0 rfl ?_
  refine ag_invv (d29_4 L xs) (kd := 7) (mj := 30) (n := 0) rfl (Or.inl rfl) (xs := []) (r := []) rfl rfl F3 rfl (Nat.le_of_ble_eq_true rfl) (z30_11 L xs (d := d + 0) (h := _) hz F3) ?_
  refine ag_astore_n (d29_7 L xs) (ls' := [some (.ref 0), some (.int s1), some (.ref 5)]) (Nat.le_of_ble_eq_true rfl) rfl ?_
  refine ag_aload_n (d29_8 L xs) rfl ?_
  refine ag_invv (d29_9 L xs) (kd := 7) (mj := 15) (n := 0) rfl (Or.inl rfl) (xs := []) (r := []) rfl rfl F5 rfl (Nat.le_of_ble_eq_true rfl) (z15_12 L xs (d := d + 0) (h := _) hz F5) ?_
  refine ag_if_ne (d29_12 L xs) (t := 17) (by decide) (fun hp => absurd hp (by decide)) (fun _ => ?_)
  refine ag_iconst (d29_15 L xs) (x := (-1)) (by decide) ?_
  exact ag_iret (d29_16 L xs) rfl rfl
theorem z154_104 (L : Nat) (xs : Nat → Int32) {d : Nat} {h : ax_H} {s1 : Int32} (hz : h.2.1 = 167) (F141 : h.1 141 = some (.inr (9, [.int 0, .int 0, .ref 142, .int 0, .ref 143, .ref 144, .ref 145, .ref 146, .ref 147, .int 0, .int 0, .ref 148, .int 0, .ref 149, .int 0, .int 0, .ref 150, .int 0, .ref 151, .int 0, .ref 152, .ref 153, .int 0, .int 0, .ref 154, .ref 155, .ref 156, .ref 157, .ref 158, .ref 159, .ref 160, .ref 161, .ref 162, .int 0, .int 0, .int 0, .int 0, .int 0, .int 0, .int 0, .int 0, .int 0, .ref 163, .int 0, .int 0, .int 0, .int 0, .ref 164, .ref 165]))) : ax_Ca (mgT L xs) (d + 1) 154 [.ref 141, .int s1] h (.inl (some (.int (-1))), (ax_up h 141 (.inr (9, [.int 0, .int 0, .ref 142, .int 0, .ref 143, .ref 144, .ref 145, .ref 146, .ref 147, .int 0, .int 0, .ref 148, .int 0, .ref 149, .int 0, .int 0, .ref 150, .int 0, .ref 151, .int 0, .ref 152, .ref 153, .int 0, .int 0, .ref 154, .ref 155, .ref 156, .ref 157, .ref 158, .ref 159, .ref 160, .ref 161, .ref 162, .int 0, .int 0, .int 0, .int 0, .int 0, .int 0, .int 0, .int 0, .int 0, .ref 163, .int 0, .int 0, .int 0, .int 0, .ref 164, .ref 165])))) := by
  refine ag_call (Nat.le_of_ble_eq_true rfl) ?_
  show ax_Go (mgT L xs) (d + 0) 154 0 [some (.ref 141), some (.int s1)] [] h _
  refine ag_aload_n (d154_0 L xs) rfl ?_
  refine ag_iconst (d154_1 L xs) (x := 0) (by decide) ?_
  refine ag_put (d154_2 L xs) (cj := 9) (k0 := 0) rfl F141 (ax_lt hz (Nat.le_of_ble_eq_true rfl)) (Nat.le_of_ble_eq_true rfl) rfl rfl ?_
  refine ag_aload_n (d154_5 L xs) rfl ?_
  refine ag_get (d154_6 L xs) (kd := 1) (cj := 9) (k0 := 14) rfl (Or.inl rfl) (ax_up_at _ _ _) rfl ?_
  refine ag_if_ne (d154_9 L xs) (t := 16) (by decide) (fun hp => absurd hp (by decide)) (fun _ => ?_)
  refine ag_iconst (d154_12 L xs) (x := (-1)) (by decide) ?_
  refine ag_goto (d154_13 L xs) (t := 50) (by decide) ?_
  exact ag_iret (d154_50 L xs) rfl rfl
theorem z0_105 (xs : Nat → Int32) {d : Nat} {h : ax_H} {s0 : Int32} (hs0 : xs 0 = s0) {s1 : Int32} (hs1 : xs 1 = s1) (hz : h.2.1 = 167) (F0 : h.1 0 = some (.inr (0, [.ref 1, .ref 3, .ref 87, .ref 137]))) (F3 : h.1 3 = some (.inr (3, [.ref 4, .int 0, .ref 5]))) (F5 : h.1 5 = some (.inr (1, [.ref 6, .int 0]))) (F141 : h.1 141 = some (.inr (9, [.int 0, .int 0, .ref 142, .int 0, .ref 143, .ref 144, .ref 145, .ref 146, .ref 147, .int 0, .int 0, .ref 148, .int 0, .ref 149, .int 0, .int 0, .ref 150, .int 0, .ref 151, .int 0, .ref 152, .ref 153, .int 0, .int 0, .ref 154, .ref 155, .ref 156, .ref 157, .ref 158, .ref 159, .ref 160, .ref 161, .ref 162, .int 0, .int 0, .int 0, .int 0, .int 0, .int 0, .int 0, .int 0, .int 0, .ref 163, .int 0, .int 0, .int 0, .int 0, .ref 164, .ref 165]))) (hj : s0 &&& 15 = 7) : ax_Go (mgT 3 xs) (d + 2) 0 23 [some (.ref ax_big), some (.ref 0), some (.ref 141), some (.ref 166), some (.int 0), none, none] [] h (.inl (some (.int 1)), (ax_up h 141 (.inr (9, [.int 0, .int 0, .ref 142, .int 0, .ref 143, .ref 144, .ref 145, .ref 146, .ref 147, .int 0, .int 0, .ref 148, .int 0, .ref 149, .int 0, .int 0, .ref 150, .int 0, .ref 151, .int 0, .ref 152, .ref 153, .int 0, .int 0, .ref 154, .ref 155, .ref 156, .ref 157, .ref 158, .ref 159, .ref 160, .ref 161, .ref 162, .int 0, .int 0, .int 0, .int 0, .int 0, .int 0, .int 0, .int 0, .int 0, .ref 163, .int 0, .int 0, .int 0, .int 0, .ref 164, .ref 165])))) := by
  refine ag_iload (d0_23 3 xs) rfl ?_
  refine ag_aload_n (d0_25 3 xs) rfl ?_
  refine ag_slen rfl (d0_26 3 xs) ?_
  refine ag_top (y := 3) (by decide) ?_
  refine ag_iconst (d0_27 3 xs) (x := 3) (by decide) ?_
  refine ag_isub (d0_28 3 xs) ?_
  refine ag_top (y := 0) (by decide) ?_
  refine ag_icmp_gt (d0_29 3 xs) (t := 447) (by decide) (fun hp => absurd hp (by decide)) (fun _ => ?_)
  refine ag_aload_n (d0_32 3 xs) rfl ?_
  refine ag_iload (d0_33 3 xs) rfl ?_
  refine ag_sald rfl (d0_35 3 xs) (x := s0) (show ¬ ((0 : Int32) < 0 ∨ 3 ≤ (0 : Int32).toNatClampNeg) from by decide) hs0 ?_
  refine ag_bipush (d0_36 3 xs) (x := 15) (by decide) ?_
  refine ag_iand (d0_38 3 xs) ?_
  refine ag_top (y := 7) hj ?_
  refine ag_tswIn (d0_39 3 xs) (of := 296) (t := 335) (by decide) (by decide) (by decide) ?_
  refine ag_aload_n (d0_335 3 xs) rfl ?_
  refine ag_aload_n (d0_336 3 xs) rfl ?_
  refine ag_iload (d0_337 3 xs) rfl ?_
  refine ag_iconst (d0_339 3 xs) (x := 1) (by decide) ?_
  refine ag_iadd (d0_340 3 xs) ?_
  refine ag_top (y := 1) (by decide) ?_
  refine ag_sald rfl (d0_341 3 xs) (x := s1) (show ¬ ((1 : Int32) < 0 ∨ 3 ≤ (1 : Int32).toNatClampNeg) from by decide) hs1 ?_
  refine ag_invv (d0_342 3 xs) (kd := 7) (mj := 29) (n := 1) rfl (Or.inl rfl) (xs := [.int s1]) (r := []) rfl rfl F0 rfl (Nat.le_of_ble_eq_true rfl) (z29_103 3 xs (d := d + 0) (h := _) (s1 := s1) hz F0 F3 F5) ?_
  refine ag_aload_n (d0_345 3 xs) rfl ?_
  refine ag_aload_n (d0_346 3 xs) rfl ?_
  refine ag_iload (d0_347 3 xs) rfl ?_
  refine ag_iconst (d0_349 3 xs) (x := 1) (by decide) ?_
  refine ag_iadd (d0_350 3 xs) ?_
  refine ag_top (y := 1) (by decide) ?_
  refine ag_sald rfl (d0_351 3 xs) (x := s1) (show ¬ ((1 : Int32) < 0 ∨ 3 ≤ (1 : Int32).toNatClampNeg) from by decide) hs1 ?_
  refine ag_invv (d0_352 3 xs) (kd := 7) (mj := 154) (n := 1) rfl (Or.inl rfl) (xs := [.int s1]) (r := [.int (-1)]) rfl rfl F141 rfl (Nat.le_of_ble_eq_true rfl) (z154_104 3 xs (d := d + 1) (h := _) (s1 := s1) hz F141) ?_
  refine ag_icmp_eq (d0_355 3 xs) (t := 441) (by decide) (fun _ => ?_) (fun hn => absurd (by decide) hn)
  refine ag_iinc (d0_441 3 xs) (y := 3) (ls' := [some (.ref ax_big), some (.ref 0), some (.ref 141), some (.ref 166), some (.int 3), none, none]) rfl (by decide) rfl ?_
  refine ag_goto (d0_444 3 xs) (t := 23) (by decide) ?_
  refine ag_iload (d0_23 3 xs) rfl ?_
  refine ag_aload_n (d0_25 3 xs) rfl ?_
  refine ag_slen rfl (d0_26 3 xs) ?_
  refine ag_top (y := 3) (by decide) ?_
  refine ag_iconst (d0_27 3 xs) (x := 3) (by decide) ?_
  refine ag_isub (d0_28 3 xs) ?_
  refine ag_top (y := 0) (by decide) ?_
  refine ag_icmp_gt (d0_29 3 xs) (t := 447) (by decide) (fun _ => ?_) (fun hn => absurd (by decide) hn)
  refine ag_iconst (d0_447 3 xs) (x := 1) (by decide) ?_
  exact ag_iret (d0_448 3 xs) rfl rfl
theorem z86_106 (L : Nat) (xs : Nat → Int32) {d : Nat} {h : ax_H} {s1 : Int32} (hz : h.2.1 = 167) (F0 : h.1 0 = some (.inr (0, [.ref 1, .ref 3, .ref 87, .ref 137]))) (F1 : h.1 1 = some (.inr (1, [.ref 2, .int 0]))) : ax_Ca (mgT L xs) (d + 3) 86 [.ref 0, .int s1] h (.inr 1, (ax_one h)) := by
  refine ag_callT (Nat.le_of_ble_eq_true rfl) ?_
  show ax_Go (mgT L xs) (d + 2) 86 0 [some (.ref 0), some (.int s1), none] [] h _
  refine ag_aload_n (d86_0 L xs) rfl ?_
  refine ag_get (d86_1 L xs) (kd := 1) (cj := 0) (k0 := 0) rfl (Or.inl rfl) F0 rfl ?_
  refine ag_invv (d86_4 L xs) (kd := 7) (mj := 46) (n := 0) rfl (Or.inl rfl) (xs := []) (r := []) rfl rfl F1 rfl (Nat.le_of_ble_eq_true rfl) (z46_24 L xs (d := d + 0) (h := _) hz F1) ?_
  refine ag_if_eq (d86_7 L xs) (t := 20) (by decide) (fun _ => ?_) (fun hn => absurd (by decide) hn)
  exact ag_thr (d86_20 L xs) rfl (d86_23 L xs) (d86_24 L xs) (d86_27 L xs) (by rw [hz]; decide) (Nat.le_of_ble_eq_true rfl) rfl
theorem z3_107 (L : Nat) (xs : Nat → Int32) {d : Nat} {h : ax_H} {s1 : Int32} (hz : h.2.1 = 167) (F0 : h.1 0 = some (.inr (0, [.ref 1, .ref 3, .ref 87, .ref 137]))) (F1 : h.1 1 = some (.inr (1, [.ref 2, .int 0]))) : ax_Ca (mgT L xs) (d + 4) 3 [.ref 0, .int s1, .ref 166] h (.inl (some (.int 1)), (ax_one h)) := by
  refine ag_call (Nat.le_of_ble_eq_true rfl) ?_
  show ax_Go (mgT L xs) (d + 3) 3 0 [some (.ref 0), some (.int s1), some (.ref 166), none] [] h _
  refine ag_aload_n (d3_0 L xs) rfl ?_
  refine ag_iconst (d3_1 L xs) (x := 0) (by decide) ?_
  refine ag_aload_n (d3_2 L xs) rfl ?_
  refine ag_iload_n (d3_3 L xs) rfl ?_
  refine ag_invc (d3_4 L xs) (mj := 86) (n := 1) rfl (xs := [.int s1]) (r := [.int 0, .ref 166]) rfl rfl F0 rfl (Nat.le_of_ble_eq_true rfl) (z86_106 L xs (d := d + 0) (h := _) (s1 := s1) hz F0 F1) (pc' := 12) rfl ?_
  refine ag_ref (b := 167) (by show (ax_one h).2.1 - 1 = _; rw [(ax_one_sz hz)]) ?_
  refine ag_astore_n (d3_12 L xs) (ls' := [some (.ref 0), some (.int s1), some (.ref 166), some (.ref 167)]) (Nat.le_of_ble_eq_true rfl) rfl ?_
  refine ag_iconst (d3_13 L xs) (x := 1) (by decide) ?_
  exact ag_iret (d3_14 L xs) rfl rfl
theorem z155_108 (L : Nat) (xs : Nat → Int32) {d : Nat} {h : ax_H} {s1 : Int32} (hz : h.2.1 = 168) (F141 : h.1 141 = some (.inr (9, [.int 0, .int 0, .ref 142, .int 0, .ref 143, .ref 144, .ref 145, .ref 146, .ref 147, .int 0, .int 0, .ref 148, .int 0, .ref 149, .int 0, .int 0, .ref 150, .int 0, .ref 151, .int 0, .ref 152, .ref 153, .int 0, .int 0, .ref 154, .ref 155, .ref 156, .ref 157, .ref 158, .ref 159, .ref 160, .ref 161, .ref 162, .int 0, .int 0, .int 0, .int 0, .int 0, .int 0, .int 0, .int 0, .int 0, .ref 163, .int 0, .int 0, .int 0, .int 0, .ref 164, .ref 165]))) : ax_Ca (mgT L xs) (d + 2) 155 [.ref 141, .int s1] h (.inl (some (.int 0)), (ax_up h 141 (.inr (9, [.int 1, .int 0, .ref 142, .int 0, .ref 143, .ref 144, .ref 145, .ref 146, .ref 147, .int 0, .int 0, .ref 148, .int 0, .ref 149, .int 0, .int 0, .ref 150, .int 0, .ref 151, .int 0, .ref 152, .ref 153, .int 0, .int 0, .ref 154, .ref 155, .ref 156, .ref 157, .ref 158, .ref 159, .ref 160, .ref 161, .ref 162, .int 0, .int 0, .int 0, .int 0, .int 0, .int 0, .int 0, .int 0, .int 0, .ref 163, .int 0, .int 0, .int 0, .int 0, .ref 164, .ref 165])))) := by
  refine ag_call (Nat.le_of_ble_eq_true rfl) ?_
  show ax_Go (mgT L xs) (d + 1) 155 0 [some (.ref 141), some (.int s1), none, none, none, none, none, none, none, none, none] [] h _
  refine ag_aload_n (d155_0 L xs) rfl ?_
  refine ag_aload_n (d155_1 L xs) rfl ?_
  refine ag_get (d155_2 L xs) (kd := 1) (cj := 9) (k0 := 2) rfl (Or.inl rfl) F141 rfl ?_
  refine ag_iconst (d155_5 L xs) (x := 0) (by decide) ?_
  refine ag_aload_n (d155_6 L xs) rfl ?_
  refine ag_get (d155_7 L xs) (kd := 1) (cj := 9) (k0 := 1) rfl (Or.inl rfl) F141 rfl ?_
  refine ag_invs (d155_10 L xs) (kd := 6) (mj := 110) (n := 3) rfl (Or.inl rfl) (xs := [.int 0, .int 0, .ref 142]) (r := [.ref 141]) rfl rfl (Nat.le_of_ble_eq_true rfl) (z110_96 L xs (d := d + 0) (h := _) hz ) ?_
  refine ag_if_eq (d155_13 L xs) (t := 26) (by decide) (fun _ => ?_) (fun hn => absurd (by decide) hn)
  refine ag_iconst (d155_26 L xs) (x := 1) (by decide) ?_
  refine ag_goto (d155_27 L xs) (t := 42) (by decide) ?_
  refine ag_put (d155_42 L xs) (cj := 9) (k0 := 0) rfl F141 (ax_lt hz (Nat.le_of_ble_eq_true rfl)) (Nat.le_of_ble_eq_true rfl) rfl rfl ?_
  refine ag_aload_n (d155_45 L xs) rfl ?_
  refine ag_get (d155_46 L xs) (kd := 1) (cj := 9) (k0 := 0) rfl (Or.inl rfl) (ax_up_at _ _ _) rfl ?_
  refine ag_if_le (d155_49 L xs) (t := 54) (by decide) (fun hp => absurd hp (by decide)) (fun _ => ?_)
  refine ag_iconst (d155_52 L xs) (x := 0) (by decide) ?_
  exact ag_iret (d155_53 L xs) rfl rfl
theorem z0_109 (xs : Nat → Int32) {d : Nat} {h : ax_H} {s0 : Int32} (hs0 : xs 0 = s0) {s1 : Int32} (hs1 : xs 1 = s1) (hz : h.2.1 = 167) (F0 : h.1 0 = some (.inr (0, [.ref 1, .ref 3, .ref 87, .ref 137]))) (F1 : h.1 1 = some (.inr (1, [.ref 2, .int 0]))) (F141 : h.1 141 = some (.inr (9, [.int 0, .int 0, .ref 142, .int 0, .ref 143, .ref 144, .ref 145, .ref 146, .ref 147, .int 0, .int 0, .ref 148, .int 0, .ref 149, .int 0, .int 0, .ref 150, .int 0, .ref 151, .int 0, .ref 152, .ref 153, .int 0, .int 0, .ref 154, .ref 155, .ref 156, .ref 157, .ref 158, .ref 159, .ref 160, .ref 161, .ref 162, .int 0, .int 0, .int 0, .int 0, .int 0, .int 0, .int 0, .int 0, .int 0, .ref 163, .int 0, .int 0, .int 0, .int 0, .ref 164, .ref 165]))) (hj : s0 &&& 15 = 8) : ax_Go (mgT 3 xs) (d + 4) 0 23 [some (.ref ax_big), some (.ref 0), some (.ref 141), some (.ref 166), some (.int 0), none, none] [] h (.inl (some (.int 1)), (ax_up (ax_one h) 141 (.inr (9, [.int 1, .int 0, .ref 142, .int 0, .ref 143, .ref 144, .ref 145, .ref 146, .ref 147, .int 0, .int 0, .ref 148, .int 0, .ref 149, .int 0, .int 0, .ref 150, .int 0, .ref 151, .int 0, .ref 152, .ref 153, .int 0, .int 0, .ref 154, .ref 155, .ref 156, .ref 157, .ref 158, .ref 159, .ref 160, .ref 161, .ref 162, .int 0, .int 0, .int 0, .int 0, .int 0, .int 0, .int 0, .int 0, .int 0, .ref 163, .int 0, .int 0, .int 0, .int 0, .ref 164, .ref 165])))) := by
  refine ag_iload (d0_23 3 xs) rfl ?_
  refine ag_aload_n (d0_25 3 xs) rfl ?_
  refine ag_slen rfl (d0_26 3 xs) ?_
  refine ag_top (y := 3) (by decide) ?_
  refine ag_iconst (d0_27 3 xs) (x := 3) (by decide) ?_
  refine ag_isub (d0_28 3 xs) ?_
  refine ag_top (y := 0) (by decide) ?_
  refine ag_icmp_gt (d0_29 3 xs) (t := 447) (by decide) (fun hp => absurd hp (by decide)) (fun _ => ?_)
  refine ag_aload_n (d0_32 3 xs) rfl ?_
  refine ag_iload (d0_33 3 xs) rfl ?_
  refine ag_sald rfl (d0_35 3 xs) (x := s0) (show ¬ ((0 : Int32) < 0 ∨ 3 ≤ (0 : Int32).toNatClampNeg) from by decide) hs0 ?_
  refine ag_bipush (d0_36 3 xs) (x := 15) (by decide) ?_
  refine ag_iand (d0_38 3 xs) ?_
  refine ag_top (y := 8) hj ?_
  refine ag_tswIn (d0_39 3 xs) (of := 321) (t := 360) (by decide) (by decide) (by decide) ?_
  refine ag_aload_n (d0_360 3 xs) rfl ?_
  refine ag_aload_n (d0_361 3 xs) rfl ?_
  refine ag_iload (d0_362 3 xs) rfl ?_
  refine ag_iconst (d0_364 3 xs) (x := 1) (by decide) ?_
  refine ag_iadd (d0_365 3 xs) ?_
  refine ag_top (y := 1) (by decide) ?_
  refine ag_sald rfl (d0_366 3 xs) (x := s1) (show ¬ ((1 : Int32) < 0 ∨ 3 ≤ (1 : Int32).toNatClampNeg) from by decide) hs1 ?_
  refine ag_aload_n (d0_367 3 xs) rfl ?_
  refine ag_invs (d0_368 3 xs) (kd := 26) (mj := 3) (n := 3) rfl (Or.inr (Or.inr rfl)) (xs := [.ref 166, .int s1, .ref 0]) (r := []) rfl rfl (Nat.le_of_ble_eq_true rfl) (z3_107 3 xs (d := d + 0) (h := _) (s1 := s1) hz F0 F1) ?_
  refine ag_istore (d0_371 3 xs) (ls' := [some (.ref ax_big), some (.ref 0), some (.ref 141), some (.ref 166), some (.int 0), some (.int 1), none]) (Nat.le_of_ble_eq_true rfl) rfl ?_
  refine ag_aload_n (d0_373 3 xs) rfl ?_
  refine ag_aload_n (d0_374 3 xs) rfl ?_
  refine ag_iload (d0_375 3 xs) rfl ?_
  refine ag_iconst (d0_377 3 xs) (x := 1) (by decide) ?_
  refine ag_iadd (d0_378 3 xs) ?_
  refine ag_top (y := 1) (by decide) ?_
  refine ag_sald rfl (d0_379 3 xs) (x := s1) (show ¬ ((1 : Int32) < 0 ∨ 3 ≤ (1 : Int32).toNatClampNeg) from by decide) hs1 ?_
  refine ag_invv (d0_380 3 xs) (kd := 7) (mj := 155) (n := 1) rfl (Or.inl rfl) (xs := [.int s1]) (r := []) rfl rfl ((ax_one_at _ 141).trans F141) rfl (Nat.le_of_ble_eq_true rfl) (z155_108 3 xs (d := d + 2) (h := _) (s1 := s1) (ax_one_sz hz) ((ax_one_at _ 141).trans F141)) ?_
  refine ag_istore (d0_383 3 xs) (ls' := [some (.ref ax_big), some (.ref 0), some (.ref 141), some (.ref 166), some (.int 0), some (.int 1), some (.int 0)]) (Nat.le_of_ble_eq_true rfl) rfl ?_
  refine ag_aload_n (d0_385 3 xs) rfl ?_
  refine ag_invv (d0_386 3 xs) (kd := 7) (mj := 105) (n := 0) rfl (Or.inl rfl) (xs := []) (r := []) rfl rfl (ax_up_at _ _ _) rfl (Nat.le_of_ble_eq_true rfl) (z105_98 3 xs (d := d + 3) (h := _) (ax_one_sz hz) (ax_up_at _ _ _)) ?_
  refine ag_iload (d0_389 3 xs) rfl ?_
  refine ag_icmp_eq (d0_391 3 xs) (t := 396) (by decide) (fun _ => ?_) (fun hn => absurd (by decide) hn)
  refine ag_iload (d0_396 3 xs) rfl ?_
  refine ag_if_ne (d0_398 3 xs) (t := 413) (by decide) (fun _ => ?_) (fun hn => absurd (by decide) hn)
  refine ag_goto (d0_413 3 xs) (t := 441) (by decide) ?_
  refine ag_iinc (d0_441 3 xs) (y := 3) (ls' := [some (.ref ax_big), some (.ref 0), some (.ref 141), some (.ref 166), some (.int 3), some (.int 1), some (.int 0)]) rfl (by decide) rfl ?_
  refine ag_goto (d0_444 3 xs) (t := 23) (by decide) ?_
  refine ag_iload (d0_23 3 xs) rfl ?_
  refine ag_aload_n (d0_25 3 xs) rfl ?_
  refine ag_slen rfl (d0_26 3 xs) ?_
  refine ag_top (y := 3) (by decide) ?_
  refine ag_iconst (d0_27 3 xs) (x := 3) (by decide) ?_
  refine ag_isub (d0_28 3 xs) ?_
  refine ag_top (y := 0) (by decide) ?_
  refine ag_icmp_gt (d0_29 3 xs) (t := 447) (by decide) (fun _ => ?_) (fun hn => absurd (by decide) hn)
  refine ag_iconst (d0_447 3 xs) (x := 1) (by decide) ?_
  exact ag_iret (d0_448 3 xs) rfl rfl
theorem z33_110 (L : Nat) (xs : Nat → Int32) {d : Nat} {h : ax_H} (hz : h.2.1 = 167) (F3 : h.1 3 = some (.inr (3, [.ref 4, .int 0, .ref 5]))) : ax_Ca (mgT L xs) (d + 1) 33 [.ref 3] h (.inl (some (.int 0)), h) := by
  refine ag_call (Nat.le_of_ble_eq_true rfl) ?_
  show ax_Go (mgT L xs) (d + 0) 33 0 [some (.ref 3)] [] h _
  refine ag_aload_n (d33_0 L xs) rfl ?_
  refine ag_get (d33_1 L xs) (kd := 1) (cj := 3) (k0 := 1) rfl (Or.inl rfl) F3 rfl ?_
  exact ag_iret (d33_4 L xs) rfl rfl
theorem z32_111 (L : Nat) (xs : Nat → Int32) {d : Nat} {h : ax_H} {s1 : Int32} (hz : h.2.1 = 167) (F0 : h.1 0 = some (.inr (0, [.ref 1, .ref 3, .ref 87, .ref 137]))) (F3 : h.1 3 = some (.inr (3, [.ref 4, .int 0, .ref 5]))) (hc_5 : s1 = (-1)) : ax_Ca (mgT L xs) (d + 2) 32 [.ref 0, .int s1] h (.inl (some (.int 0)), h) := by
  refine ag_call (Nat.le_of_ble_eq_true rfl) ?_
  show ax_Go (mgT L xs) (d + 1) 32 0 [some (.ref 0), some (.int s1), none] [] h _
  refine ag_iload_n (d32_0 L xs) rfl ?_
  refine ag_iconst (d32_1 L xs) (x := (-1)) (by decide) ?_
  refine ag_icmp_ne (d32_2 L xs) (t := 13) (by decide) (fun hp => absurd hp (not_not_intro hc_5)) (fun _ => ?_)
  refine ag_aload_n (d32_5 L xs) rfl ?_
  refine ag_get (d32_6 L xs) (kd := 1) (cj := 0) (k0 := 1) rfl (Or.inl rfl) F0 rfl ?_
  refine ag_invv (d32_9 L xs) (kd := 7) (mj := 33) (n := 0) rfl (Or.inl rfl) (xs := []) (r := []) rfl rfl F3 rfl (Nat.le_of_ble_eq_true rfl) (z33_110 L xs (d := d + 0) (h := _) hz F3) ?_
  exact ag_iret (d32_12 L xs) rfl rfl
theorem z34_112 (L : Nat) (xs : Nat → Int32) {d : Nat} {h : ax_H} {s1 : Int32} (hz : h.2.1 = 167) (hc_3 : s1 < 0) : ax_Ca (mgT L xs) (d + 1) 34 [.ref 3, .int s1] h (.inl (some (.null)), h) := by
  refine ag_call (Nat.le_of_ble_eq_true rfl) ?_
  show ax_Go (mgT L xs) (d + 0) 34 0 [some (.ref 3), some (.int s1)] [] h _
  refine ag_iload_n (d34_0 L xs) rfl ?_
  refine ag_if_lt (d34_1 L xs) (t := 21) (by decide) (fun _ => ?_) (fun hn => absurd hc_3 hn)
  refine ag_null (d34_21 L xs) ?_
  exact ag_aretN (d34_22 L xs) rfl
theorem z34_113 (L : Nat) (xs : Nat → Int32) {d : Nat} {h : ax_H} {s1 : Int32} (hz : h.2.1 = 167) (F3 : h.1 3 = some (.inr (3, [.ref 4, .int 0, .ref 5]))) (hc_3 : ¬ (s1 < 0)) : ax_Ca (mgT L xs) (d + 1) 34 [.ref 3, .int s1] h (.inl (some (.null)), h) := by
  refine ag_call (Nat.le_of_ble_eq_true rfl) ?_
  show ax_Go (mgT L xs) (d + 0) 34 0 [some (.ref 3), some (.int s1)] [] h _
  refine ag_iload_n (d34_0 L xs) rfl ?_
  refine ag_if_lt (d34_1 L xs) (t := 21) (by decide) (fun hp => absurd hp hc_3) (fun _ => ?_)
  refine ag_iload_n (d34_4 L xs) rfl ?_
  refine ag_aload_n (d34_5 L xs) rfl ?_
  refine ag_get (d34_6 L xs) (kd := 1) (cj := 3) (k0 := 1) rfl (Or.inl rfl) F3 rfl ?_
  refine ag_icmp_ge (d34_9 L xs) (t := 21) (by decide) (fun _ => ?_) (fun hn => absurd (Int32.not_lt.mp hc_3) hn)
  refine ag_null (d34_21 L xs) ?_
  exact ag_aretN (d34_22 L xs) rfl
theorem z32_114 (L : Nat) (xs : Nat → Int32) {d : Nat} {h : ax_H} {s1 : Int32} (hz : h.2.1 = 167) (F0 : h.1 0 = some (.inr (0, [.ref 1, .ref 3, .ref 87, .ref 137]))) (F3 : h.1 3 = some (.inr (3, [.ref 4, .int 0, .ref 5]))) (hc_3 : s1 < 0) (hc_5 : ¬ (s1 = (-1))) : ax_Ca (mgT L xs) (d + 2) 32 [.ref 0, .int s1] h (.inl (some (.int (-1))), h) := by
  refine ag_call (Nat.le_of_ble_eq_true rfl) ?_
  show ax_Go (mgT L xs) (d + 1) 32 0 [some (.ref 0), some (.int s1), none] [] h _
  refine ag_iload_n (d32_0 L xs) rfl ?_
  refine ag_iconst (d32_1 L xs) (x := (-1)) (by decide) ?_
  refine ag_icmp_ne (d32_2 L xs) (t := 13) (by decide) (fun _ => ?_) (fun hn => absurd hc_5 hn)
  refine ag_aload_n (d32_13 L xs) rfl ?_
  refine ag_get (d32_14 L xs) (kd := 1) (cj := 0) (k0 := 1) rfl (Or.inl rfl) F0 rfl ?_
  refine ag_iload_n (d32_17 L xs) rfl ?_
  refine ag_invv (d32_18 L xs) (kd := 7) (mj := 34) (n := 1) rfl (Or.inl rfl) (xs := [.int s1]) (r := []) rfl rfl F3 rfl (Nat.le_of_ble_eq_true rfl) (z34_112 L xs (d := d + 0) (h := _) (s1 := s1) hz hc_3) ?_
  refine ag_astore_nN (d32_21 L xs) (ls' := [some (.ref 0), some (.int s1), some (.null)]) (Nat.le_of_ble_eq_true rfl) rfl ?_
  refine ag_aload_nN (d32_22 L xs) rfl ?_
  refine ag_ifnonnullN (d32_23 L xs) ?_
  refine ag_iconst (d32_26 L xs) (x := (-1)) (by decide) ?_
  refine ag_goto (d32_27 L xs) (t := 34) (by decide) ?_
  exact ag_iret (d32_34 L xs) rfl rfl
theorem z32_115 (L : Nat) (xs : Nat → Int32) {d : Nat} {h : ax_H} {s1 : Int32} (hz : h.2.1 = 167) (F0 : h.1 0 = some (.inr (0, [.ref 1, .ref 3, .ref 87, .ref 137]))) (F3 : h.1 3 = some (.inr (3, [.ref 4, .int 0, .ref 5]))) (hc_3 : ¬ (s1 < 0)) (hc_5 : ¬ (s1 = (-1))) : ax_Ca (mgT L xs) (d + 2) 32 [.ref 0, .int s1] h (.inl (some (.int (-1))), h) := by
  refine ag_call (Nat.le_of_ble_eq_true rfl) ?_
  show ax_Go (mgT L xs) (d + 1) 32 0 [some (.ref 0), some (.int s1), none] [] h _
  refine ag_iload_n (d32_0 L xs) rfl ?_
  refine ag_iconst (d32_1 L xs) (x := (-1)) (by decide) ?_
  refine ag_icmp_ne (d32_2 L xs) (t := 13) (by decide) (fun _ => ?_) (fun hn => absurd hc_5 hn)
  refine ag_aload_n (d32_13 L xs) rfl ?_
  refine ag_get (d32_14 L xs) (kd := 1) (cj := 0) (k0 := 1) rfl (Or.inl rfl) F0 rfl ?_
  refine ag_iload_n (d32_17 L xs) rfl ?_
  refine ag_invv (d32_18 L xs) (kd := 7) (mj := 34) (n := 1) rfl (Or.inl rfl) (xs := [.int s1]) (r := []) rfl rfl F3 rfl (Nat.le_of_ble_eq_true rfl) (z34_113 L xs (d := d + 0) (h := _) (s1 := s1) hz F3 hc_3) ?_
  refine ag_astore_nN (d32_21 L xs) (ls' := [some (.ref 0), some (.int s1), some (.null)]) (Nat.le_of_ble_eq_true rfl) rfl ?_
  refine ag_aload_nN (d32_22 L xs) rfl ?_
  refine ag_ifnonnullN (d32_23 L xs) ?_
  refine ag_iconst (d32_26 L xs) (x := (-1)) (by decide) ?_
  refine ag_goto (d32_27 L xs) (t := 34) (by decide) ?_
  exact ag_iret (d32_34 L xs) rfl rfl
theorem z163_116 (L : Nat) (xs : Nat → Int32) {d : Nat} {h : ax_H} {s1 : Int32} (hz : h.2.1 = 167) (F141 : h.1 141 = some (.inr (9, [.int 0, .int 0, .ref 142, .int 0, .ref 143, .ref 144, .ref 145, .ref 146, .ref 147, .int 0, .int 0, .ref 148, .int 0, .ref 149, .int 0, .int 0, .ref 150, .int 0, .ref 151, .int 0, .ref 152, .ref 153, .int 0, .int 0, .ref 154, .ref 155, .ref 156, .ref 157, .ref 158, .ref 159, .ref 160, .ref 161, .ref 162, .int 0, .int 0, .int 0, .int 0, .int 0, .int 0, .int 0, .int 0, .int 0, .ref 163, .int 0, .int 0, .int 0, .int 0, .ref 164, .ref 165]))) (hc_5 : s1 = (-1)) : ax_Ca (mgT L xs) (d + 1) 163 [.ref 141, .int s1] h (.inl (some (.int 0)), (ax_up h 141 (.inr (9, [.int 0, .int 0, .ref 142, .int 0, .ref 143, .ref 144, .ref 145, .ref 146, .ref 147, .int 0, .int 0, .ref 148, .int 0, .ref 149, .int 0, .int 0, .ref 150, .int 0, .ref 151, .int 0, .ref 152, .ref 153, .int 0, .int 0, .ref 154, .ref 155, .ref 156, .ref 157, .ref 158, .ref 159, .ref 160, .ref 161, .ref 162, .int 0, .int 0, .int 0, .int 0, .int 0, .int 0, .int 0, .int 0, .int 0, .ref 163, .int 0, .int 0, .int 0, .int 0, .ref 164, .ref 165])))) := by
  refine ag_call (Nat.le_of_ble_eq_true rfl) ?_
  show ax_Go (mgT L xs) (d + 0) 163 0 [some (.ref 141), some (.int s1)] [] h _
  refine ag_aload_n (d163_0 L xs) rfl ?_
  refine ag_iconst (d163_1 L xs) (x := 0) (by decide) ?_
  refine ag_put (d163_2 L xs) (cj := 9) (k0 := 0) rfl F141 (ax_lt hz (Nat.le_of_ble_eq_true rfl)) (Nat.le_of_ble_eq_true rfl) rfl rfl ?_
  refine ag_iload_n (d163_5 L xs) rfl ?_
  refine ag_iconst (d163_6 L xs) (x := (-1)) (by decide) ?_
  refine ag_icmp_ne (d163_7 L xs) (t := 17) (by decide) (fun hp => absurd hp (not_not_intro hc_5)) (fun _ => ?_)
  refine ag_aload_n (d163_10 L xs) rfl ?_
  refine ag_get (d163_11 L xs) (kd := 1) (cj := 9) (k0 := 3) rfl (Or.inl rfl) (ax_up_at _ _ _) rfl ?_
  refine ag_goto (d163_14 L xs) (t := 39) (by decide) ?_
  exact ag_iret (d163_39 L xs) rfl rfl
theorem z0_117 (xs : Nat → Int32) {d : Nat} {h : ax_H} {s0 : Int32} (hs0 : xs 0 = s0) {s1 : Int32} (hs1 : xs 1 = s1) (hz : h.2.1 = 167) (F0 : h.1 0 = some (.inr (0, [.ref 1, .ref 3, .ref 87, .ref 137]))) (F3 : h.1 3 = some (.inr (3, [.ref 4, .int 0, .ref 5]))) (F141 : h.1 141 = some (.inr (9, [.int 0, .int 0, .ref 142, .int 0, .ref 143, .ref 144, .ref 145, .ref 146, .ref 147, .int 0, .int 0, .ref 148, .int 0, .ref 149, .int 0, .int 0, .ref 150, .int 0, .ref 151, .int 0, .ref 152, .ref 153, .int 0, .int 0, .ref 154, .ref 155, .ref 156, .ref 157, .ref 158, .ref 159, .ref 160, .ref 161, .ref 162, .int 0, .int 0, .int 0, .int 0, .int 0, .int 0, .int 0, .int 0, .int 0, .ref 163, .int 0, .int 0, .int 0, .int 0, .ref 164, .ref 165]))) (hc_5 : s1 = (-1)) (hj : s0 &&& 15 = 9) : ax_Go (mgT 3 xs) (d + 2) 0 23 [some (.ref ax_big), some (.ref 0), some (.ref 141), some (.ref 166), some (.int 0), none, none] [] h (.inl (some (.int 1)), (ax_up h 141 (.inr (9, [.int 0, .int 0, .ref 142, .int 0, .ref 143, .ref 144, .ref 145, .ref 146, .ref 147, .int 0, .int 0, .ref 148, .int 0, .ref 149, .int 0, .int 0, .ref 150, .int 0, .ref 151, .int 0, .ref 152, .ref 153, .int 0, .int 0, .ref 154, .ref 155, .ref 156, .ref 157, .ref 158, .ref 159, .ref 160, .ref 161, .ref 162, .int 0, .int 0, .int 0, .int 0, .int 0, .int 0, .int 0, .int 0, .int 0, .ref 163, .int 0, .int 0, .int 0, .int 0, .ref 164, .ref 165])))) := by
  refine ag_iload (d0_23 3 xs) rfl ?_
  refine ag_aload_n (d0_25 3 xs) rfl ?_
  refine ag_slen rfl (d0_26 3 xs) ?_
  refine ag_top (y := 3) (by decide) ?_
  refine ag_iconst (d0_27 3 xs) (x := 3) (by decide) ?_
  refine ag_isub (d0_28 3 xs) ?_
  refine ag_top (y := 0) (by decide) ?_
  refine ag_icmp_gt (d0_29 3 xs) (t := 447) (by decide) (fun hp => absurd hp (by decide)) (fun _ => ?_)
  refine ag_aload_n (d0_32 3 xs) rfl ?_
  refine ag_iload (d0_33 3 xs) rfl ?_
  refine ag_sald rfl (d0_35 3 xs) (x := s0) (show ¬ ((0 : Int32) < 0 ∨ 3 ≤ (0 : Int32).toNatClampNeg) from by decide) hs0 ?_
  refine ag_bipush (d0_36 3 xs) (x := 15) (by decide) ?_
  refine ag_iand (d0_38 3 xs) ?_
  refine ag_top (y := 9) hj ?_
  refine ag_tswIn (d0_39 3 xs) (of := 377) (t := 416) (by decide) (by decide) (by decide) ?_
  refine ag_aload_n (d0_416 3 xs) rfl ?_
  refine ag_aload_n (d0_417 3 xs) rfl ?_
  refine ag_iload (d0_418 3 xs) rfl ?_
  refine ag_iconst (d0_420 3 xs) (x := 1) (by decide) ?_
  refine ag_iadd (d0_421 3 xs) ?_
  refine ag_top (y := 1) (by decide) ?_
  refine ag_sald rfl (d0_422 3 xs) (x := s1) (show ¬ ((1 : Int32) < 0 ∨ 3 ≤ (1 : Int32).toNatClampNeg) from by decide) hs1 ?_
  refine ag_invv (d0_423 3 xs) (kd := 7) (mj := 32) (n := 1) rfl (Or.inl rfl) (xs := [.int s1]) (r := []) rfl rfl F0 rfl (Nat.le_of_ble_eq_true rfl) (z32_111 3 xs (d := d + 0) (h := _) (s1 := s1) hz F0 F3 hc_5) ?_
  refine ag_aload_n (d0_426 3 xs) rfl ?_
  refine ag_aload_n (d0_427 3 xs) rfl ?_
  refine ag_iload (d0_428 3 xs) rfl ?_
  refine ag_iconst (d0_430 3 xs) (x := 1) (by decide) ?_
  refine ag_iadd (d0_431 3 xs) ?_
  refine ag_top (y := 1) (by decide) ?_
  refine ag_sald rfl (d0_432 3 xs) (x := s1) (show ¬ ((1 : Int32) < 0 ∨ 3 ≤ (1 : Int32).toNatClampNeg) from by decide) hs1 ?_
  refine ag_invv (d0_433 3 xs) (kd := 7) (mj := 163) (n := 1) rfl (Or.inl rfl) (xs := [.int s1]) (r := [.int 0]) rfl rfl F141 rfl (Nat.le_of_ble_eq_true rfl) (z163_116 3 xs (d := d + 1) (h := _) (s1 := s1) hz F141 hc_5) ?_
  refine ag_icmp_eq (d0_436 3 xs) (t := 441) (by decide) (fun _ => ?_) (fun hn => absurd (by decide) hn)
  refine ag_iinc (d0_441 3 xs) (y := 3) (ls' := [some (.ref ax_big), some (.ref 0), some (.ref 141), some (.ref 166), some (.int 3), none, none]) rfl (by decide) rfl ?_
  refine ag_goto (d0_444 3 xs) (t := 23) (by decide) ?_
  refine ag_iload (d0_23 3 xs) rfl ?_
  refine ag_aload_n (d0_25 3 xs) rfl ?_
  refine ag_slen rfl (d0_26 3 xs) ?_
  refine ag_top (y := 3) (by decide) ?_
  refine ag_iconst (d0_27 3 xs) (x := 3) (by decide) ?_
  refine ag_isub (d0_28 3 xs) ?_
  refine ag_top (y := 0) (by decide) ?_
  refine ag_icmp_gt (d0_29 3 xs) (t := 447) (by decide) (fun _ => ?_) (fun hn => absurd (by decide) hn)
  refine ag_iconst (d0_447 3 xs) (x := 1) (by decide) ?_
  exact ag_iret (d0_448 3 xs) rfl rfl
theorem z163_118 (L : Nat) (xs : Nat → Int32) {d : Nat} {h : ax_H} {s1 : Int32} (hz : h.2.1 = 167) (F141 : h.1 141 = some (.inr (9, [.int 0, .int 0, .ref 142, .int 0, .ref 143, .ref 144, .ref 145, .ref 146, .ref 147, .int 0, .int 0, .ref 148, .int 0, .ref 149, .int 0, .int 0, .ref 150, .int 0, .ref 151, .int 0, .ref 152, .ref 153, .int 0, .int 0, .ref 154, .ref 155, .ref 156, .ref 157, .ref 158, .ref 159, .ref 160, .ref 161, .ref 162, .int 0, .int 0, .int 0, .int 0, .int 0, .int 0, .int 0, .int 0, .int 0, .ref 163, .int 0, .int 0, .int 0, .int 0, .ref 164, .ref 165]))) (hc_3 : s1 < 0) (hc_5 : ¬ (s1 = (-1))) : ax_Ca (mgT L xs) (d + 1) 163 [.ref 141, .int s1] h (.inl (some (.int (-1))), (ax_up h 141 (.inr (9, [.int 0, .int 0, .ref 142, .int 0, .ref 143, .ref 144, .ref 145, .ref 146, .ref 147, .int 0, .int 0, .ref 148, .int 0, .ref 149, .int 0, .int 0, .ref 150, .int 0, .ref 151, .int 0, .ref 152, .ref 153, .int 0, .int 0, .ref 154, .ref 155, .ref 156, .ref 157, .ref 158, .ref 159, .ref 160, .ref 161, .ref 162, .int 0, .int 0, .int 0, .int 0, .int 0, .int 0, .int 0, .int 0, .int 0, .ref 163, .int 0, .int 0, .int 0, .int 0, .ref 164, .ref 165])))) := by
  refine ag_call (Nat.le_of_ble_eq_true rfl) ?_
  show ax_Go (mgT L xs) (d + 0) 163 0 [some (.ref 141), some (.int s1)] [] h _
  refine ag_aload_n (d163_0 L xs) rfl ?_
  refine ag_iconst (d163_1 L xs) (x := 0) (by decide) ?_
  refine ag_put (d163_2 L xs) (cj := 9) (k0 := 0) rfl F141 (ax_lt hz (Nat.le_of_ble_eq_true rfl)) (Nat.le_of_ble_eq_true rfl) rfl rfl ?_
  refine ag_iload_n (d163_5 L xs) rfl ?_
  refine ag_iconst (d163_6 L xs) (x := (-1)) (by decide) ?_
  refine ag_icmp_ne (d163_7 L xs) (t := 17) (by decide) (fun _ => ?_) (fun hn => absurd hc_5 hn)
  refine ag_iload_n (d163_17 L xs) rfl ?_
  refine ag_if_lt (d163_18 L xs) (t := 29) (by decide) (fun _ => ?_) (fun hn => absurd hc_3 hn)
  refine ag_iconst (d163_29 L xs) (x := (-1)) (by decide) ?_
  refine ag_goto (d163_30 L xs) (t := 39) (by decide) ?_
  exact ag_iret (d163_39 L xs) rfl rfl
theorem z0_119 (xs : Nat → Int32) {d : Nat} {h : ax_H} {s0 : Int32} (hs0 : xs 0 = s0) {s1 : Int32} (hs1 : xs 1 = s1) (hz : h.2.1 = 167) (F0 : h.1 0 = some (.inr (0, [.ref 1, .ref 3, .ref 87, .ref 137]))) (F3 : h.1 3 = some (.inr (3, [.ref 4, .int 0, .ref 5]))) (F141 : h.1 141 = some (.inr (9, [.int 0, .int 0, .ref 142, .int 0, .ref 143, .ref 144, .ref 145, .ref 146, .ref 147, .int 0, .int 0, .ref 148, .int 0, .ref 149, .int 0, .int 0, .ref 150, .int 0, .ref 151, .int 0, .ref 152, .ref 153, .int 0, .int 0, .ref 154, .ref 155, .ref 156, .ref 157, .ref 158, .ref 159, .ref 160, .ref 161, .ref 162, .int 0, .int 0, .int 0, .int 0, .int 0, .int 0, .int 0, .int 0, .int 0, .ref 163, .int 0, .int 0, .int 0, .int 0, .ref 164, .ref 165]))) (hc_3 : s1 < 0) (hc_5 : ¬ (s1 = (-1))) (hj : s0 &&& 15 = 9) : ax_Go (mgT 3 xs) (d + 2) 0 23 [some (.ref ax_big), some (.ref 0), some (.ref 141), some (.ref 166), some (.int 0), none, none] [] h (.inl (some (.int 1)), (ax_up h 141 (.inr (9, [.int 0, .int 0, .ref 142, .int 0, .ref 143, .ref 144, .ref 145, .ref 146, .ref 147, .int 0, .int 0, .ref 148, .int 0, .ref 149, .int 0, .int 0, .ref 150, .int 0, .ref 151, .int 0, .ref 152, .ref 153, .int 0, .int 0, .ref 154, .ref 155, .ref 156, .ref 157, .ref 158, .ref 159, .ref 160, .ref 161, .ref 162, .int 0, .int 0, .int 0, .int 0, .int 0, .int 0, .int 0, .int 0, .int 0, .ref 163, .int 0, .int 0, .int 0, .int 0, .ref 164, .ref 165])))) := by
  refine ag_iload (d0_23 3 xs) rfl ?_
  refine ag_aload_n (d0_25 3 xs) rfl ?_
  refine ag_slen rfl (d0_26 3 xs) ?_
  refine ag_top (y := 3) (by decide) ?_
  refine ag_iconst (d0_27 3 xs) (x := 3) (by decide) ?_
  refine ag_isub (d0_28 3 xs) ?_
  refine ag_top (y := 0) (by decide) ?_
  refine ag_icmp_gt (d0_29 3 xs) (t := 447) (by decide) (fun hp => absurd hp (by decide)) (fun _ => ?_)
  refine ag_aload_n (d0_32 3 xs) rfl ?_
  refine ag_iload (d0_33 3 xs) rfl ?_
  refine ag_sald rfl (d0_35 3 xs) (x := s0) (show ¬ ((0 : Int32) < 0 ∨ 3 ≤ (0 : Int32).toNatClampNeg) from by decide) hs0 ?_
  refine ag_bipush (d0_36 3 xs) (x := 15) (by decide) ?_
  refine ag_iand (d0_38 3 xs) ?_
  refine ag_top (y := 9) hj ?_
  refine ag_tswIn (d0_39 3 xs) (of := 377) (t := 416) (by decide) (by decide) (by decide) ?_
  refine ag_aload_n (d0_416 3 xs) rfl ?_
  refine ag_aload_n (d0_417 3 xs) rfl ?_
  refine ag_iload (d0_418 3 xs) rfl ?_
  refine ag_iconst (d0_420 3 xs) (x := 1) (by decide) ?_
  refine ag_iadd (d0_421 3 xs) ?_
  refine ag_top (y := 1) (by decide) ?_
  refine ag_sald rfl (d0_422 3 xs) (x := s1) (show ¬ ((1 : Int32) < 0 ∨ 3 ≤ (1 : Int32).toNatClampNeg) from by decide) hs1 ?_
  refine ag_invv (d0_423 3 xs) (kd := 7) (mj := 32) (n := 1) rfl (Or.inl rfl) (xs := [.int s1]) (r := []) rfl rfl F0 rfl (Nat.le_of_ble_eq_true rfl) (z32_114 3 xs (d := d + 0) (h := _) (s1 := s1) hz F0 F3 hc_3 hc_5) ?_
  refine ag_aload_n (d0_426 3 xs) rfl ?_
  refine ag_aload_n (d0_427 3 xs) rfl ?_
  refine ag_iload (d0_428 3 xs) rfl ?_
  refine ag_iconst (d0_430 3 xs) (x := 1) (by decide) ?_
  refine ag_iadd (d0_431 3 xs) ?_
  refine ag_top (y := 1) (by decide) ?_
  refine ag_sald rfl (d0_432 3 xs) (x := s1) (show ¬ ((1 : Int32) < 0 ∨ 3 ≤ (1 : Int32).toNatClampNeg) from by decide) hs1 ?_
  refine ag_invv (d0_433 3 xs) (kd := 7) (mj := 163) (n := 1) rfl (Or.inl rfl) (xs := [.int s1]) (r := [.int (-1)]) rfl rfl F141 rfl (Nat.le_of_ble_eq_true rfl) (z163_118 3 xs (d := d + 1) (h := _) (s1 := s1) hz F141 hc_3 hc_5) ?_
  refine ag_icmp_eq (d0_436 3 xs) (t := 441) (by decide) (fun _ => ?_) (fun hn => absurd (by decide) hn)
  refine ag_iinc (d0_441 3 xs) (y := 3) (ls' := [some (.ref ax_big), some (.ref 0), some (.ref 141), some (.ref 166), some (.int 3), none, none]) rfl (by decide) rfl ?_
  refine ag_goto (d0_444 3 xs) (t := 23) (by decide) ?_
  refine ag_iload (d0_23 3 xs) rfl ?_
  refine ag_aload_n (d0_25 3 xs) rfl ?_
  refine ag_slen rfl (d0_26 3 xs) ?_
  refine ag_top (y := 3) (by decide) ?_
  refine ag_iconst (d0_27 3 xs) (x := 3) (by decide) ?_
  refine ag_isub (d0_28 3 xs) ?_
  refine ag_top (y := 0) (by decide) ?_
  refine ag_icmp_gt (d0_29 3 xs) (t := 447) (by decide) (fun _ => ?_) (fun hn => absurd (by decide) hn)
  refine ag_iconst (d0_447 3 xs) (x := 1) (by decide) ?_
  exact ag_iret (d0_448 3 xs) rfl rfl
theorem z163_120 (L : Nat) (xs : Nat → Int32) {d : Nat} {h : ax_H} {s1 : Int32} (hz : h.2.1 = 167) (F141 : h.1 141 = some (.inr (9, [.int 0, .int 0, .ref 142, .int 0, .ref 143, .ref 144, .ref 145, .ref 146, .ref 147, .int 0, .int 0, .ref 148, .int 0, .ref 149, .int 0, .int 0, .ref 150, .int 0, .ref 151, .int 0, .ref 152, .ref 153, .int 0, .int 0, .ref 154, .ref 155, .ref 156, .ref 157, .ref 158, .ref 159, .ref 160, .ref 161, .ref 162, .int 0, .int 0, .int 0, .int 0, .int 0, .int 0, .int 0, .int 0, .int 0, .ref 163, .int 0, .int 0, .int 0, .int 0, .ref 164, .ref 165]))) (hc_3 : ¬ (s1 < 0)) (hc_5 : ¬ (s1 = (-1))) : ax_Ca (mgT L xs) (d + 1) 163 [.ref 141, .int s1] h (.inl (some (.int (-1))), (ax_up h 141 (.inr (9, [.int 0, .int 0, .ref 142, .int 0, .ref 143, .ref 144, .ref 145, .ref 146, .ref 147, .int 0, .int 0, .ref 148, .int 0, .ref 149, .int 0, .int 0, .ref 150, .int 0, .ref 151, .int 0, .ref 152, .ref 153, .int 0, .int 0, .ref 154, .ref 155, .ref 156, .ref 157, .ref 158, .ref 159, .ref 160, .ref 161, .ref 162, .int 0, .int 0, .int 0, .int 0, .int 0, .int 0, .int 0, .int 0, .int 0, .ref 163, .int 0, .int 0, .int 0, .int 0, .ref 164, .ref 165])))) := by
  refine ag_call (Nat.le_of_ble_eq_true rfl) ?_
  show ax_Go (mgT L xs) (d + 0) 163 0 [some (.ref 141), some (.int s1)] [] h _
  refine ag_aload_n (d163_0 L xs) rfl ?_
  refine ag_iconst (d163_1 L xs) (x := 0) (by decide) ?_
  refine ag_put (d163_2 L xs) (cj := 9) (k0 := 0) rfl F141 (ax_lt hz (Nat.le_of_ble_eq_true rfl)) (Nat.le_of_ble_eq_true rfl) rfl rfl ?_
  refine ag_iload_n (d163_5 L xs) rfl ?_
  refine ag_iconst (d163_6 L xs) (x := (-1)) (by decide) ?_
  refine ag_icmp_ne (d163_7 L xs) (t := 17) (by decide) (fun _ => ?_) (fun hn => absurd hc_5 hn)
  refine ag_iload_n (d163_17 L xs) rfl ?_
  refine ag_if_lt (d163_18 L xs) (t := 29) (by decide) (fun hp => absurd hp hc_3) (fun _ => ?_)
  refine ag_iload_n (d163_21 L xs) rfl ?_
  refine ag_aload_n (d163_22 L xs) rfl ?_
  refine ag_get (d163_23 L xs) (kd := 1) (cj := 9) (k0 := 3) rfl (Or.inl rfl) (ax_up_at _ _ _) rfl ?_
  refine ag_icmp_lt (d163_26 L xs) (t := 33) (by decide) (fun hp => absurd hp hc_3) (fun _ => ?_)
  refine ag_iconst (d163_29 L xs) (x := (-1)) (by decide) ?_
  refine ag_goto (d163_30 L xs) (t := 39) (by decide) ?_
  exact ag_iret (d163_39 L xs) rfl rfl
theorem z0_121 (xs : Nat → Int32) {d : Nat} {h : ax_H} {s0 : Int32} (hs0 : xs 0 = s0) {s1 : Int32} (hs1 : xs 1 = s1) (hz : h.2.1 = 167) (F0 : h.1 0 = some (.inr (0, [.ref 1, .ref 3, .ref 87, .ref 137]))) (F3 : h.1 3 = some (.inr (3, [.ref 4, .int 0, .ref 5]))) (F141 : h.1 141 = some (.inr (9, [.int 0, .int 0, .ref 142, .int 0, .ref 143, .ref 144, .ref 145, .ref 146, .ref 147, .int 0, .int 0, .ref 148, .int 0, .ref 149, .int 0, .int 0, .ref 150, .int 0, .ref 151, .int 0, .ref 152, .ref 153, .int 0, .int 0, .ref 154, .ref 155, .ref 156, .ref 157, .ref 158, .ref 159, .ref 160, .ref 161, .ref 162, .int 0, .int 0, .int 0, .int 0, .int 0, .int 0, .int 0, .int 0, .int 0, .ref 163, .int 0, .int 0, .int 0, .int 0, .ref 164, .ref 165]))) (hc_3 : ¬ (s1 < 0)) (hc_5 : ¬ (s1 = (-1))) (hj : s0 &&& 15 = 9) : ax_Go (mgT 3 xs) (d + 2) 0 23 [some (.ref ax_big), some (.ref 0), some (.ref 141), some (.ref 166), some (.int 0), none, none] [] h (.inl (some (.int 1)), (ax_up h 141 (.inr (9, [.int 0, .int 0, .ref 142, .int 0, .ref 143, .ref 144, .ref 145, .ref 146, .ref 147, .int 0, .int 0, .ref 148, .int 0, .ref 149, .int 0, .int 0, .ref 150, .int 0, .ref 151, .int 0, .ref 152, .ref 153, .int 0, .int 0, .ref 154, .ref 155, .ref 156, .ref 157, .ref 158, .ref 159, .ref 160, .ref 161, .ref 162, .int 0, .int 0, .int 0, .int 0, .int 0, .int 0, .int 0, .int 0, .int 0, .ref 163, .int 0, .int 0, .int 0, .int 0, .ref 164, .ref 165])))) := by
  refine ag_iload (d0_23 3 xs) rfl ?_
  refine ag_aload_n (d0_25 3 xs) rfl ?_
  refine ag_slen rfl (d0_26 3 xs) ?_
  refine ag_top (y := 3) (by decide) ?_
  refine ag_iconst (d0_27 3 xs) (x := 3) (by decide) ?_
  refine ag_isub (d0_28 3 xs) ?_
  refine ag_top (y := 0) (by decide) ?_
  refine ag_icmp_gt (d0_29 3 xs) (t := 447) (by decide) (fun hp => absurd hp (by decide)) (fun _ => ?_)
  refine ag_aload_n (d0_32 3 xs) rfl ?_
  refine ag_iload (d0_33 3 xs) rfl ?_
  refine ag_sald rfl (d0_35 3 xs) (x := s0) (show ¬ ((0 : Int32) < 0 ∨ 3 ≤ (0 : Int32).toNatClampNeg) from by decide) hs0 ?_
  refine ag_bipush (d0_36 3 xs) (x := 15) (by decide) ?_
  refine ag_iand (d0_38 3 xs) ?_
  refine ag_top (y := 9) hj ?_
  refine ag_tswIn (d0_39 3 xs) (of := 377) (t := 416) (by decide) (by decide) (by decide) ?_
  refine ag_aload_n (d0_416 3 xs) rfl ?_
  refine ag_aload_n (d0_417 3 xs) rfl ?_
  refine ag_iload (d0_418 3 xs) rfl ?_
  refine ag_iconst (d0_420 3 xs) (x := 1) (by decide) ?_
  refine ag_iadd (d0_421 3 xs) ?_
  refine ag_top (y := 1) (by decide) ?_
  refine ag_sald rfl (d0_422 3 xs) (x := s1) (show ¬ ((1 : Int32) < 0 ∨ 3 ≤ (1 : Int32).toNatClampNeg) from by decide) hs1 ?_
  refine ag_invv (d0_423 3 xs) (kd := 7) (mj := 32) (n := 1) rfl (Or.inl rfl) (xs := [.int s1]) (r := []) rfl rfl F0 rfl (Nat.le_of_ble_eq_true rfl) (z32_115 3 xs (d := d + 0) (h := _) (s1 := s1) hz F0 F3 hc_3 hc_5) ?_
  refine ag_aload_n (d0_426 3 xs) rfl ?_
  refine ag_aload_n (d0_427 3 xs) rfl ?_
  refine ag_iload (d0_428 3 xs) rfl ?_
  refine ag_iconst (d0_430 3 xs) (x := 1) (by decide) ?_
  refine ag_iadd (d0_431 3 xs) ?_
  refine ag_top (y := 1) (by decide) ?_
  refine ag_sald rfl (d0_432 3 xs) (x := s1) (show ¬ ((1 : Int32) < 0 ∨ 3 ≤ (1 : Int32).toNatClampNeg) from by decide) hs1 ?_
  refine ag_invv (d0_433 3 xs) (kd := 7) (mj := 163) (n := 1) rfl (Or.inl rfl) (xs := [.int s1]) (r := [.int (-1)]) rfl rfl F141 rfl (Nat.le_of_ble_eq_true rfl) (z163_120 3 xs (d := d + 1) (h := _) (s1 := s1) hz F141 hc_3 hc_5) ?_
  refine ag_icmp_eq (d0_436 3 xs) (t := 441) (by decide) (fun _ => ?_) (fun hn => absurd (by decide) hn)
  refine ag_iinc (d0_441 3 xs) (y := 3) (ls' := [some (.ref ax_big), some (.ref 0), some (.ref 141), some (.ref 166), some (.int 3), none, none]) rfl (by decide) rfl ?_
  refine ag_goto (d0_444 3 xs) (t := 23) (by decide) ?_
  refine ag_iload (d0_23 3 xs) rfl ?_
  refine ag_aload_n (d0_25 3 xs) rfl ?_
  refine ag_slen rfl (d0_26 3 xs) ?_
  refine ag_top (y := 3) (by decide) ?_
  refine ag_iconst (d0_27 3 xs) (x := 3) (by decide) ?_
  refine ag_isub (d0_28 3 xs) ?_
  refine ag_top (y := 0) (by decide) ?_
  refine ag_icmp_gt (d0_29 3 xs) (t := 447) (by decide) (fun _ => ?_) (fun hn => absurd (by decide) hn)
  refine ag_iconst (d0_447 3 xs) (x := 1) (by decide) ?_
  exact ag_iret (d0_448 3 xs) rfl rfl
theorem z0_122 (xs : Nat → Int32) {d : Nat} {h : ax_H} {s0 : Int32} (hs0 : xs 0 = s0) (hz : h.2.1 = 167) (hj : s0 &&& 15 = 10) : ax_Go (mgT 3 xs) (d + 0) 0 23 [some (.ref ax_big), some (.ref 0), some (.ref 141), some (.ref 166), some (.int 0), none, none] [] h (.inl (some (.int 1)), h) := by
  refine ag_iload (d0_23 3 xs) rfl ?_
  refine ag_aload_n (d0_25 3 xs) rfl ?_
  refine ag_slen rfl (d0_26 3 xs) ?_
  refine ag_top (y := 3) (by decide) ?_
  refine ag_iconst (d0_27 3 xs) (x := 3) (by decide) ?_
  refine ag_isub (d0_28 3 xs) ?_
  refine ag_top (y := 0) (by decide) ?_
  refine ag_icmp_gt (d0_29 3 xs) (t := 447) (by decide) (fun hp => absurd hp (by decide)) (fun _ => ?_)
  refine ag_aload_n (d0_32 3 xs) rfl ?_
  refine ag_iload (d0_33 3 xs) rfl ?_
  refine ag_sald rfl (d0_35 3 xs) (x := s0) (show ¬ ((0 : Int32) < 0 ∨ 3 ≤ (0 : Int32).toNatClampNeg) from by decide) hs0 ?_
  refine ag_bipush (d0_36 3 xs) (x := 15) (by decide) ?_
  refine ag_iand (d0_38 3 xs) ?_
  refine ag_top (y := 10) hj ?_
  refine ag_tswOut (d0_39 3 xs) (t := 441) (by decide) (by decide) ?_
  refine ag_iinc (d0_441 3 xs) (y := 3) (ls' := [some (.ref ax_big), some (.ref 0), some (.ref 141), some (.ref 166), some (.int 3), none, none]) rfl (by decide) rfl ?_
  refine ag_goto (d0_444 3 xs) (t := 23) (by decide) ?_
  refine ag_iload (d0_23 3 xs) rfl ?_
  refine ag_aload_n (d0_25 3 xs) rfl ?_
  refine ag_slen rfl (d0_26 3 xs) ?_
  refine ag_top (y := 3) (by decide) ?_
  refine ag_iconst (d0_27 3 xs) (x := 3) (by decide) ?_
  refine ag_isub (d0_28 3 xs) ?_
  refine ag_top (y := 0) (by decide) ?_
  refine ag_icmp_gt (d0_29 3 xs) (t := 447) (by decide) (fun _ => ?_) (fun hn => absurd (by decide) hn)
  refine ag_iconst (d0_447 3 xs) (x := 1) (by decide) ?_
  exact ag_iret (d0_448 3 xs) rfl rfl
theorem z0_123 (xs : Nat → Int32) {d : Nat} {h : ax_H} {s0 : Int32} (hs0 : xs 0 = s0) (hz : h.2.1 = 167) (hj : s0 &&& 15 = 11) : ax_Go (mgT 3 xs) (d + 0) 0 23 [some (.ref ax_big), some (.ref 0), some (.ref 141), some (.ref 166), some (.int 0), none, none] [] h (.inl (some (.int 1)), h) := by
  refine ag_iload (d0_23 3 xs) rfl ?_
  refine ag_aload_n (d0_25 3 xs) rfl ?_
  refine ag_slen rfl (d0_26 3 xs) ?_
  refine ag_top (y := 3) (by decide) ?_
  refine ag_iconst (d0_27 3 xs) (x := 3) (by decide) ?_
  refine ag_isub (d0_28 3 xs) ?_
  refine ag_top (y := 0) (by decide) ?_
  refine ag_icmp_gt (d0_29 3 xs) (t := 447) (by decide) (fun hp => absurd hp (by decide)) (fun _ => ?_)
  refine ag_aload_n (d0_32 3 xs) rfl ?_
  refine ag_iload (d0_33 3 xs) rfl ?_
  refine ag_sald rfl (d0_35 3 xs) (x := s0) (show ¬ ((0 : Int32) < 0 ∨ 3 ≤ (0 : Int32).toNatClampNeg) from by decide) hs0 ?_
  refine ag_bipush (d0_36 3 xs) (x := 15) (by decide) ?_
  refine ag_iand (d0_38 3 xs) ?_
  refine ag_top (y := 11) hj ?_
  refine ag_tswOut (d0_39 3 xs) (t := 441) (by decide) (by decide) ?_
  refine ag_iinc (d0_441 3 xs) (y := 3) (ls' := [some (.ref ax_big), some (.ref 0), some (.ref 141), some (.ref 166), some (.int 3), none, none]) rfl (by decide) rfl ?_
  refine ag_goto (d0_444 3 xs) (t := 23) (by decide) ?_
  refine ag_iload (d0_23 3 xs) rfl ?_
  refine ag_aload_n (d0_25 3 xs) rfl ?_
  refine ag_slen rfl (d0_26 3 xs) ?_
  refine ag_top (y := 3) (by decide) ?_
  refine ag_iconst (d0_27 3 xs) (x := 3) (by decide) ?_
  refine ag_isub (d0_28 3 xs) ?_
  refine ag_top (y := 0) (by decide) ?_
  refine ag_icmp_gt (d0_29 3 xs) (t := 447) (by decide) (fun _ => ?_) (fun hn => absurd (by decide) hn)
  refine ag_iconst (d0_447 3 xs) (x := 1) (by decide) ?_
  exact ag_iret (d0_448 3 xs) rfl rfl
theorem z0_124 (xs : Nat → Int32) {d : Nat} {h : ax_H} {s0 : Int32} (hs0 : xs 0 = s0) (hz : h.2.1 = 167) (hj : s0 &&& 15 = 12) : ax_Go (mgT 3 xs) (d + 0) 0 23 [some (.ref ax_big), some (.ref 0), some (.ref 141), some (.ref 166), some (.int 0), none, none] [] h (.inl (some (.int 1)), h) := by
  refine ag_iload (d0_23 3 xs) rfl ?_
  refine ag_aload_n (d0_25 3 xs) rfl ?_
  refine ag_slen rfl (d0_26 3 xs) ?_
  refine ag_top (y := 3) (by decide) ?_
  refine ag_iconst (d0_27 3 xs) (x := 3) (by decide) ?_
  refine ag_isub (d0_28 3 xs) ?_
  refine ag_top (y := 0) (by decide) ?_
  refine ag_icmp_gt (d0_29 3 xs) (t := 447) (by decide) (fun hp => absurd hp (by decide)) (fun _ => ?_)
  refine ag_aload_n (d0_32 3 xs) rfl ?_
  refine ag_iload (d0_33 3 xs) rfl ?_
  refine ag_sald rfl (d0_35 3 xs) (x := s0) (show ¬ ((0 : Int32) < 0 ∨ 3 ≤ (0 : Int32).toNatClampNeg) from by decide) hs0 ?_
  refine ag_bipush (d0_36 3 xs) (x := 15) (by decide) ?_
  refine ag_iand (d0_38 3 xs) ?_
  refine ag_top (y := 12) hj ?_
  refine ag_tswOut (d0_39 3 xs) (t := 441) (by decide) (by decide) ?_
  refine ag_iinc (d0_441 3 xs) (y := 3) (ls' := [some (.ref ax_big), some (.ref 0), some (.ref 141), some (.ref 166), some (.int 3), none, none]) rfl (by decide) rfl ?_
  refine ag_goto (d0_444 3 xs) (t := 23) (by decide) ?_
  refine ag_iload (d0_23 3 xs) rfl ?_
  refine ag_aload_n (d0_25 3 xs) rfl ?_
  refine ag_slen rfl (d0_26 3 xs) ?_
  refine ag_top (y := 3) (by decide) ?_
  refine ag_iconst (d0_27 3 xs) (x := 3) (by decide) ?_
  refine ag_isub (d0_28 3 xs) ?_
  refine ag_top (y := 0) (by decide) ?_
  refine ag_icmp_gt (d0_29 3 xs) (t := 447) (by decide) (fun _ => ?_) (fun hn => absurd (by decide) hn)
  refine ag_iconst (d0_447 3 xs) (x := 1) (by decide) ?_
  exact ag_iret (d0_448 3 xs) rfl rfl
theorem z0_125 (xs : Nat → Int32) {d : Nat} {h : ax_H} {s0 : Int32} (hs0 : xs 0 = s0) (hz : h.2.1 = 167) (hj : s0 &&& 15 = 13) : ax_Go (mgT 3 xs) (d + 0) 0 23 [some (.ref ax_big), some (.ref 0), some (.ref 141), some (.ref 166), some (.int 0), none, none] [] h (.inl (some (.int 1)), h) := by
  refine ag_iload (d0_23 3 xs) rfl ?_
  refine ag_aload_n (d0_25 3 xs) rfl ?_
  refine ag_slen rfl (d0_26 3 xs) ?_
  refine ag_top (y := 3) (by decide) ?_
  refine ag_iconst (d0_27 3 xs) (x := 3) (by decide) ?_
  refine ag_isub (d0_28 3 xs) ?_
  refine ag_top (y := 0) (by decide) ?_
  refine ag_icmp_gt (d0_29 3 xs) (t := 447) (by decide) (fun hp => absurd hp (by decide)) (fun _ => ?_)
  refine ag_aload_n (d0_32 3 xs) rfl ?_
  refine ag_iload (d0_33 3 xs) rfl ?_
  refine ag_sald rfl (d0_35 3 xs) (x := s0) (show ¬ ((0 : Int32) < 0 ∨ 3 ≤ (0 : Int32).toNatClampNeg) from by decide) hs0 ?_
  refine ag_bipush (d0_36 3 xs) (x := 15) (by decide) ?_
  refine ag_iand (d0_38 3 xs) ?_
  refine ag_top (y := 13) hj ?_
  refine ag_tswOut (d0_39 3 xs) (t := 441) (by decide) (by decide) ?_
  refine ag_iinc (d0_441 3 xs) (y := 3) (ls' := [some (.ref ax_big), some (.ref 0), some (.ref 141), some (.ref 166), some (.int 3), none, none]) rfl (by decide) rfl ?_
  refine ag_goto (d0_444 3 xs) (t := 23) (by decide) ?_
  refine ag_iload (d0_23 3 xs) rfl ?_
  refine ag_aload_n (d0_25 3 xs) rfl ?_
  refine ag_slen rfl (d0_26 3 xs) ?_
  refine ag_top (y := 3) (by decide) ?_
  refine ag_iconst (d0_27 3 xs) (x := 3) (by decide) ?_
  refine ag_isub (d0_28 3 xs) ?_
  refine ag_top (y := 0) (by decide) ?_
  refine ag_icmp_gt (d0_29 3 xs) (t := 447) (by decide) (fun _ => ?_) (fun hn => absurd (by decide) hn)
  refine ag_iconst (d0_447 3 xs) (x := 1) (by decide) ?_
  exact ag_iret (d0_448 3 xs) rfl rfl
theorem z0_126 (xs : Nat → Int32) {d : Nat} {h : ax_H} {s0 : Int32} (hs0 : xs 0 = s0) (hz : h.2.1 = 167) (hj : s0 &&& 15 = 14) : ax_Go (mgT 3 xs) (d + 0) 0 23 [some (.ref ax_big), some (.ref 0), some (.ref 141), some (.ref 166), some (.int 0), none, none] [] h (.inl (some (.int 1)), h) := by
  refine ag_iload (d0_23 3 xs) rfl ?_
  refine ag_aload_n (d0_25 3 xs) rfl ?_
  refine ag_slen rfl (d0_26 3 xs) ?_
  refine ag_top (y := 3) (by decide) ?_
  refine ag_iconst (d0_27 3 xs) (x := 3) (by decide) ?_
  refine ag_isub (d0_28 3 xs) ?_
  refine ag_top (y := 0) (by decide) ?_
  refine ag_icmp_gt (d0_29 3 xs) (t := 447) (by decide) (fun hp => absurd hp (by decide)) (fun _ => ?_)
  refine ag_aload_n (d0_32 3 xs) rfl ?_
  refine ag_iload (d0_33 3 xs) rfl ?_
  refine ag_sald rfl (d0_35 3 xs) (x := s0) (show ¬ ((0 : Int32) < 0 ∨ 3 ≤ (0 : Int32).toNatClampNeg) from by decide) hs0 ?_
  refine ag_bipush (d0_36 3 xs) (x := 15) (by decide) ?_
  refine ag_iand (d0_38 3 xs) ?_
  refine ag_top (y := 14) hj ?_
  refine ag_tswOut (d0_39 3 xs) (t := 441) (by decide) (by decide) ?_
  refine ag_iinc (d0_441 3 xs) (y := 3) (ls' := [some (.ref ax_big), some (.ref 0), some (.ref 141), some (.ref 166), some (.int 3), none, none]) rfl (by decide) rfl ?_
  refine ag_goto (d0_444 3 xs) (t := 23) (by decide) ?_
  refine ag_iload (d0_23 3 xs) rfl ?_
  refine ag_aload_n (d0_25 3 xs) rfl ?_
  refine ag_slen rfl (d0_26 3 xs) ?_
  refine ag_top (y := 3) (by decide) ?_
  refine ag_iconst (d0_27 3 xs) (x := 3) (by decide) ?_
  refine ag_isub (d0_28 3 xs) ?_
  refine ag_top (y := 0) (by decide) ?_
  refine ag_icmp_gt (d0_29 3 xs) (t := 447) (by decide) (fun _ => ?_) (fun hn => absurd (by decide) hn)
  refine ag_iconst (d0_447 3 xs) (x := 1) (by decide) ?_
  exact ag_iret (d0_448 3 xs) rfl rfl
theorem z0_127 (xs : Nat → Int32) {d : Nat} {h : ax_H} {s0 : Int32} (hs0 : xs 0 = s0) (hz : h.2.1 = 167) (hj : s0 &&& 15 = 15) : ax_Go (mgT 3 xs) (d + 0) 0 23 [some (.ref ax_big), some (.ref 0), some (.ref 141), some (.ref 166), some (.int 0), none, none] [] h (.inl (some (.int 1)), h) := by
  refine ag_iload (d0_23 3 xs) rfl ?_
  refine ag_aload_n (d0_25 3 xs) rfl ?_
  refine ag_slen rfl (d0_26 3 xs) ?_
  refine ag_top (y := 3) (by decide) ?_
  refine ag_iconst (d0_27 3 xs) (x := 3) (by decide) ?_
  refine ag_isub (d0_28 3 xs) ?_
  refine ag_top (y := 0) (by decide) ?_
  refine ag_icmp_gt (d0_29 3 xs) (t := 447) (by decide) (fun hp => absurd hp (by decide)) (fun _ => ?_)
  refine ag_aload_n (d0_32 3 xs) rfl ?_
  refine ag_iload (d0_33 3 xs) rfl ?_
  refine ag_sald rfl (d0_35 3 xs) (x := s0) (show ¬ ((0 : Int32) < 0 ∨ 3 ≤ (0 : Int32).toNatClampNeg) from by decide) hs0 ?_
  refine ag_bipush (d0_36 3 xs) (x := 15) (by decide) ?_
  refine ag_iand (d0_38 3 xs) ?_
  refine ag_top (y := 15) hj ?_
  refine ag_tswOut (d0_39 3 xs) (t := 441) (by decide) (by decide) ?_
  refine ag_iinc (d0_441 3 xs) (y := 3) (ls' := [some (.ref ax_big), some (.ref 0), some (.ref 141), some (.ref 166), some (.int 3), none, none]) rfl (by decide) rfl ?_
  refine ag_goto (d0_444 3 xs) (t := 23) (by decide) ?_
  refine ag_iload (d0_23 3 xs) rfl ?_
  refine ag_aload_n (d0_25 3 xs) rfl ?_
  refine ag_slen rfl (d0_26 3 xs) ?_
  refine ag_top (y := 3) (by decide) ?_
  refine ag_iconst (d0_27 3 xs) (x := 3) (by decide) ?_
  refine ag_isub (d0_28 3 xs) ?_
  refine ag_top (y := 0) (by decide) ?_
  refine ag_icmp_gt (d0_29 3 xs) (t := 447) (by decide) (fun _ => ?_) (fun hn => absurd (by decide) hn)
  refine ag_iconst (d0_447 3 xs) (x := 1) (by decide) ?_
  exact ag_iret (d0_448 3 xs) rfl rfl
theorem z0_128 (xs : Nat → Int32) {d : Nat} {h : ax_H} (hz : h.2.1 = 167) : ax_Go (mgT 0 xs) (d + 0) 0 23 [some (.ref ax_big), some (.ref 0), some (.ref 141), some (.ref 166), some (.int 0), none, none] [] h (.inl (some (.int 1)), h) := by
  refine ag_iload (d0_23 0 xs) rfl ?_
  refine ag_aload_n (d0_25 0 xs) rfl ?_
  refine ag_slen rfl (d0_26 0 xs) ?_
  refine ag_top (y := 0) (by decide) ?_
  refine ag_iconst (d0_27 0 xs) (x := 3) (by decide) ?_
  refine ag_isub (d0_28 0 xs) ?_
  refine ag_top (y := (-3)) (by decide) ?_
  refine ag_icmp_gt (d0_29 0 xs) (t := 447) (by decide) (fun _ => ?_) (fun hn => absurd (by decide) hn)
  refine ag_iconst (d0_447 0 xs) (x := 1) (by decide) ?_
  exact ag_iret (d0_448 0 xs) rfl rfl
theorem z0_129 (xs : Nat → Int32) {d : Nat} {h : ax_H} (hz : h.2.1 = 167) : ax_Go (mgT 1 xs) (d + 0) 0 23 [some (.ref ax_big), some (.ref 0), some (.ref 141), some (.ref 166), some (.int 0), none, none] [] h (.inl (some (.int 1)), h) := by
  refine ag_iload (d0_23 1 xs) rfl ?_
  refine ag_aload_n (d0_25 1 xs) rfl ?_
  refine ag_slen rfl (d0_26 1 xs) ?_
  refine ag_top (y := 1) (by decide) ?_
  refine ag_iconst (d0_27 1 xs) (x := 3) (by decide) ?_
  refine ag_isub (d0_28 1 xs) ?_
  refine ag_top (y := (-2)) (by decide) ?_
  refine ag_icmp_gt (d0_29 1 xs) (t := 447) (by decide) (fun _ => ?_) (fun hn => absurd (by decide) hn)
  refine ag_iconst (d0_447 1 xs) (x := 1) (by decide) ?_
  exact ag_iret (d0_448 1 xs) rfl rfl
theorem z0_130 (xs : Nat → Int32) {d : Nat} {h : ax_H} (hz : h.2.1 = 167) : ax_Go (mgT 2 xs) (d + 0) 0 23 [some (.ref ax_big), some (.ref 0), some (.ref 141), some (.ref 166), some (.int 0), none, none] [] h (.inl (some (.int 1)), h) := by
  refine ag_iload (d0_23 2 xs) rfl ?_
  refine ag_aload_n (d0_25 2 xs) rfl ?_
  refine ag_slen rfl (d0_26 2 xs) ?_
  refine ag_top (y := 2) (by decide) ?_
  refine ag_iconst (d0_27 2 xs) (x := 3) (by decide) ?_
  refine ag_isub (d0_28 2 xs) ?_
  refine ag_top (y := (-1)) (by decide) ?_
  refine ag_icmp_gt (d0_29 2 xs) (t := 447) (by decide) (fun _ => ?_) (fun hn => absurd (by decide) hn)
  refine ag_iconst (d0_447 2 xs) (x := 1) (by decide) ?_
  exact ag_iret (d0_448 2 xs) rfl rfl
theorem z0_131 (xs : Nat → Int32) {d : Nat} {h : ax_H} {s0 : Int32} (hs0 : xs 0 = s0) {s1 : Int32} (hs1 : xs 1 = s1) {s2 : Int32} (hs2 : xs 2 = s2) (hz : h.2.1 = 167) (hj : s0 &&& 15 = 0) {o : ax_O} (kk : ax_Go (mgT 3 xs) (d + 0) 0 115 [some (.ref ax_big), some (.ref 0), some (.ref 141), some (.ref 166), some (.int 0), none, none] [.long ((((s1).toInt64) <<< ((32 : Int32).toInt64 &&& 63)) ||| (((s2).toInt64) &&& (Int64.ofNat 4294967295))), .ref 0] h o) : ax_Go (mgT 3 xs) (d + 0) 0 23 [some (.ref ax_big), some (.ref 0), some (.ref 141), some (.ref 166), some (.int 0), none, none] [] h o := by
  refine ag_iload (d0_23 3 xs) rfl ?_
  refine ag_aload_n (d0_25 3 xs) rfl ?_
  refine ag_slen rfl (d0_26 3 xs) ?_
  refine ag_top (y := 3) (by decide) ?_
  refine ag_iconst (d0_27 3 xs) (x := 3) (by decide) ?_
  refine ag_isub (d0_28 3 xs) ?_
  refine ag_top (y := 0) (by decide) ?_
  refine ag_icmp_gt (d0_29 3 xs) (t := 447) (by decide) (fun hp => absurd hp (by decide)) (fun _ => ?_)
  refine ag_aload_n (d0_32 3 xs) rfl ?_
  refine ag_iload (d0_33 3 xs) rfl ?_
  refine ag_sald rfl (d0_35 3 xs) (x := s0) (show ¬ ((0 : Int32) < 0 ∨ 3 ≤ (0 : Int32).toNatClampNeg) from by decide) hs0 ?_
  refine ag_bipush (d0_36 3 xs) (x := 15) (by decide) ?_
  refine ag_iand (d0_38 3 xs) ?_
  refine ag_top (y := 0) hj ?_
  refine ag_tswIn (d0_39 3 xs) (of := 53) (t := 92) (by decide) (by decide) (by decide) ?_
  refine ag_aload_n (d0_92 3 xs) rfl ?_
  refine ag_aload_n (d0_93 3 xs) rfl ?_
  refine ag_iload (d0_94 3 xs) rfl ?_
  refine ag_iconst (d0_96 3 xs) (x := 1) (by decide) ?_
  refine ag_iadd (d0_97 3 xs) ?_
  refine ag_top (y := 1) (by decide) ?_
  refine ag_sald rfl (d0_98 3 xs) (x := s1) (show ¬ ((1 : Int32) < 0 ∨ 3 ≤ (1 : Int32).toNatClampNeg) from by decide) hs1 ?_
  refine ag_i2l (d0_99 3 xs) ?_
  refine ag_bipush (d0_100 3 xs) (x := 32) (by decide) ?_
  refine ag_lshl (d0_102 3 xs) ?_
  refine ag_aload_n (d0_103 3 xs) rfl ?_
  refine ag_iload (d0_104 3 xs) rfl ?_
  refine ag_iconst (d0_106 3 xs) (x := 2) (by decide) ?_
  refine ag_iadd (d0_107 3 xs) ?_
  refine ag_top (y := 2) (by decide) ?_
  refine ag_sald rfl (d0_108 3 xs) (x := s2) (show ¬ ((2 : Int32) < 0 ∨ 3 ≤ (2 : Int32).toNatClampNeg) from by decide) hs2 ?_
  refine ag_i2l (d0_109 3 xs) ?_
  refine ag_ldc2 (d0_110 3 xs) (v := 4294967295) rfl ?_
  refine ag_land (d0_113 3 xs) ?_
  refine ag_lor (d0_114 3 xs) ?_
  exact kk
theorem z0_132 (xs : Nat → Int32) {d : Nat} {h : ax_H} {r : Int32} {s1 : Int32} (hs1 : xs 1 = s1) {s2 : Int32} (hs2 : xs 2 = s2) (hz : h.2.1 = 167) {o : ax_O} (kk : ax_Go (mgT 3 xs) (d + 0) 0 141 [some (.ref ax_big), some (.ref 0), some (.ref 141), some (.ref 166), some (.int 0), none, none] [.long ((((s1).toInt64) <<< ((32 : Int32).toInt64 &&& 63)) ||| (((s2).toInt64) &&& (Int64.ofNat 4294967295))), .ref 141, .int r] h o) : ax_Go (mgT 3 xs) (d + 0) 0 118 [some (.ref ax_big), some (.ref 0), some (.ref 141), some (.ref 166), some (.int 0), none, none] [.int r] h o := by
  refine ag_aload_n (d0_118 3 xs) rfl ?_
  refine ag_aload_n (d0_119 3 xs) rfl ?_
  refine ag_iload (d0_120 3 xs) rfl ?_
  refine ag_iconst (d0_122 3 xs) (x := 1) (by decide) ?_
  refine ag_iadd (d0_123 3 xs) ?_
  refine ag_top (y := 1) (by decide) ?_
  refine ag_sald rfl (d0_124 3 xs) (x := s1) (show ¬ ((1 : Int32) < 0 ∨ 3 ≤ (1 : Int32).toNatClampNeg) from by decide) hs1 ?_
  refine ag_i2l (d0_125 3 xs) ?_
  refine ag_bipush (d0_126 3 xs) (x := 32) (by decide) ?_
  refine ag_lshl (d0_128 3 xs) ?_
  refine ag_aload_n (d0_129 3 xs) rfl ?_
  refine ag_iload (d0_130 3 xs) rfl ?_
  refine ag_iconst (d0_132 3 xs) (x := 2) (by decide) ?_
  refine ag_iadd (d0_133 3 xs) ?_
  refine ag_top (y := 2) (by decide) ?_
  refine ag_sald rfl (d0_134 3 xs) (x := s2) (show ¬ ((2 : Int32) < 0 ∨ 3 ≤ (2 : Int32).toNatClampNeg) from by decide) hs2 ?_
  refine ag_i2l (d0_135 3 xs) ?_
  refine ag_ldc2 (d0_136 3 xs) (v := 4294967295) rfl ?_
  refine ag_land (d0_139 3 xs) ?_
  refine ag_lor (d0_140 3 xs) ?_
  exact kk
theorem z0_133 (xs : Nat → Int32) {d : Nat} {h : ax_H} (hz : h.2.1 = 167) : ax_Go (mgT 3 xs) (d + 0) 0 441 [some (.ref ax_big), some (.ref 0), some (.ref 141), some (.ref 166), some (.int 0), none, none] [] h (.inl (some (.int 1)), h) := by
  refine ag_iinc (d0_441 3 xs) (y := 3) (ls' := [some (.ref ax_big), some (.ref 0), some (.ref 141), some (.ref 166), some (.int 3), none, none]) rfl (by decide) rfl ?_
  refine ag_goto (d0_444 3 xs) (t := 23) (by decide) ?_
  refine ag_iload (d0_23 3 xs) rfl ?_
  refine ag_aload_n (d0_25 3 xs) rfl ?_
  refine ag_slen rfl (d0_26 3 xs) ?_
  refine ag_top (y := 3) (by decide) ?_
  refine ag_iconst (d0_27 3 xs) (x := 3) (by decide) ?_
  refine ag_isub (d0_28 3 xs) ?_
  refine ag_top (y := 0) (by decide) ?_
  refine ag_icmp_gt (d0_29 3 xs) (t := 447) (by decide) (fun _ => ?_) (fun hn => absurd (by decide) hn)
  refine ag_iconst (d0_447 3 xs) (x := 1) (by decide) ?_
  exact ag_iret (d0_448 3 xs) rfl rfl
