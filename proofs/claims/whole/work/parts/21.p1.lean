theorem z18_1 (L : Nat) (xs : Nat → Int32) {d : Nat} {h : ax_H} (hz : h.2.1 = 167) (F1 : h.1 1 = some (.inr (1, [.ref 2, .int 0]))) : ax_Ca (mgT L xs) (d + 1) 18 [.ref 1] h (.inl none, (ax_up h 1 (.inr (1, [.ref 2, .int 0])))) := by
  refine ag_call (Nat.le_of_ble_eq_true rfl) ?_
  show ax_Go (mgT L xs) (d + 0) 18 0 [some (.ref 1)] [] h _
  refine ag_aload_n (d18_0 L xs) rfl ?_
  refine ag_iconst (d18_1 L xs) (x := 0) (by decide) ?_
  refine ag_put (d18_2 L xs) (cj := 1) (k0 := 1) rfl F1 (by rw [hz]; decide) (Nat.le_of_ble_eq_true rfl) rfl rfl ?_
  exact ag_vret (d18_5 L xs) rfl
theorem z17_2 (L : Nat) (xs : Nat → Int32) {d : Nat} {h : ax_H} (hz : h.2.1 = 167) (F0 : h.1 0 = some (.inr (0, [.ref 1, .ref 3, .ref 87, .ref 137]))) (F1 : h.1 1 = some (.inr (1, [.ref 2, .int 0]))) : ax_Ca (mgT L xs) (d + 2) 17 [.ref 0] h (.inl none, (ax_up h 1 (.inr (1, [.ref 2, .int 0])))) := by
  refine ag_call (Nat.le_of_ble_eq_true rfl) ?_
  show ax_Go (mgT L xs) (d + 1) 17 0 [some (.ref 0)] [] h _
  refine ag_aload_n (d17_0 L xs) rfl ?_
  refine ag_get (d17_1 L xs) (kd := 1) (cj := 0) (k0 := 0) rfl (Or.inl rfl) F0 rfl ?_
  refine ag_invv (d17_4 L xs) (kd := 7) (mj := 18) (n := 0) rfl (Or.inl rfl) (xs := []) (r := []) rfl rfl F1 rfl (Nat.le_of_ble_eq_true rfl) (z18_1 L xs (d := d + 0) (h := _) hz F1) ?_
  exact ag_vret (d17_7 L xs) rfl
theorem z15_3 (L : Nat) (xs : Nat → Int32) {d : Nat} {h : ax_H} (hz : h.2.1 = 167) (F1 : h.1 1 = some (.inr (1, [.ref 2, .int 0]))) : ax_Ca (mgT L xs) (d + 1) 15 [.ref 1] h (.inl (some (.int 0)), h) := by
  refine ag_call (Nat.le_of_ble_eq_true rfl) ?_
  show ax_Go (mgT L xs) (d + 0) 15 0 [some (.ref 1)] [] h _
  refine ag_aload_n (d15_0 L xs) rfl ?_
  refine ag_get (d15_1 L xs) (kd := 1) (cj := 1) (k0 := 1) rfl (Or.inl rfl) F1 rfl ?_
  exact ag_iret (d15_4 L xs) rfl rfl
theorem z19_4 (L : Nat) (xs : Nat → Int32) {d : Nat} {h : ax_H} (hz : h.2.1 = 167) (F0 : h.1 0 = some (.inr (0, [.ref 1, .ref 3, .ref 87, .ref 137]))) (F1 : h.1 1 = some (.inr (1, [.ref 2, .int 0]))) : ax_Ca (mgT L xs) (d + 2) 19 [.ref 0] h (.inl (some (.int 0)), h) := by
  refine ag_call (Nat.le_of_ble_eq_true rfl) ?_
  show ax_Go (mgT L xs) (d + 1) 19 0 [some (.ref 0)] [] h _
  refine ag_aload_n (d19_0 L xs) rfl ?_
  refine ag_get (d19_1 L xs) (kd := 1) (cj := 0) (k0 := 0) rfl (Or.inl rfl) F0 rfl ?_
  refine ag_invv (d19_4 L xs) (kd := 7) (mj := 15) (n := 0) rfl (Or.inl rfl) (xs := []) (r := []) rfl rfl F1 rfl (Nat.le_of_ble_eq_true rfl) (z15_3 L xs (d := d + 0) (h := _) hz F1) ?_
  exact ag_iret (d19_7 L xs) rfl rfl
theorem z21_5 (L : Nat) (xs : Nat → Int32) {d : Nat} {h : ax_H} {k : Int32} (hz : h.2.1 = 167) (hc_0 : k < 0) : ax_Ca (mgT L xs) (d + 1) 21 [.ref 3, .int k] h (.inl (some (.int 0)), h) := by
  refine ag_call (Nat.le_of_ble_eq_true rfl) ?_
  show ax_Go (mgT L xs) (d + 0) 21 0 [some (.ref 3), some (.int k), none, none] [] h _
  refine ag_iload_n (d21_0 L xs) rfl ?_
  refine ag_if_lt (d21_1 L xs) (t := 12) (by decide) (fun _ => ?_) (fun hn => absurd hc_0 hn)
  refine ag_iconst (d21_12 L xs) (x := 0) (by decide) ?_
  exact ag_iret (d21_13 L xs) rfl rfl
theorem z21_6 (L : Nat) (xs : Nat → Int32) {d : Nat} {h : ax_H} {k : Int32} (hz : h.2.1 = 167) (F3 : h.1 3 = some (.inr (3, [.ref 4, .int 0, .ref 5]))) (hc_0 : ¬ (k < 0)) : ax_Ca (mgT L xs) (d + 1) 21 [.ref 3, .int k] h (.inl (some (.int 0)), h) := by
  refine ag_call (Nat.le_of_ble_eq_true rfl) ?_
  show ax_Go (mgT L xs) (d + 0) 21 0 [some (.ref 3), some (.int k), none, none] [] h _
  refine ag_iload_n (d21_0 L xs) rfl ?_
  refine ag_if_lt (d21_1 L xs) (t := 12) (by decide) (fun hp => absurd hp hc_0) (fun _ => ?_)
  refine ag_iload_n (d21_4 L xs) rfl ?_
  refine ag_aload_n (d21_5 L xs) rfl ?_
  refine ag_get (d21_6 L xs) (kd := 1) (cj := 3) (k0 := 1) rfl (Or.inl rfl) F3 rfl ?_
  refine ag_icmp_lt (d21_9 L xs) (t := 14) (by decide) (fun hp => absurd hp hc_0) (fun _ => ?_)
  refine ag_iconst (d21_12 L xs) (x := 0) (by decide) ?_
  exact ag_iret (d21_13 L xs) rfl rfl
theorem z20_7 (L : Nat) (xs : Nat → Int32) {d : Nat} {h : ax_H} {k : Int32} (hz : h.2.1 = 167) (F0 : h.1 0 = some (.inr (0, [.ref 1, .ref 3, .ref 87, .ref 137]))) (F3 : h.1 3 = some (.inr (3, [.ref 4, .int 0, .ref 5]))) (hc_0 : k < 0) : ax_Ca (mgT L xs) (d + 2) 20 [.ref 0, .int k] h (.inl (some (.int 0)), h) := by
  refine ag_call (Nat.le_of_ble_eq_true rfl) ?_
  show ax_Go (mgT L xs) (d + 1) 20 0 [some (.ref 0), some (.int k)] [] h _
  refine ag_aload_n (d20_0 L xs) rfl ?_
  refine ag_get (d20_1 L xs) (kd := 1) (cj := 0) (k0 := 1) rfl (Or.inl rfl) F0 rfl ?_
  refine ag_iload_n (d20_4 L xs) rfl ?_
  refine ag_invv (d20_5 L xs) (kd := 7) (mj := 21) (n := 1) rfl (Or.inl rfl) (xs := [.int k]) (r := []) rfl rfl F3 rfl (Nat.le_of_ble_eq_true rfl) (z21_5 L xs (d := d + 0) (h := _) (k := k) hz hc_0) ?_
  exact ag_iret (d20_8 L xs) rfl rfl
theorem z20_8 (L : Nat) (xs : Nat → Int32) {d : Nat} {h : ax_H} {k : Int32} (hz : h.2.1 = 167) (F0 : h.1 0 = some (.inr (0, [.ref 1, .ref 3, .ref 87, .ref 137]))) (F3 : h.1 3 = some (.inr (3, [.ref 4, .int 0, .ref 5]))) (hc_0 : ¬ (k < 0)) : ax_Ca (mgT L xs) (d + 2) 20 [.ref 0, .int k] h (.inl (some (.int 0)), h) := by
  refine ag_call (Nat.le_of_ble_eq_true rfl) ?_
  show ax_Go (mgT L xs) (d + 1) 20 0 [some (.ref 0), some (.int k)] [] h _
  refine ag_aload_n (d20_0 L xs) rfl ?_
  refine ag_get (d20_1 L xs) (kd := 1) (cj := 0) (k0 := 1) rfl (Or.inl rfl) F0 rfl ?_
  refine ag_iload_n (d20_4 L xs) rfl ?_
  refine ag_invv (d20_5 L xs) (kd := 7) (mj := 21) (n := 1) rfl (Or.inl rfl) (xs := [.int k]) (r := []) rfl rfl F3 rfl (Nat.le_of_ble_eq_true rfl) (z21_6 L xs (d := d + 0) (h := _) (k := k) hz F3 hc_0) ?_
  exact ag_iret (d20_8 L xs) rfl rfl
theorem z23_9 (L : Nat) (xs : Nat → Int32) {d : Nat} {h : ax_H} (hz : h.2.1 = 167) (F87 : h.1 87 = some (.inr (6, [.ref 3, .ref 88, .ref 89, .ref 91, .int 0, .int (-1), .int 0, .int 0, .int 0, .int 0]))) : ax_Ca (mgT L xs) (d + 1) 23 [.ref 87] h (.inl (some (.int 0)), h) := by
  refine ag_call (Nat.le_of_ble_eq_true rfl) ?_
  show ax_Go (mgT L xs) (d + 0) 23 0 [some (.ref 87)] [] h _
  refine ag_aload_n (d23_0 L xs) rfl ?_
  refine ag_get (d23_1 L xs) (kd := 1) (cj := 6) (k0 := 5) rfl (Or.inl rfl) F87 rfl ?_
  refine ag_iconst (d23_4 L xs) (x := (-1)) (by decide) ?_
  refine ag_icmp_eq (d23_5 L xs) (t := 12) (by decide) (fun _ => ?_) (fun hn => absurd (by decide) hn)
  refine ag_iconst (d23_12 L xs) (x := 0) (by decide) ?_
  exact ag_iret (d23_13 L xs) rfl rfl
theorem z22_10 (L : Nat) (xs : Nat → Int32) {d : Nat} {h : ax_H} {k : Int32} (hz : h.2.1 = 167) (F0 : h.1 0 = some (.inr (0, [.ref 1, .ref 3, .ref 87, .ref 137]))) (F87 : h.1 87 = some (.inr (6, [.ref 3, .ref 88, .ref 89, .ref 91, .int 0, .int (-1), .int 0, .int 0, .int 0, .int 0]))) : ax_Ca (mgT L xs) (d + 2) 22 [.ref 0, .int k] h (.inl (some (.int (-1))), h) := by
  refine ag_call (Nat.le_of_ble_eq_true rfl) ?_
  show ax_Go (mgT L xs) (d + 1) 22 0 [some (.ref 0), some (.int k)] [] h _
  refine ag_aload_n (d22_0 L xs) rfl ?_
  refine ag_get (d22_1 L xs) (kd := 1) (cj := 0) (k0 := 2) rfl (Or.inl rfl) F0 rfl ?_
  refine ag_invv (d22_4 L xs) (kd := 7) (mj := 23) (n := 0) rfl (Or.inl rfl) (xs := []) (r := []) rfl rfl F87 rfl (Nat.le_of_ble_eq_true rfl) (z23_9 L xs (d := d + 0) (h := _) hz F87) ?_
  refine ag_if_ne (d22_7 L xs) (t := 12) (by decide) (fun hp => absurd hp (by decide)) (fun _ => ?_)
  refine ag_iconst (d22_10 L xs) (x := (-1)) (by decide) ?_
  exact ag_iret (d22_11 L xs) rfl rfl
theorem z30_11 (L : Nat) (xs : Nat → Int32) {d : Nat} {h : ax_H} (hz : h.2.1 = 167) (F3 : h.1 3 = some (.inr (3, [.ref 4, .int 0, .ref 5]))) : ax_Ca (mgT L xs) (d + 1) 30 [.ref 3] h (.inl (some (.ref 5)), h) := by
  refine ag_call (Nat.le_of_ble_eq_true rfl) ?_
  show ax_Go (mgT L xs) (d + 0) 30 0 [some (.ref 3)] [] h _
  refine ag_aload_n (d30_0 L xs) rfl ?_
  refine ag_get (d30_1 L xs) (kd := 1) (cj := 3) (k0 := 2) rfl (Or.inl rfl) F3 rfl ?_
  exact ag_aret (d30_4 L xs) rfl
theorem z15_12 (L : Nat) (xs : Nat → Int32) {d : Nat} {h : ax_H} (hz : h.2.1 = 167) (F5 : h.1 5 = some (.inr (1, [.ref 6, .int 0]))) : ax_Ca (mgT L xs) (d + 1) 15 [.ref 5] h (.inl (some (.int 0)), h) := by
  refine ag_call (Nat.le_of_ble_eq_true rfl) ?_
  show ax_Go (mgT L xs) (d + 0) 15 0 [some (.ref 5)] [] h _
  refine ag_aload_n (d15_0 L xs) rfl ?_
  refine ag_get (d15_1 L xs) (kd := 1) (cj := 1) (k0 := 1) rfl (Or.inl rfl) F5 rfl ?_
  exact ag_iret (d15_4 L xs) rfl rfl
theorem z29_13 (L : Nat) (xs : Nat → Int32) {d : Nat} {h : ax_H} {k : Int32} (hz : h.2.1 = 167) (F0 : h.1 0 = some (.inr (0, [.ref 1, .ref 3, .ref 87, .ref 137]))) (F3 : h.1 3 = some (.inr (3, [.ref 4, .int 0, .ref 5]))) (F5 : h.1 5 = some (.inr (1, [.ref 6, .int 0]))) : ax_Ca (mgT L xs) (d + 2) 29 [.ref 0, .int k] h (.inl (some (.int (-1))), h) := by
  refine ag_call (Nat.le_of_ble_eq_true rfl) ?_
  show ax_Go (mgT L xs) (d + 1) 29 0 [some (.ref 0), some (.int k), none] [] h _
  refine ag_aload_n (d29_0 L xs) rfl ?_
  refine ag_get (d29_1 L xs) (kd := 1) (cj := 0) (k0 := 1) rfl (Or.inl rfl) F0 rfl ?_
  refine ag_invv (d29_4 L xs) (kd := 7) (mj := 30) (n := 0) rfl (Or.inl rfl) (xs := []) (r := []) rfl rfl F3 rfl (Nat.le_of_ble_eq_true rfl) (z30_11 L xs (d := d + 0) (h := _) hz F3) ?_
  refine ag_astore_n (d29_7 L xs) (ls' := [some (.ref 0), some (.int k), some (.ref 5)]) (Nat.le_of_ble_eq_true rfl) rfl ?_
  refine ag_aload_n (d29_8 L xs) rfl ?_
  refine ag_invv (d29_9 L xs) (kd := 7) (mj := 15) (n := 0) rfl (Or.inl rfl) (xs := []) (r := []) rfl rfl F5 rfl (Nat.le_of_ble_eq_true rfl) (z15_12 L xs (d := d + 0) (h := _) hz F5) ?_
  refine ag_if_ne (d29_12 L xs) (t := 17) (by decide) (fun hp => absurd hp (by decide)) (fun _ => ?_)
  refine ag_iconst (d29_15 L xs) (x := (-1)) (by decide) ?_
  exact ag_iret (d29_16 L xs) rfl rfl
theorem z33_14 (L : Nat) (xs : Nat → Int32) {d : Nat} {h : ax_H} (hz : h.2.1 = 167) (F3 : h.1 3 = some (.inr (3, [.ref 4, .int 0, .ref 5]))) : ax_Ca (mgT L xs) (d + 1) 33 [.ref 3] h (.inl (some (.int 0)), h) := by
  refine ag_call (Nat.le_of_ble_eq_true rfl) ?_
  show ax_Go (mgT L xs) (d + 0) 33 0 [some (.ref 3)] [] h _
  refine ag_aload_n (d33_0 L xs) rfl ?_
  refine ag_get (d33_1 L xs) (kd := 1) (cj := 3) (k0 := 1) rfl (Or.inl rfl) F3 rfl ?_
  exact ag_iret (d33_4 L xs) rfl rfl
theorem z32_15 (L : Nat) (xs : Nat → Int32) {d : Nat} {h : ax_H} {k : Int32} (hz : h.2.1 = 167) (F0 : h.1 0 = some (.inr (0, [.ref 1, .ref 3, .ref 87, .ref 137]))) (F3 : h.1 3 = some (.inr (3, [.ref 4, .int 0, .ref 5]))) (hc_1 : k = (-1)) : ax_Ca (mgT L xs) (d + 2) 32 [.ref 0, .int k] h (.inl (some (.int 0)), h) := by
  refine ag_call (Nat.le_of_ble_eq_true rfl) ?_
  show ax_Go (mgT L xs) (d + 1) 32 0 [some (.ref 0), some (.int k), none] [] h _
  refine ag_iload_n (d32_0 L xs) rfl ?_
  refine ag_iconst (d32_1 L xs) (x := (-1)) (by decide) ?_
  refine ag_icmp_ne (d32_2 L xs) (t := 13) (by decide) (fun hp => absurd hp (not_not_intro hc_1)) (fun _ => ?_)
  refine ag_aload_n (d32_5 L xs) rfl ?_
  refine ag_get (d32_6 L xs) (kd := 1) (cj := 0) (k0 := 1) rfl (Or.inl rfl) F0 rfl ?_
  refine ag_invv (d32_9 L xs) (kd := 7) (mj := 33) (n := 0) rfl (Or.inl rfl) (xs := []) (r := []) rfl rfl F3 rfl (Nat.le_of_ble_eq_true rfl) (z33_14 L xs (d := d + 0) (h := _) hz F3) ?_
  exact ag_iret (d32_12 L xs) rfl rfl
theorem z34_16 (L : Nat) (xs : Nat → Int32) {d : Nat} {h : ax_H} {k : Int32} (hz : h.2.1 = 167) (hc_0 : k < 0) : ax_Ca (mgT L xs) (d + 1) 34 [.ref 3, .int k] h (.inl (some (.null)), h) := by
  refine ag_call (Nat.le_of_ble_eq_true rfl) ?_
  show ax_Go (mgT L xs) (d + 0) 34 0 [some (.ref 3), some (.int k)] [] h _
  refine ag_iload_n (d34_0 L xs) rfl ?_
  refine ag_if_lt (d34_1 L xs) (t := 21) (by decide) (fun _ => ?_) (fun hn => absurd hc_0 hn)
  refine ag_null (d34_21 L xs) ?_
  exact ag_aretN (d34_22 L xs) rfl
theorem z34_17 (L : Nat) (xs : Nat → Int32) {d : Nat} {h : ax_H} {k : Int32} (hz : h.2.1 = 167) (F3 : h.1 3 = some (.inr (3, [.ref 4, .int 0, .ref 5]))) (hc_0 : ¬ (k < 0)) : ax_Ca (mgT L xs) (d + 1) 34 [.ref 3, .int k] h (.inl (some (.null)), h) := by
  refine ag_call (Nat.le_of_ble_eq_true rfl) ?_
  show ax_Go (mgT L xs) (d + 0) 34 0 [some (.ref 3), some (.int k)] [] h _
  refine ag_iload_n (d34_0 L xs) rfl ?_
  refine ag_if_lt (d34_1 L xs) (t := 21) (by decide) (fun hp => absurd hp hc_0) (fun _ => ?_)
  refine ag_iload_n (d34_4 L xs) rfl ?_
  refine ag_aload_n (d34_5 L xs) rfl ?_
  refine ag_get (d34_6 L xs) (kd := 1) (cj := 3) (k0 := 1) rfl (Or.inl rfl) F3 rfl ?_
  refine ag_icmp_ge (d34_9 L xs) (t := 21) (by decide) (fun _ => ?_) (fun hn => absurd (Int32.not_lt.mp hc_0) hn)
  refine ag_null (d34_21 L xs) ?_
  exact ag_aretN (d34_22 L xs) rfl
theorem z32_18 (L : Nat) (xs : Nat → Int32) {d : Nat} {h : ax_H} {k : Int32} (hz : h.2.1 = 167) (F0 : h.1 0 = some (.inr (0, [.ref 1, .ref 3, .ref 87, .ref 137]))) (F3 : h.1 3 = some (.inr (3, [.ref 4, .int 0, .ref 5]))) (hc_0 : k < 0) (hc_1 : ¬ (k = (-1))) : ax_Ca (mgT L xs) (d + 2) 32 [.ref 0, .int k] h (.inl (some (.int (-1))), h) := by
  refine ag_call (Nat.le_of_ble_eq_true rfl) ?_
  show ax_Go (mgT L xs) (d + 1) 32 0 [some (.ref 0), some (.int k), none] [] h _
  refine ag_iload_n (d32_0 L xs) rfl ?_
  refine ag_iconst (d32_1 L xs) (x := (-1)) (by decide) ?_
  refine ag_icmp_ne (d32_2 L xs) (t := 13) (by decide) (fun _ => ?_) (fun hn => absurd hc_1 hn)
  refine ag_aload_n (d32_13 L xs) rfl ?_
  refine ag_get (d32_14 L xs) (kd := 1) (cj := 0) (k0 := 1) rfl (Or.inl rfl) F0 rfl ?_
  refine ag_iload_n (d32_17 L xs) rfl ?_
  refine ag_invv (d32_18 L xs) (kd := 7) (mj := 34) (n := 1) rfl (Or.inl rfl) (xs := [.int k]) (r := []) rfl rfl F3 rfl (Nat.le_of_ble_eq_true rfl) (z34_16 L xs (d := d + 0) (h := _) (k := k) hz hc_0) ?_
  refine ag_astore_nN (d32_21 L xs) (ls' := [some (.ref 0), some (.int k), some (.null)]) (Nat.le_of_ble_eq_true rfl) rfl ?_
  refine ag_aload_nN (d32_22 L xs) rfl ?_
  refine ag_ifnonnullN (d32_23 L xs) ?_
  refine ag_iconst (d32_26 L xs) (x := (-1)) (by decide) ?_
  refine ag_goto (d32_27 L xs) (t := 34) (by decide) ?_
  exact ag_iret (d32_34 L xs) rfl rfl
theorem z32_19 (L : Nat) (xs : Nat → Int32) {d : Nat} {h : ax_H} {k : Int32} (hz : h.2.1 = 167) (F0 : h.1 0 = some (.inr (0, [.ref 1, .ref 3, .ref 87, .ref 137]))) (F3 : h.1 3 = some (.inr (3, [.ref 4, .int 0, .ref 5]))) (hc_0 : ¬ (k < 0)) (hc_1 : ¬ (k = (-1))) : ax_Ca (mgT L xs) (d + 2) 32 [.ref 0, .int k] h (.inl (some (.int (-1))), h) := by
  refine ag_call (Nat.le_of_ble_eq_true rfl) ?_
  show ax_Go (mgT L xs) (d + 1) 32 0 [some (.ref 0), some (.int k), none] [] h _
  refine ag_iload_n (d32_0 L xs) rfl ?_
  refine ag_iconst (d32_1 L xs) (x := (-1)) (by decide) ?_
  refine ag_icmp_ne (d32_2 L xs) (t := 13) (by decide) (fun _ => ?_) (fun hn => absurd hc_1 hn)
  refine ag_aload_n (d32_13 L xs) rfl ?_
  refine ag_get (d32_14 L xs) (kd := 1) (cj := 0) (k0 := 1) rfl (Or.inl rfl) F0 rfl ?_
  refine ag_iload_n (d32_17 L xs) rfl ?_
  refine ag_invv (d32_18 L xs) (kd := 7) (mj := 34) (n := 1) rfl (Or.inl rfl) (xs := [.int k]) (r := []) rfl rfl F3 rfl (Nat.le_of_ble_eq_true rfl) (z34_17 L xs (d := d + 0) (h := _) (k := k) hz F3 hc_0) ?_
  refine ag_astore_nN (d32_21 L xs) (ls' := [some (.ref 0), some (.int k), some (.null)]) (Nat.le_of_ble_eq_true rfl) rfl ?_
  refine ag_aload_nN (d32_22 L xs) rfl ?_
  refine ag_ifnonnullN (d32_23 L xs) ?_
  refine ag_iconst (d32_26 L xs) (x := (-1)) (by decide) ?_
  refine ag_goto (d32_27 L xs) (t := 34) (by decide) ?_
  exact ag_iret (d32_34 L xs) rfl rfl
