/-! small methods of the class: rows, asked, words -/
theorem d29_17 (L : Nat) (xs : Nat → Int32) : decode (ax_code (mgT L xs) 29) 17 = .ok (.iload_n 1, 1) := by
  show decode prog_1_method_9_code 17 = _
  decide +kernel
theorem d29_18 (L : Nat) (xs : Nat → Int32) : decode (ax_code (mgT L xs) 29) 18 = .ok (.iconst (-1), 1) := by
  show decode prog_1_method_9_code 18 = _
  decide +kernel
theorem d29_19 (L : Nat) (xs : Nat → Int32) : decode (ax_code (mgT L xs) 29) 19 = .ok (.if_icmp .ne 8, 3) := by
  show decode prog_1_method_9_code 19 = _
  decide +kernel
theorem d29_22 (L : Nat) (xs : Nat → Int32) : decode (ax_code (mgT L xs) 29) 22 = .ok (.aload_n 2, 1) := by
  show decode prog_1_method_9_code 22 = _
  decide +kernel
theorem d29_23 (L : Nat) (xs : Nat → Int32) : decode (ax_code (mgT L xs) 29) 23 = .ok (.invokevirtual 47, 3) := by
  show decode prog_1_method_9_code 23 = _
  decide +kernel
theorem d29_26 (L : Nat) (xs : Nat → Int32) : decode (ax_code (mgT L xs) 29) 26 = .ok (.ireturn, 1) := by
  show decode prog_1_method_9_code 26 = _
  decide +kernel
theorem d29_27 (L : Nat) (xs : Nat → Int32) : decode (ax_code (mgT L xs) 29) 27 = .ok (.iload_n 1, 1) := by
  show decode prog_1_method_9_code 27 = _
  decide +kernel
theorem d29_28 (L : Nat) (xs : Nat → Int32) : decode (ax_code (mgT L xs) 29) 28 = .ok (.ifCond .lt 19, 3) := by
  show decode prog_1_method_9_code 28 = _
  decide +kernel
theorem d29_31 (L : Nat) (xs : Nat → Int32) : decode (ax_code (mgT L xs) 29) 31 = .ok (.iload_n 1, 1) := by
  show decode prog_1_method_9_code 31 = _
  decide +kernel
theorem d29_32 (L : Nat) (xs : Nat → Int32) : decode (ax_code (mgT L xs) 29) 32 = .ok (.aload_n 2, 1) := by
  show decode prog_1_method_9_code 32 = _
  decide +kernel
theorem d29_33 (L : Nat) (xs : Nat → Int32) : decode (ax_code (mgT L xs) 29) 33 = .ok (.invokevirtual 47, 3) := by
  show decode prog_1_method_9_code 33 = _
  decide +kernel
theorem d29_36 (L : Nat) (xs : Nat → Int32) : decode (ax_code (mgT L xs) 29) 36 = .ok (.if_icmp .ge 11, 3) := by
  show decode prog_1_method_9_code 36 = _
  decide +kernel
theorem d29_39 (L : Nat) (xs : Nat → Int32) : decode (ax_code (mgT L xs) 29) 39 = .ok (.aload_n 2, 1) := by
  show decode prog_1_method_9_code 39 = _
  decide +kernel
theorem d29_40 (L : Nat) (xs : Nat → Int32) : decode (ax_code (mgT L xs) 29) 40 = .ok (.iload_n 1, 1) := by
  show decode prog_1_method_9_code 40 = _
  decide +kernel
theorem d29_41 (L : Nat) (xs : Nat → Int32) : decode (ax_code (mgT L xs) 29) 41 = .ok (.invokevirtual 114, 3) := by
  show decode prog_1_method_9_code 41 = _
  decide +kernel
theorem d29_44 (L : Nat) (xs : Nat → Int32) : decode (ax_code (mgT L xs) 29) 44 = .ok (.goto 4, 3) := by
  show decode prog_1_method_9_code 44 = _
  decide +kernel
theorem d29_47 (L : Nat) (xs : Nat → Int32) : decode (ax_code (mgT L xs) 29) 47 = .ok (.iconst (-1), 1) := by
  show decode prog_1_method_9_code 47 = _
  decide +kernel
theorem d29_48 (L : Nat) (xs : Nat → Int32) : decode (ax_code (mgT L xs) 29) 48 = .ok (.ireturn, 1) := by
  show decode prog_1_method_9_code 48 = _
  decide +kernel
theorem d32_30 (L : Nat) (xs : Nat → Int32) : decode (ax_code (mgT L xs) 32) 30 = .ok (.aload_n 2, 1) := by
  show decode prog_1_method_11_code 30 = _
  decide +kernel
theorem d32_31 (L : Nat) (xs : Nat → Int32) : decode (ax_code (mgT L xs) 32) 31 = .ok (.getfield 125, 3) := by
  show decode prog_1_method_11_code 31 = _
  decide +kernel
theorem d34_12 (L : Nat) (xs : Nat → Int32) : decode (ax_code (mgT L xs) 34) 12 = .ok (.aload_n 0, 1) := by
  show decode prog_7_method_3_code 12 = _
  decide +kernel
theorem d34_13 (L : Nat) (xs : Nat → Int32) : decode (ax_code (mgT L xs) 34) 13 = .ok (.getfield 11, 3) := by
  show decode prog_7_method_3_code 13 = _
  decide +kernel
theorem d34_16 (L : Nat) (xs : Nat → Int32) : decode (ax_code (mgT L xs) 34) 16 = .ok (.iload_n 1, 1) := by
  show decode prog_7_method_3_code 16 = _
  decide +kernel
theorem d34_17 (L : Nat) (xs : Nat → Int32) : decode (ax_code (mgT L xs) 34) 17 = .ok (.aaload, 1) := by
  show decode prog_7_method_3_code 17 = _
  decide +kernel
theorem d34_18 (L : Nat) (xs : Nat → Int32) : decode (ax_code (mgT L xs) 34) 18 = .ok (.goto 4, 3) := by
  show decode prog_7_method_3_code 18 = _
  decide +kernel
theorem d57_0 (L : Nat) (xs : Nat → Int32) : decode (ax_code (mgT L xs) 57) 0 = .ok (.iload_n 2, 1) := by
  show decode prog_9_method_16_code 0 = _
  decide +kernel
theorem d57_1 (L : Nat) (xs : Nat → Int32) : decode (ax_code (mgT L xs) 57) 1 = .ok (.iload_n 1, 1) := by
  show decode prog_9_method_16_code 1 = _
  decide +kernel
theorem d57_2 (L : Nat) (xs : Nat → Int32) : decode (ax_code (mgT L xs) 57) 2 = .ok (.isub, 1) := by
  show decode prog_9_method_16_code 2 = _
  decide +kernel
theorem d57_3 (L : Nat) (xs : Nat → Int32) : decode (ax_code (mgT L xs) 57) 3 = .ok (.aload_n 3, 1) := by
  show decode prog_9_method_16_code 3 = _
  decide +kernel
theorem d57_4 (L : Nat) (xs : Nat → Int32) : decode (ax_code (mgT L xs) 57) 4 = .ok (.invokevirtual 19, 3) := by
  show decode prog_9_method_16_code 4 = _
  decide +kernel
theorem d57_7 (L : Nat) (xs : Nat → Int32) : decode (ax_code (mgT L xs) 57) 7 = .ok (.if_icmp .eq 5, 3) := by
  show decode prog_9_method_16_code 7 = _
  decide +kernel
theorem d57_10 (L : Nat) (xs : Nat → Int32) : decode (ax_code (mgT L xs) 57) 10 = .ok (.iconst 0, 1) := by
  show decode prog_9_method_16_code 10 = _
  decide +kernel
theorem d57_11 (L : Nat) (xs : Nat → Int32) : decode (ax_code (mgT L xs) 57) 11 = .ok (.ireturn, 1) := by
  show decode prog_9_method_16_code 11 = _
  decide +kernel
theorem d57_12 (L : Nat) (xs : Nat → Int32) : decode (ax_code (mgT L xs) 57) 12 = .ok (.iload_n 1, 1) := by
  show decode prog_9_method_16_code 12 = _
  decide +kernel
theorem d57_13 (L : Nat) (xs : Nat → Int32) : decode (ax_code (mgT L xs) 57) 13 = .ok (.istore 4, 2) := by
  show decode prog_9_method_16_code 13 = _
  decide +kernel
theorem d57_15 (L : Nat) (xs : Nat → Int32) : decode (ax_code (mgT L xs) 57) 15 = .ok (.iload 4, 2) := by
  show decode prog_9_method_16_code 15 = _
  decide +kernel
theorem d57_17 (L : Nat) (xs : Nat → Int32) : decode (ax_code (mgT L xs) 57) 17 = .ok (.iload_n 2, 1) := by
  show decode prog_9_method_16_code 17 = _
  decide +kernel
theorem d57_18 (L : Nat) (xs : Nat → Int32) : decode (ax_code (mgT L xs) 57) 18 = .ok (.if_icmp .ge 28, 3) := by
  show decode prog_9_method_16_code 18 = _
  decide +kernel
theorem d57_21 (L : Nat) (xs : Nat → Int32) : decode (ax_code (mgT L xs) 57) 21 = .ok (.aload_n 0, 1) := by
  show decode prog_9_method_16_code 21 = _
  decide +kernel
theorem d57_22 (L : Nat) (xs : Nat → Int32) : decode (ax_code (mgT L xs) 57) 22 = .ok (.iload 4, 2) := by
  show decode prog_9_method_16_code 22 = _
  decide +kernel
theorem d57_24 (L : Nat) (xs : Nat → Int32) : decode (ax_code (mgT L xs) 57) 24 = .ok (.invokevirtual 37, 3) := by
  show decode prog_9_method_16_code 24 = _
  decide +kernel
theorem d57_27 (L : Nat) (xs : Nat → Int32) : decode (ax_code (mgT L xs) 57) 27 = .ok (.aload_n 3, 1) := by
  show decode prog_9_method_16_code 27 = _
  decide +kernel
theorem d57_28 (L : Nat) (xs : Nat → Int32) : decode (ax_code (mgT L xs) 57) 28 = .ok (.iload 4, 2) := by
  show decode prog_9_method_16_code 28 = _
  decide +kernel
theorem d57_30 (L : Nat) (xs : Nat → Int32) : decode (ax_code (mgT L xs) 57) 30 = .ok (.iload_n 1, 1) := by
  show decode prog_9_method_16_code 30 = _
  decide +kernel
theorem d57_31 (L : Nat) (xs : Nat → Int32) : decode (ax_code (mgT L xs) 57) 31 = .ok (.isub, 1) := by
  show decode prog_9_method_16_code 31 = _
  decide +kernel
theorem d57_32 (L : Nat) (xs : Nat → Int32) : decode (ax_code (mgT L xs) 57) 32 = .ok (.invokevirtual 25, 3) := by
  show decode prog_9_method_16_code 32 = _
  decide +kernel
theorem d57_35 (L : Nat) (xs : Nat → Int32) : decode (ax_code (mgT L xs) 57) 35 = .ok (.if_icmp .eq 5, 3) := by
  show decode prog_9_method_16_code 35 = _
  decide +kernel
theorem d57_38 (L : Nat) (xs : Nat → Int32) : decode (ax_code (mgT L xs) 57) 38 = .ok (.iconst 0, 1) := by
  show decode prog_9_method_16_code 38 = _
  decide +kernel
theorem d57_39 (L : Nat) (xs : Nat → Int32) : decode (ax_code (mgT L xs) 57) 39 = .ok (.ireturn, 1) := by
  show decode prog_9_method_16_code 39 = _
  decide +kernel
theorem d57_40 (L : Nat) (xs : Nat → Int32) : decode (ax_code (mgT L xs) 57) 40 = .ok (.iinc 4 1, 3) := by
  show decode prog_9_method_16_code 40 = _
  decide +kernel
theorem d57_43 (L : Nat) (xs : Nat → Int32) : decode (ax_code (mgT L xs) 57) 43 = .ok (.goto (-28), 3) := by
  show decode prog_9_method_16_code 43 = _
  decide +kernel
theorem d57_46 (L : Nat) (xs : Nat → Int32) : decode (ax_code (mgT L xs) 57) 46 = .ok (.iconst 1, 1) := by
  show decode prog_9_method_16_code 46 = _
  decide +kernel
theorem d57_47 (L : Nat) (xs : Nat → Int32) : decode (ax_code (mgT L xs) 57) 47 = .ok (.ireturn, 1) := by
  show decode prog_9_method_16_code 47 = _
  decide +kernel
def f_wl (g : Nat → Nat) (w : List Nat) (fr : Nat) : Nat → Nat → Bool
  | _, 0 => true
  | i, m + 1 => decide (g i = w.getD (i - fr) 0) && f_wl g w fr (i + 1) m
/-- the word w stands from fr up to to -/
def t_word (g : Nat → Nat) (fr to : Nat) (w : List Nat) : Bool := decide (to - fr = w.length) && f_wl g w fr fr (to - fr)
section SM
variable {L : Nat} {xs : Nat → Int32} {d a n : Nat} {s : mg_s} {p : Nat → Nat} {R : List rowT}
theorem tb_at {k : Nat} (T : isTab s p R) (hk : k < R.length) : ca L xs (d + 1) 34 [.ref 3, .int (nI k)] s (fun v s' => v = some (.ref (p k)) ∧ s = s') := by
  refine wg_call (Nat.le_of_ble_eq_true rfl) ?_
  have hR16 := T.2.1
  show wp L xs d 34 0 [some (.ref 3), some (.int (nI k))] [] s _
  refine wg_iload_n (d34_0 L xs) rfl ?_
  refine wn_if_lt (d34_1 L xs) (x := k) (by omega) (t := 21) (by decide) (fun h1 => by omega) (fun h1 => ?_)
  refine wg_iload_n (d34_4 L xs) rfl ?_
  refine wg_aload_n (d34_5 L xs) rfl ?_
  refine wg_get (d34_6 L xs) (kd := 1) (cj := 3) (k0 := 1) rfl (Or.inl rfl) (by decide) rfl rfl ?_
  refine wg_top (y := (nI R.length)) T.1 ?_
  refine wn_icmp_ge (d34_9 L xs) (x := k) (y := R.length) (by omega) (by omega) (t := 21) (by decide) (fun h2 => by omega) (fun h2 => ?_)
  refine wg_aload_n (d34_12 L xs) rfl ?_
  refine wg_get (d34_13 L xs) (kd := 1) (cj := 3) (k0 := 0) rfl (Or.inl rfl) (by decide) rfl rfl ?_
  refine wg_iload_n (d34_16 L xs) rfl ?_
  refine wg_aald (d34_17 L xs) (n := 16) (by decide) rfl rfl (vp_in_nI (n := k) (by omega) (by omega)) (v := .ref (p k)) (by rw [nI_nat (n := k) (by omega), (T.2.2.1 k (by omega)).1]; rfl) ?_
  refine wg_goto (d34_18 L xs) (t := 22) (by decide) ?_
  exact wg_aret (d34_22 L xs) rfl ⟨rfl, rfl⟩
theorem tb_atN {x : Int32} (T : isTab s p R) (hx : x < 0 ∨ nI R.length ≤ x) : ca L xs (d + 1) 34 [.ref 3, .int x] s (fun v s' => v = some (.null) ∧ s = s') := by
  refine wg_call (Nat.le_of_ble_eq_true rfl) ?_
  have hR16 := T.2.1
  show wp L xs d 34 0 [some (.ref 3), some (.int x)] [] s _
  refine wg_iload_n (d34_0 L xs) rfl ?_
  refine wg_if_lt (d34_1 L xs) (t := 21) (by decide) (fun h1 => ?_) (fun h1 => ?_)
  · refine wg_null (d34_21 L xs) ?_
    exact wg_aretN (d34_22 L xs) rfl ⟨rfl, rfl⟩
  · refine wg_iload_n (d34_4 L xs) rfl ?_
    refine wg_aload_n (d34_5 L xs) rfl ?_
    refine wg_get (d34_6 L xs) (kd := 1) (cj := 3) (k0 := 1) rfl (Or.inl rfl) (by decide) rfl rfl ?_
    refine wg_top (y := (nI R.length)) T.1 ?_
    refine wg_icmp_ge (d34_9 L xs) (t := 21) (by decide) (fun h2 => ?_) (fun h2 => absurd (hx.resolve_left h1) h2)
    refine wg_null (d34_21 L xs) ?_
    exact wg_aretN (d34_22 L xs) rfl ⟨rfl, rfl⟩
theorem gd_rowsm  : ca L xs (d + 2) 32 [.ref 0, .int (-1)] s (fun v s' => v = some (.int (s.1 3 1)) ∧ s = s') := by
  refine wg_call (Nat.le_of_ble_eq_true rfl) ?_
  show wp L xs (d + 1) 32 0 [some (.ref 0), some (.int (-1)), none] [] s _
  refine wg_iload_n (d32_0 L xs) rfl ?_
  refine wg_iconst (d32_1 L xs) (x := (-1)) (by decide) ?_
  refine wg_icmp_ne (d32_2 L xs) (t := 13) (by decide) (fun hp => absurd hp (by decide)) (fun _ => ?_)
  refine wg_aload_n (d32_5 L xs) rfl ?_
  refine wg_get (d32_6 L xs) (kd := 1) (cj := 0) (k0 := 1) rfl (Or.inl rfl) (by decide) rfl rfl ?_
  refine wg_invv (d32_9 L xs) (kd := 7) (mj := 33) (n := 0) rfl (Or.inl rfl) (ys := []) (r := []) rfl rfl (by decide) rfl rfl (Nat.le_of_ble_eq_true rfl) tb_count ?_
  rintro _ _ ⟨rfl, rfl⟩
  exact wg_iret (d32_12 L xs) rfl rfl ⟨rfl, rfl⟩
theorem gd_rowsi {j : Nat} (T : isTab s p R) (hj : j < R.length) : ca L xs (d + 2) 32 [.ref 0, .int (nI j)] s (fun v s' => v = some (.int (s.1 (p j) 0)) ∧ s = s') := by
  refine wg_call (Nat.le_of_ble_eq_true rfl) ?_
  have hR16 := T.2.1
  show wp L xs (d + 1) 32 0 [some (.ref 0), some (.int (nI j)), none] [] s _
  refine wg_iload_n (d32_0 L xs) rfl ?_
  refine wg_iconst (d32_1 L xs) (x := (-1)) (by decide) ?_
  refine wg_icmp_ne (d32_2 L xs) (t := 13) (by decide) (fun h1 => ?_) (fun h1 => absurd (Classical.not_not.mp h1) (nI_neg1 (by omega)))
  refine wg_aload_n (d32_13 L xs) rfl ?_
  refine wg_get (d32_14 L xs) (kd := 1) (cj := 0) (k0 := 1) rfl (Or.inl rfl) (by decide) rfl rfl ?_
  refine wg_iload_n (d32_17 L xs) rfl ?_
  refine wg_invv (d32_18 L xs) (kd := 7) (mj := 34) (n := 1) rfl (Or.inl rfl) (ys := [.int (nI j)]) (r := []) rfl rfl (by decide) rfl rfl (Nat.le_of_ble_eq_true rfl) (tb_at T hj) ?_
  rintro _ _ ⟨rfl, rfl⟩
  refine wg_astore_n (d32_21 L xs) (ls' := [some (.ref 0), some (.int (nI j)), some (.ref (p j))]) (Nat.le_of_ble_eq_true rfl) rfl ?_
  refine wg_aload_n (d32_22 L xs) rfl ?_
  refine wg_ifnonnull (d32_23 L xs) (t := 30) (by decide) ?_
  refine wg_aload_n (d32_30 L xs) rfl ?_
  refine wg_get (d32_31 L xs) (kd := 2) (cj := 2) (k0 := 0) rfl (Or.inr rfl) (T.2.2.1 j (by omega)).2.1 (rw_c (T.2.2.1 j (by omega)).2) rfl ?_
  exact wg_iret (d32_34 L xs) rfl rfl ⟨rfl, rfl⟩
theorem gd_rowso {x : Int32} (T : isTab s p R) (h0 : ¬ x = -1) (hx : x < 0 ∨ nI R.length ≤ x) : ca L xs (d + 2) 32 [.ref 0, .int x] s (fun v s' => v = some (.int (-1)) ∧ s = s') := by
  refine wg_call (Nat.le_of_ble_eq_true rfl) ?_
  have hR16 := T.2.1
  show wp L xs (d + 1) 32 0 [some (.ref 0), some (.int x), none] [] s _
  refine wg_iload_n (d32_0 L xs) rfl ?_
  refine wg_iconst (d32_1 L xs) (x := (-1)) (by decide) ?_
  refine wg_icmp_ne (d32_2 L xs) (t := 13) (by decide) (fun h1 => ?_) (fun h1 => absurd h0 h1)
  refine wg_aload_n (d32_13 L xs) rfl ?_
  refine wg_get (d32_14 L xs) (kd := 1) (cj := 0) (k0 := 1) rfl (Or.inl rfl) (by decide) rfl rfl ?_
  refine wg_iload_n (d32_17 L xs) rfl ?_
  refine wg_invv (d32_18 L xs) (kd := 7) (mj := 34) (n := 1) rfl (Or.inl rfl) (ys := [.int x]) (r := []) rfl rfl (by decide) rfl rfl (Nat.le_of_ble_eq_true rfl) (tb_atN T hx) ?_
  rintro _ _ ⟨rfl, rfl⟩
  refine wg_astore_nN (d32_21 L xs) (ls' := [some (.ref 0), some (.int x), some (.null)]) (Nat.le_of_ble_eq_true rfl) rfl ?_
  refine wg_aload_nN (d32_22 L xs) rfl ?_
  refine wg_ifnonnullN (d32_23 L xs) ?_
  refine wg_iconst (d32_26 L xs) (x := (-1)) (by decide) ?_
  refine wg_goto (d32_27 L xs) (t := 34) (by decide) ?_
  exact wg_iret (d32_34 L xs) rfl rfl ⟨rfl, rfl⟩
theorem gd_askede {x : Int32} (hn : isTx s 5 n) (h0 : n = 0) : ca L xs (d + 2) 29 [.ref 0, .int x] s (fun v s' => v = some (.int (-1)) ∧ s = s') := by
  refine wg_call (Nat.le_of_ble_eq_true rfl) ?_
  have hlim := tx_m isT_all.2.1
  have hnn := hn.2
  show wp L xs (d + 1) 29 0 [some (.ref 0), some (.int x), none] [] s _
  refine wg_aload_n (d29_0 L xs) rfl ?_
  refine wg_get (d29_1 L xs) (kd := 1) (cj := 0) (k0 := 1) rfl (Or.inl rfl) (by decide) rfl rfl ?_
  refine wg_invv (d29_4 L xs) (kd := 7) (mj := 30) (n := 0) rfl (Or.inl rfl) (ys := []) (r := []) rfl rfl (by decide) rfl rfl (Nat.le_of_ble_eq_true rfl) tb_last ?_
  rintro _ _ ⟨rfl, rfl⟩
  refine wg_astore_n (d29_7 L xs) (ls' := [some (.ref 0), some (.int x), some (.ref 5)]) (Nat.le_of_ble_eq_true rfl) rfl ?_
  refine wg_aload_n (d29_8 L xs) rfl ?_
  refine wg_invv (d29_9 L xs) (kd := 7) (mj := 15) (n := 0) rfl (Or.inl rfl) (ys := []) (r := []) rfl rfl (by decide) rfl rfl (Nat.le_of_ble_eq_true rfl) (tx_size isT_all.2.1 hn) ?_
  rintro _ _ ⟨rfl, rfl⟩
  refine wn_if_ne (d29_12 L xs) (x := n) (by omega) (t := 17) (by decide) (fun h1 => by omega) (fun h1 => ?_)
  refine wg_iconst (d29_15 L xs) (x := (-1)) (by decide) ?_
  exact wg_iret (d29_16 L xs) rfl rfl ⟨rfl, rfl⟩
theorem gd_askedm (hn : isTx s 5 n) (h0 : 0 < n) : ca L xs (d + 2) 29 [.ref 0, .int (-1)] s (fun v s' => v = some (.int (nI n)) ∧ s = s') := by
  refine wg_call (Nat.le_of_ble_eq_true rfl) ?_
  have hlim := tx_m isT_all.2.1
  have hnn := hn.2
  show wp L xs (d + 1) 29 0 [some (.ref 0), some (.int (-1)), none] [] s _
  refine wg_aload_n (d29_0 L xs) rfl ?_
  refine wg_get (d29_1 L xs) (kd := 1) (cj := 0) (k0 := 1) rfl (Or.inl rfl) (by decide) rfl rfl ?_
  refine wg_invv (d29_4 L xs) (kd := 7) (mj := 30) (n := 0) rfl (Or.inl rfl) (ys := []) (r := []) rfl rfl (by decide) rfl rfl (Nat.le_of_ble_eq_true rfl) tb_last ?_
  rintro _ _ ⟨rfl, rfl⟩
  refine wg_astore_n (d29_7 L xs) (ls' := [some (.ref 0), some (.int (-1)), some (.ref 5)]) (Nat.le_of_ble_eq_true rfl) rfl ?_
  refine wg_aload_n (d29_8 L xs) rfl ?_
  refine wg_invv (d29_9 L xs) (kd := 7) (mj := 15) (n := 0) rfl (Or.inl rfl) (ys := []) (r := []) rfl rfl (by decide) rfl rfl (Nat.le_of_ble_eq_true rfl) (tx_size isT_all.2.1 hn) ?_
  rintro _ _ ⟨rfl, rfl⟩
  refine wn_if_ne (d29_12 L xs) (x := n) (by omega) (t := 17) (by decide) (fun h1 => ?_) (fun h1 => by omega)
  refine wg_iload_n (d29_17 L xs) rfl ?_
  refine wg_iconst (d29_18 L xs) (x := (-1)) (by decide) ?_
  refine wg_icmp_ne (d29_19 L xs) (t := 27) (by decide) (fun hp => absurd hp (by decide)) (fun _ => ?_)
  refine wg_aload_n (d29_22 L xs) rfl ?_
  refine wg_invv (d29_23 L xs) (kd := 7) (mj := 15) (n := 0) rfl (Or.inl rfl) (ys := []) (r := []) rfl rfl (by decide) rfl rfl (Nat.le_of_ble_eq_true rfl) (tx_size isT_all.2.1 hn) ?_
  rintro _ _ ⟨rfl, rfl⟩
  exact wg_iret (d29_26 L xs) rfl rfl ⟨rfl, rfl⟩
theorem gd_askedi {j : Nat} (hn : isTx s 5 n) (hj : j < n) : ca L xs (d + 2) 29 [.ref 0, .int (nI j)] s (fun v s' => v = some (.int (nI (t_at s 5 n j))) ∧ s = s') := by
  refine wg_call (Nat.le_of_ble_eq_true rfl) ?_
  have hlim := tx_m isT_all.2.1
  have hnn := hn.2
  show wp L xs (d + 1) 29 0 [some (.ref 0), some (.int (nI j)), none] [] s _
  refine wg_aload_n (d29_0 L xs) rfl ?_
  refine wg_get (d29_1 L xs) (kd := 1) (cj := 0) (k0 := 1) rfl (Or.inl rfl) (by decide) rfl rfl ?_
  refine wg_invv (d29_4 L xs) (kd := 7) (mj := 30) (n := 0) rfl (Or.inl rfl) (ys := []) (r := []) rfl rfl (by decide) rfl rfl (Nat.le_of_ble_eq_true rfl) tb_last ?_
  rintro _ _ ⟨rfl, rfl⟩
  refine wg_astore_n (d29_7 L xs) (ls' := [some (.ref 0), some (.int (nI j)), some (.ref 5)]) (Nat.le_of_ble_eq_true rfl) rfl ?_
  refine wg_aload_n (d29_8 L xs) rfl ?_
  refine wg_invv (d29_9 L xs) (kd := 7) (mj := 15) (n := 0) rfl (Or.inl rfl) (ys := []) (r := []) rfl rfl (by decide) rfl rfl (Nat.le_of_ble_eq_true rfl) (tx_size isT_all.2.1 hn) ?_
  rintro _ _ ⟨rfl, rfl⟩
  refine wn_if_ne (d29_12 L xs) (x := n) (by omega) (t := 17) (by decide) (fun h1 => ?_) (fun h1 => by omega)
  refine wg_iload_n (d29_17 L xs) rfl ?_
  refine wg_iconst (d29_18 L xs) (x := (-1)) (by decide) ?_
  refine wg_icmp_ne (d29_19 L xs) (t := 27) (by decide) (fun h2 => ?_) (fun h2 => absurd (Classical.not_not.mp h2) (nI_neg1 (by omega)))
  refine wg_iload_n (d29_27 L xs) rfl ?_
  refine wn_if_lt (d29_28 L xs) (x := j) (by omega) (t := 47) (by decide) (fun h3 => by omega) (fun h3 => ?_)
  refine wg_iload_n (d29_31 L xs) rfl ?_
  refine wg_aload_n (d29_32 L xs) rfl ?_
  refine wg_invv (d29_33 L xs) (kd := 7) (mj := 15) (n := 0) rfl (Or.inl rfl) (ys := []) (r := [.int (nI j)]) rfl rfl (by decide) rfl rfl (Nat.le_of_ble_eq_true rfl) (tx_size isT_all.2.1 hn) ?_
  rintro _ _ ⟨rfl, rfl⟩
  refine wn_icmp_ge (d29_36 L xs) (x := j) (y := n) (by omega) (by omega) (t := 47) (by decide) (fun h4 => by omega) (fun h4 => ?_)
  refine wg_aload_n (d29_39 L xs) rfl ?_
  refine wg_iload_n (d29_40 L xs) rfl ?_
  refine wg_invv (d29_41 L xs) (kd := 7) (mj := 31) (n := 1) rfl (Or.inl rfl) (ys := [.int (nI j)]) (r := []) rfl rfl (by decide) rfl rfl (Nat.le_of_ble_eq_true rfl) (tx_at isT_all.2.1 hn (by omega)) ?_
  rintro _ _ ⟨rfl, rfl⟩
  refine wg_goto (d29_44 L xs) (t := 48) (by decide) ?_
  exact wg_iret (d29_48 L xs) rfl rfl ⟨rfl, rfl⟩
theorem gd_askedo {x : Int32} (hn : isTx s 5 n) (h0 : 0 < n) (h9 : ¬ x = -1) (hx : x < 0 ∨ nI n ≤ x) : ca L xs (d + 2) 29 [.ref 0, .int x] s (fun v s' => v = some (.int (-1)) ∧ s = s') := by
  refine wg_call (Nat.le_of_ble_eq_true rfl) ?_
  have hlim := tx_m isT_all.2.1
  have hnn := hn.2
  show wp L xs (d + 1) 29 0 [some (.ref 0), some (.int x), none] [] s _
  refine wg_aload_n (d29_0 L xs) rfl ?_
  refine wg_get (d29_1 L xs) (kd := 1) (cj := 0) (k0 := 1) rfl (Or.inl rfl) (by decide) rfl rfl ?_
  refine wg_invv (d29_4 L xs) (kd := 7) (mj := 30) (n := 0) rfl (Or.inl rfl) (ys := []) (r := []) rfl rfl (by decide) rfl rfl (Nat.le_of_ble_eq_true rfl) tb_last ?_
  rintro _ _ ⟨rfl, rfl⟩
  refine wg_astore_n (d29_7 L xs) (ls' := [some (.ref 0), some (.int x), some (.ref 5)]) (Nat.le_of_ble_eq_true rfl) rfl ?_
  refine wg_aload_n (d29_8 L xs) rfl ?_
  refine wg_invv (d29_9 L xs) (kd := 7) (mj := 15) (n := 0) rfl (Or.inl rfl) (ys := []) (r := []) rfl rfl (by decide) rfl rfl (Nat.le_of_ble_eq_true rfl) (tx_size isT_all.2.1 hn) ?_
  rintro _ _ ⟨rfl, rfl⟩
  refine wn_if_ne (d29_12 L xs) (x := n) (by omega) (t := 17) (by decide) (fun h1 => ?_) (fun h1 => by omega)
  refine wg_iload_n (d29_17 L xs) rfl ?_
  refine wg_iconst (d29_18 L xs) (x := (-1)) (by decide) ?_
  refine wg_icmp_ne (d29_19 L xs) (t := 27) (by decide) (fun h2 => ?_) (fun h2 => absurd h9 h2)
  refine wg_iload_n (d29_27 L xs) rfl ?_
  refine wg_if_lt (d29_28 L xs) (t := 47) (by decide) (fun h3 => ?_) (fun h3 => ?_)
  · refine wg_iconst (d29_47 L xs) (x := (-1)) (by decide) ?_
    exact wg_iret (d29_48 L xs) rfl rfl ⟨rfl, rfl⟩
  · refine wg_iload_n (d29_31 L xs) rfl ?_
    refine wg_aload_n (d29_32 L xs) rfl ?_
    refine wg_invv (d29_33 L xs) (kd := 7) (mj := 15) (n := 0) rfl (Or.inl rfl) (ys := []) (r := [.int x]) rfl rfl (by decide) rfl rfl (Nat.le_of_ble_eq_true rfl) (tx_size isT_all.2.1 hn) ?_
    rintro _ _ ⟨rfl, rfl⟩
    refine wg_icmp_ge (d29_36 L xs) (t := 47) (by decide) (fun h4 => ?_) (fun h4 => absurd (hx.resolve_left (by assumption)) h4)
    refine wg_iconst (d29_47 L xs) (x := (-1)) (by decide) ?_
    exact wg_iret (d29_48 L xs) rfl rfl ⟨rfl, rfl⟩
theorem str_lt {k0 j : Nat} {q : String × Nat × String × List Nat} (hq : ax_str[k0]? = some q) : q.2.2.2.getD j 0 < 65536 := by
  have h : ∀ q ∈ ax_str, ∀ x ∈ q.2.2.2, x < 128 := by decide +kernel
  have h1 := gl_lt (l := q.2.2.2) (h q (List.mem_of_getElem? hq)) j
  exact Nat.lt_trans h1 (by decide)
theorem tx_word_l {fr to k0 : Nat} {q : String × Nat × String × List Nat} (H : isT a) (hn : isTx s a n) (hq : ax_str[k0]? = some q) (hto : to < 2 ^ 30) (hw : to - fr = q.2.2.2.length) : ∀ (m i : Nat), i + m = to → fr ≤ i → wp L xs (d + 1) 57 15 [some (.ref a), some (.int (nI fr)), some (.int (nI to)), some (.ref (ax_big + 1 + k0)), some (.int (nI i))] [] s (fun v s' => v = some (.int (nI (bI (f_wl (t_at s a n) q.2.2.2 fr i m)))) ∧ s = s') := by
  intro m
  induction m with
  | zero =>
    intro i hi hfi
    refine wg_iload (d57_15 L xs) rfl ?_
    refine wg_iload_n (d57_17 L xs) rfl ?_
    refine wn_icmp_ge (d57_18 L xs) (x := i) (y := to) (by omega) (by omega) (t := 46) (by decide) (fun h1 => ?_) (fun h1 => by omega)
    refine wg_iconst (d57_46 L xs) (x := 1) (by decide) ?_
    exact wg_iret (d57_47 L xs) rfl rfl ⟨rfl, rfl⟩
  | succ m ih =>
    intro i hi hfi
    refine wp_ch (fun hch => ?_)
    have hg0 : t_at s a n i < 65536 := t_at_lt H hn hch
    have hg1 : q.2.2.2.getD (i - fr) 0 < 65536 := str_lt hq
    rw [f_wl]
    refine wg_iload (d57_15 L xs) rfl ?_
    refine wg_iload_n (d57_17 L xs) rfl ?_
    refine wn_icmp_ge (d57_18 L xs) (x := i) (y := to) (by omega) (by omega) (t := 46) (by decide) (fun h1 => by omega) (fun h1 => ?_)
    refine wg_aload_n (d57_21 L xs) rfl ?_
    refine wg_iload (d57_22 L xs) rfl ?_
    refine wg_invv (d57_24 L xs) (kd := 7) (mj := 31) (n := 1) rfl (Or.inl rfl) (ys := [.int (nI i)]) (r := []) rfl rfl H.1 (tx_c H) rfl (Nat.le_of_ble_eq_true rfl) (tx_at H hn (by omega)) ?_
    rintro _ _ ⟨rfl, rfl⟩
    refine wg_aload_n (d57_27 L xs) rfl ?_
    refine wg_iload (d57_28 L xs) rfl ?_
    refine wg_iload_n (d57_30 L xs) rfl ?_
    refine wg_isub (d57_31 L xs) ?_
    refine wg_top (y := (nI (i - fr))) (pk_sub (a := i) (b := fr) (by omega)) ?_
    refine wg_scat (d57_32 L xs) (k0 := k0) (j := i - fr) (x := q.2.2.2.getD (i - fr) 0) rfl hq (by omega) (sg_get (by omega)) (Nat.le_of_ble_eq_true rfl) ?_
    refine wn_icmp_eq (d57_35 L xs) (x := t_at s a n i) (y := q.2.2.2.getD (i - fr) 0) (by omega) (by omega) (t := 40) (by decide) (fun h2 => ?_) (fun h2 => ?_)
    · refine wg_iinc (d57_40 L xs) (y := (nI (i + 1))) (ls' := [some (.ref a), some (.int (nI fr)), some (.int (nI to)), some (.ref (ax_big + 1 + k0)), some (.int (nI (i + 1)))]) rfl (nI_add i 1) rfl ?_
      refine wg_goto (d57_43 L xs) (t := 15) (by decide) ?_
      rw [decide_eq_true (by omega), Bool.true_and]; exact ih (i + 1) (by omega) (by omega)
    · refine wg_iconst (d57_38 L xs) (x := 0) (by decide) ?_
      exact wg_iret (d57_39 L xs) rfl rfl ⟨by rw [decide_eq_false (by omega)]; rfl, rfl⟩
theorem str_len {k0 : Nat} {q : String × Nat × String × List Nat} (hq : ax_str[k0]? = some q) : q.2.2.2.length < 100 := by
  have h : ∀ q ∈ ax_str, q.2.2.2.length < 100 := by decide +kernel
  exact h q (List.mem_of_getElem? hq)
theorem tx_isWord {fr to k0 : Nat} {q : String × Nat × String × List Nat} (H : isT a) (hn : isTx s a n) (hq : ax_str[k0]? = some q) (hto : to < 2 ^ 30) (hf : fr ≤ to) : ca L xs (d + 2) 57 [.ref a, .int (nI fr), .int (nI to), .ref (ax_big + 1 + k0)] s (fun v s' => v = some (.int (nI (bI (t_word (t_at s a n) fr to q.2.2.2)))) ∧ s = s') := by
  refine wg_call (Nat.le_of_ble_eq_true rfl) ?_
  have hql := str_len hq
  show wp L xs (d + 1) 57 0 [some (.ref a), some (.int (nI fr)), some (.int (nI to)), some (.ref (ax_big + 1 + k0)), none] [] s _
  refine wg_iload_n (d57_0 L xs) rfl ?_
  refine wg_iload_n (d57_1 L xs) rfl ?_
  refine wg_isub (d57_2 L xs) ?_
  refine wg_top (y := (nI (to - fr))) (pk_sub (a := to) (b := fr) (by omega)) ?_
  refine wg_aload_n (d57_3 L xs) rfl ?_
  refine wg_stl (d57_4 L xs) (k0 := k0) rfl hq rfl (Nat.le_of_ble_eq_true rfl) ?_
  refine wn_icmp_eq (d57_7 L xs) (x := to - fr) (y := q.2.2.2.length) (by omega) (by omega) (t := 12) (by decide) (fun h1 => ?_) (fun h1 => ?_)
  · refine wg_iload_n (d57_12 L xs) rfl ?_
    refine wg_istore (d57_13 L xs) (ls' := [some (.ref a), some (.int (nI fr)), some (.int (nI to)), some (.ref (ax_big + 1 + k0)), some (.int (nI fr))]) (Nat.le_of_ble_eq_true rfl) rfl ?_
    rw [t_word, decide_eq_true (by omega), Bool.true_and]; exact tx_word_l H hn hq hto (by omega) _ fr (by omega) (Nat.le_refl _)
  · refine wg_iconst (d57_10 L xs) (x := 0) (by decide) ?_
    exact wg_iret (d57_11 L xs) rfl rfl ⟨by rw [t_word, decide_eq_false (by omega)]; rfl, rfl⟩
end SM
