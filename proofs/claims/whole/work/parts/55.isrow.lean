/-! the class: is the text a row, a row appended -/
theorem d36_32 (L : Nat) (xs : Nat → Int32) : decode (ax_code (mgT L xs) 36) 32 = .ok (.iload_n 2, 1) := by
  show decode prog_1_method_13_code 32 = _
  decide +kernel
theorem d36_33 (L : Nat) (xs : Nat → Int32) : decode (ax_code (mgT L xs) 36) 33 = .ok (.iconst 1, 1) := by
  show decode prog_1_method_13_code 33 = _
  decide +kernel
theorem d36_34 (L : Nat) (xs : Nat → Int32) : decode (ax_code (mgT L xs) 36) 34 = .ok (.iadd, 1) := by
  show decode prog_1_method_13_code 34 = _
  decide +kernel
theorem d36_35 (L : Nat) (xs : Nat → Int32) : decode (ax_code (mgT L xs) 36) 35 = .ok (.istore_n 3, 1) := by
  show decode prog_1_method_13_code 35 = _
  decide +kernel
theorem d36_36 (L : Nat) (xs : Nat → Int32) : decode (ax_code (mgT L xs) 36) 36 = .ok (.iload_n 1, 1) := by
  show decode prog_1_method_13_code 36 = _
  decide +kernel
theorem d36_37 (L : Nat) (xs : Nat → Int32) : decode (ax_code (mgT L xs) 36) 37 = .ok (.tableswitch 113 0 4 #[35, 63, 79, 96, 96], 35) := by
  show decode prog_1_method_13_code 37 = _
  decide +kernel
theorem d36_72 (L : Nat) (xs : Nat → Int32) : decode (ax_code (mgT L xs) 36) 72 = .ok (.aload_n 0, 1) := by
  show decode prog_1_method_13_code 72 = _
  decide +kernel
theorem d36_73 (L : Nat) (xs : Nat → Int32) : decode (ax_code (mgT L xs) 36) 73 = .ok (.getfield 14, 3) := by
  show decode prog_1_method_13_code 73 = _
  decide +kernel
theorem d36_76 (L : Nat) (xs : Nat → Int32) : decode (ax_code (mgT L xs) 36) 76 = .ok (.iload_n 3, 1) := by
  show decode prog_1_method_13_code 76 = _
  decide +kernel
theorem d36_77 (L : Nat) (xs : Nat → Int32) : decode (ax_code (mgT L xs) 36) 77 = .ok (.aload_n 0, 1) := by
  show decode prog_1_method_13_code 77 = _
  decide +kernel
theorem d36_78 (L : Nat) (xs : Nat → Int32) : decode (ax_code (mgT L xs) 36) 78 = .ok (.getfield 14, 3) := by
  show decode prog_1_method_13_code 78 = _
  decide +kernel
theorem d36_81 (L : Nat) (xs : Nat → Int32) : decode (ax_code (mgT L xs) 36) 81 = .ok (.invokevirtual 47, 3) := by
  show decode prog_1_method_13_code 81 = _
  decide +kernel
theorem d36_84 (L : Nat) (xs : Nat → Int32) : decode (ax_code (mgT L xs) 36) 84 = .ok (.invokevirtual 138, 3) := by
  show decode prog_1_method_13_code 84 = _
  decide +kernel
theorem d36_87 (L : Nat) (xs : Nat → Int32) : decode (ax_code (mgT L xs) 36) 87 = .ok (.ldc2_w 142, 3) := by
  show decode prog_1_method_13_code 87 = _
  decide +kernel
theorem d36_90 (L : Nat) (xs : Nat → Int32) : decode (ax_code (mgT L xs) 36) 90 = .ok (.lcmp, 1) := by
  show decode prog_1_method_13_code 90 = _
  decide +kernel
theorem d36_91 (L : Nat) (xs : Nat → Int32) : decode (ax_code (mgT L xs) 36) 91 = .ok (.ifCond .eq 7, 3) := by
  show decode prog_1_method_13_code 91 = _
  decide +kernel
theorem d36_94 (L : Nat) (xs : Nat → Int32) : decode (ax_code (mgT L xs) 36) 94 = .ok (.iconst 1, 1) := by
  show decode prog_1_method_13_code 94 = _
  decide +kernel
theorem d36_95 (L : Nat) (xs : Nat → Int32) : decode (ax_code (mgT L xs) 36) 95 = .ok (.goto 4, 3) := by
  show decode prog_1_method_13_code 95 = _
  decide +kernel
theorem d36_98 (L : Nat) (xs : Nat → Int32) : decode (ax_code (mgT L xs) 36) 98 = .ok (.iconst 0, 1) := by
  show decode prog_1_method_13_code 98 = _
  decide +kernel
theorem d36_99 (L : Nat) (xs : Nat → Int32) : decode (ax_code (mgT L xs) 36) 99 = .ok (.ireturn, 1) := by
  show decode prog_1_method_13_code 99 = _
  decide +kernel
theorem d36_100 (L : Nat) (xs : Nat → Int32) : decode (ax_code (mgT L xs) 36) 100 = .ok (.aload_n 0, 1) := by
  show decode prog_1_method_13_code 100 = _
  decide +kernel
theorem d36_101 (L : Nat) (xs : Nat → Int32) : decode (ax_code (mgT L xs) 36) 101 = .ok (.getfield 14, 3) := by
  show decode prog_1_method_13_code 101 = _
  decide +kernel
theorem d36_104 (L : Nat) (xs : Nat → Int32) : decode (ax_code (mgT L xs) 36) 104 = .ok (.iload_n 3, 1) := by
  show decode prog_1_method_13_code 104 = _
  decide +kernel
theorem d36_105 (L : Nat) (xs : Nat → Int32) : decode (ax_code (mgT L xs) 36) 105 = .ok (.aload_n 0, 1) := by
  show decode prog_1_method_13_code 105 = _
  decide +kernel
theorem d36_106 (L : Nat) (xs : Nat → Int32) : decode (ax_code (mgT L xs) 36) 106 = .ok (.getfield 14, 3) := by
  show decode prog_1_method_13_code 106 = _
  decide +kernel
theorem d36_109 (L : Nat) (xs : Nat → Int32) : decode (ax_code (mgT L xs) 36) 109 = .ok (.invokevirtual 47, 3) := by
  show decode prog_1_method_13_code 109 = _
  decide +kernel
theorem d36_112 (L : Nat) (xs : Nat → Int32) : decode (ax_code (mgT L xs) 36) 112 = .ok (.invokevirtual 135, 3) := by
  show decode prog_1_method_13_code 112 = _
  decide +kernel
theorem d36_115 (L : Nat) (xs : Nat → Int32) : decode (ax_code (mgT L xs) 36) 115 = .ok (.ireturn, 1) := by
  show decode prog_1_method_13_code 115 = _
  decide +kernel
theorem d36_116 (L : Nat) (xs : Nat → Int32) : decode (ax_code (mgT L xs) 36) 116 = .ok (.iload_n 3, 1) := by
  show decode prog_1_method_13_code 116 = _
  decide +kernel
theorem d36_117 (L : Nat) (xs : Nat → Int32) : decode (ax_code (mgT L xs) 36) 117 = .ok (.aload_n 0, 1) := by
  show decode prog_1_method_13_code 117 = _
  decide +kernel
theorem d36_118 (L : Nat) (xs : Nat → Int32) : decode (ax_code (mgT L xs) 36) 118 = .ok (.getfield 14, 3) := by
  show decode prog_1_method_13_code 118 = _
  decide +kernel
theorem d36_121 (L : Nat) (xs : Nat → Int32) : decode (ax_code (mgT L xs) 36) 121 = .ok (.invokevirtual 47, 3) := by
  show decode prog_1_method_13_code 121 = _
  decide +kernel
theorem d36_124 (L : Nat) (xs : Nat → Int32) : decode (ax_code (mgT L xs) 36) 124 = .ok (.if_icmp .ge 7, 3) := by
  show decode prog_1_method_13_code 124 = _
  decide +kernel
theorem d36_127 (L : Nat) (xs : Nat → Int32) : decode (ax_code (mgT L xs) 36) 127 = .ok (.iconst 1, 1) := by
  show decode prog_1_method_13_code 127 = _
  decide +kernel
theorem d36_128 (L : Nat) (xs : Nat → Int32) : decode (ax_code (mgT L xs) 36) 128 = .ok (.goto 4, 3) := by
  show decode prog_1_method_13_code 128 = _
  decide +kernel
theorem d36_131 (L : Nat) (xs : Nat → Int32) : decode (ax_code (mgT L xs) 36) 131 = .ok (.iconst 0, 1) := by
  show decode prog_1_method_13_code 131 = _
  decide +kernel
theorem d36_132 (L : Nat) (xs : Nat → Int32) : decode (ax_code (mgT L xs) 36) 132 = .ok (.ireturn, 1) := by
  show decode prog_1_method_13_code 132 = _
  decide +kernel
theorem d36_133 (L : Nat) (xs : Nat → Int32) : decode (ax_code (mgT L xs) 36) 133 = .ok (.iload_n 2, 1) := by
  show decode prog_1_method_13_code 133 = _
  decide +kernel
theorem d36_134 (L : Nat) (xs : Nat → Int32) : decode (ax_code (mgT L xs) 36) 134 = .ok (.aload_n 0, 1) := by
  show decode prog_1_method_13_code 134 = _
  decide +kernel
theorem d36_135 (L : Nat) (xs : Nat → Int32) : decode (ax_code (mgT L xs) 36) 135 = .ok (.getfield 14, 3) := by
  show decode prog_1_method_13_code 135 = _
  decide +kernel
theorem d36_138 (L : Nat) (xs : Nat → Int32) : decode (ax_code (mgT L xs) 36) 138 = .ok (.invokevirtual 47, 3) := by
  show decode prog_1_method_13_code 138 = _
  decide +kernel
theorem d36_141 (L : Nat) (xs : Nat → Int32) : decode (ax_code (mgT L xs) 36) 141 = .ok (.if_icmp .ne 7, 3) := by
  show decode prog_1_method_13_code 141 = _
  decide +kernel
theorem d36_144 (L : Nat) (xs : Nat → Int32) : decode (ax_code (mgT L xs) 36) 144 = .ok (.iconst 1, 1) := by
  show decode prog_1_method_13_code 144 = _
  decide +kernel
theorem d36_145 (L : Nat) (xs : Nat → Int32) : decode (ax_code (mgT L xs) 36) 145 = .ok (.goto 4, 3) := by
  show decode prog_1_method_13_code 145 = _
  decide +kernel
theorem d36_148 (L : Nat) (xs : Nat → Int32) : decode (ax_code (mgT L xs) 36) 148 = .ok (.iconst 0, 1) := by
  show decode prog_1_method_13_code 148 = _
  decide +kernel
theorem d36_149 (L : Nat) (xs : Nat → Int32) : decode (ax_code (mgT L xs) 36) 149 = .ok (.ireturn, 1) := by
  show decode prog_1_method_13_code 149 = _
  decide +kernel
theorem d36_150 (L : Nat) (xs : Nat → Int32) : decode (ax_code (mgT L xs) 36) 150 = .ok (.iconst 0, 1) := by
  show decode prog_1_method_13_code 150 = _
  decide +kernel
theorem d36_151 (L : Nat) (xs : Nat → Int32) : decode (ax_code (mgT L xs) 36) 151 = .ok (.ireturn, 1) := by
  show decode prog_1_method_13_code 151 = _
  decide +kernel
theorem f_addr_lt {g : Nat → Nat} {to : Nat} : ∀ (m acc cnt st i v : Nat), f_addr g to m acc cnt st i = some v → acc < 256 ^ cnt → cnt ≤ 4 → v < 2 ^ 32 := by
  intro m
  induction m with
  | zero =>
    intro acc cnt st i v h ha hc
    rw [f_addr] at h
    by_cases e : cnt = 4
    · rw [if_pos e] at h; cases h; subst e; exact ha
    · rw [if_neg e] at h; cases h
  | succ m ih =>
    intro acc cnt st i v h ha hc
    rw [f_addr] at h
    split at h
    · split at h
      · cases h
      · rename_i b hb
        split at h
        · cases h
        · rename_i hn
          have := t_num_le hb
          refine ih _ _ _ _ _ h ?_ (by omega)
          rw [Nat.pow_succ]
          omega
    · exact ih _ _ _ _ _ h ha hc
theorem lc_none : lg_cmp (oL none) (Int64.ofNat 18446744073709551615) = 0 := by decide
theorem lc_some {v : Nat} (h : v < 2 ^ 32) : lg_cmp (oL (some v)) (Int64.ofNat 18446744073709551615) = 1 := by
  unfold lg_cmp oL
  rw [if_pos]
  show Int64.ofNat 18446744073709551615 < Int64.ofNat v
  have e1 : (Int64.ofNat v).toInt = (v : Int) := Int64.toInt_ofNat_of_lt (by omega)
  have e2 : (Int64.ofNat 18446744073709551615).toInt = -1 := by decide
  rw [Int64.lt_iff_toInt_lt, e1, e2]
  omega
section TIR
variable {L : Nat} {xs : Nat → Int32} {d a b r : Nat} {s : mg_s} {p : Nat → Nat} {R : List rowT} {l m : List Nat}
theorem ts_name {fr to : Nat} (H : isT a) (hl : hold s a l) (hto : to < 2 ^ 30) (hf : fr ≤ to) : ca L xs (d + 2) 38 [.ref a, .int (nI fr), .int (nI to)] s (fun v s' => v = some (.int (nI (bI (t_name (gl l) fr to)))) ∧ s = s') := by
  have h := tx_isName (L := L) (xs := xs) (d := d) H hl.1 hto hf
  rw [hold_at hl] at h
  exact h
theorem nI_m1 (n : Nat) : nI n - nI (n + 1) = -1 := by
  rw [← nI_add n 1]
  show nI n - (nI n + 1) = -1
  rw [Int32.sub_eq_add_neg, Int32.neg_add, Int32.sub_eq_add_neg, ← Int32.add_assoc, Int32.add_right_neg]
  rfl
theorem tx_nameX {to : Nat} (H : isT a) (hto : to < 2 ^ 30) : ca L xs (d + 1) 38 [.ref a, .int (nI (to + 1)), .int (nI to)] s (fun v s' => v = some (.int 0) ∧ s = s') := by
  refine wg_call (Nat.le_of_ble_eq_true rfl) ?_
  show wp L xs d 38 0 [some (.ref a), some (.int (nI (to + 1))), some (.int (nI to)), none, none, none] [] s _
  refine wg_iload_n (d38_0 L xs) rfl ?_
  refine wg_iload_n (d38_1 L xs) rfl ?_
  refine wg_isub (d38_2 L xs) ?_
  refine wg_top (y := (-1)) (nI_m1 to) ?_
  refine wg_bipush (d38_3 L xs) (x := 48) (by decide) ?_
  refine wg_icmp_le (d38_5 L xs) (t := 10) (by decide) (fun _ => ?_) (fun hn => absurd (by decide) hn)
  refine wg_iconst (d38_10 L xs) (x := 0) (by decide) ?_
  refine wg_istore_n (d38_11 L xs) (ls' := [some (.ref a), some (.int (nI (to + 1))), some (.int (nI to)), some (.int 0), none, none]) (Nat.le_of_ble_eq_true rfl) rfl ?_
  refine wg_iload_n (d38_12 L xs) rfl ?_
  refine wg_istore (d38_13 L xs) (ls' := [some (.ref a), some (.int (nI (to + 1))), some (.int (nI to)), some (.int 0), some (.int (nI (to + 1))), none]) (Nat.le_of_ble_eq_true rfl) rfl ?_
  refine wg_iload (d38_15 L xs) rfl ?_
  refine wg_iload_n (d38_17 L xs) rfl ?_
  refine wn_icmp_ge (d38_18 L xs) (x := to + 1) (y := to) (by omega) (by omega) (t := 72) (by decide) (fun h2 => ?_) (fun h2 => by omega)
  refine wg_iload_n (d38_72 L xs) rfl ?_
  refine wg_if_le (d38_73 L xs) (t := 80) (by decide) (fun _ => ?_) (fun hn => absurd (by decide) hn)
  refine wg_iconst (d38_80 L xs) (x := 0) (by decide) ?_
  exact wg_iret (d38_81 L xs) rfl rfl ⟨rfl, rfl⟩
theorem tx_nameY {fr to : Nat} (H : isT a) (hto : to < 2 ^ 30) (hf : fr = to + 1) : ca L xs (d + 1) 38 [.ref a, .int (nI fr), .int (nI to)] s (fun v s' => v = some (.int 0) ∧ s = s') := by
  subst hf
  exact tx_nameX H hto
theorem gd_tir0n {e : Nat} (hl : hold s 1 l) (he : f_find (gl l) 32 0 (l.length - 0) = e) (ha : f_addr (gl l) l.length (l.length + 1 - (e + 1)) 0 0 (e + 1) (e + 1) = none) : ca L xs (d + 4) 36 [.ref 0, .int 0] s (fun v s' => v = some (.int (nI (bI (t_name (gl l) 0 e && false)))) ∧ s = s') := by
  refine wg_call (Nat.le_of_ble_eq_true rfl) ?_
  have h100 := hl.1.2
  have h99 := isT_all.2.2.2.2.2.1
  have hel : e ≤ l.length := by have := (f_find_s (g := gl l) (c := 32) (l.length - 0) 0).2.1; omega
  have hbn := bI_lt (t_name (gl l) 0 e)
  show wp L xs (d + 3) 36 0 [some (.ref 0), some (.int 0), none, none] [] s _
  refine wg_aload_n (d36_0 L xs) rfl ?_
  refine wg_get (d36_1 L xs) (kd := 1) (cj := 0) (k0 := 0) rfl (Or.inl rfl) (by decide) rfl rfl ?_
  refine wg_bipush (d36_4 L xs) (x := 32) (by decide) ?_
  refine wg_iconst (d36_6 L xs) (x := 0) (by decide) ?_
  refine wg_aload_n (d36_7 L xs) rfl ?_
  refine wg_get (d36_8 L xs) (kd := 1) (cj := 0) (k0 := 0) rfl (Or.inl rfl) (by decide) rfl rfl ?_
  refine wg_invv (d36_11 L xs) (kd := 7) (mj := 15) (n := 0) rfl (Or.inl rfl) (ys := []) (r := [.int 0, .int 32, .ref 1]) rfl rfl (by decide) rfl rfl (Nat.le_of_ble_eq_true rfl) (ts_size isT_all.1 hl) ?_
  rintro _ _ ⟨rfl, rfl⟩
  refine wg_invv (d36_14 L xs) (kd := 7) (mj := 37) (n := 3) rfl (Or.inl rfl) (ys := [.int (nI l.length), .int 0, .int 32]) (r := []) rfl rfl (by decide) rfl rfl (Nat.le_of_ble_eq_true rfl) (ts_find (c := 32) (fr := 0) isT_all.1 hl (by decide) (by omega) (Nat.zero_le _) he) ?_
  rintro _ _ ⟨rfl, rfl⟩
  refine wg_istore_n (d36_17 L xs) (ls' := [some (.ref 0), some (.int 0), some (.int (nI e)), none]) (Nat.le_of_ble_eq_true rfl) rfl ?_
  refine wg_aload_n (d36_18 L xs) rfl ?_
  refine wg_get (d36_19 L xs) (kd := 1) (cj := 0) (k0 := 0) rfl (Or.inl rfl) (by decide) rfl rfl ?_
  refine wg_iconst (d36_22 L xs) (x := 0) (by decide) ?_
  refine wg_iload_n (d36_23 L xs) rfl ?_
  refine wg_invv (d36_24 L xs) (kd := 7) (mj := 38) (n := 2) rfl (Or.inl rfl) (ys := [.int (nI e), .int 0]) (r := []) rfl rfl (by decide) rfl rfl (Nat.le_of_ble_eq_true rfl) (ts_name (fr := 0) isT_all.1 hl (by omega) (Nat.zero_le _)) ?_
  rintro _ _ ⟨rfl, rfl⟩
  refine wn_if_ne (d36_27 L xs) (x := bI (t_name (gl l) 0 e)) (by omega) (t := 32) (by decide) (fun h1 => ?_) (fun h1 => ?_)
  · refine wg_iload_n (d36_32 L xs) rfl ?_
    refine wg_iconst (d36_33 L xs) (x := 1) (by decide) ?_
    refine wg_iadd (d36_34 L xs) ?_
    refine wg_top (y := (nI (e + 1))) (nI_add e 1) ?_
    refine wg_istore_n (d36_35 L xs) (ls' := [some (.ref 0), some (.int 0), some (.int (nI e)), some (.int (nI (e + 1)))]) (Nat.le_of_ble_eq_true rfl) rfl ?_
    refine wg_iload_n (d36_36 L xs) rfl ?_
    refine wg_tswIn (d36_37 L xs) (of := 35) (t := 72) (by decide) (by decide) (by decide) ?_
    refine wg_aload_n (d36_72 L xs) rfl ?_
    refine wg_get (d36_73 L xs) (kd := 1) (cj := 0) (k0 := 0) rfl (Or.inl rfl) (by decide) rfl rfl ?_
    refine wg_iload_n (d36_76 L xs) rfl ?_
    refine wg_aload_n (d36_77 L xs) rfl ?_
    refine wg_get (d36_78 L xs) (kd := 1) (cj := 0) (k0 := 0) rfl (Or.inl rfl) (by decide) rfl rfl ?_
    refine wg_invv (d36_81 L xs) (kd := 7) (mj := 15) (n := 0) rfl (Or.inl rfl) (ys := []) (r := [.int (nI (e + 1)), .ref 1]) rfl rfl (by decide) rfl rfl (Nat.le_of_ble_eq_true rfl) (ts_size isT_all.1 hl) ?_
    rintro _ _ ⟨rfl, rfl⟩
    refine wg_invv (d36_84 L xs) (kd := 7) (mj := 40) (n := 2) rfl (Or.inl rfl) (ys := [.int (nI l.length), .int (nI (e + 1))]) (r := []) rfl rfl (by decide) rfl rfl (Nat.le_of_ble_eq_true rfl) (ts_addr isT_all.1 hl (by omega) (by omega)) ?_
    rintro _ _ ⟨rfl, rfl⟩
    refine wg_ldc2 (d36_87 L xs) (v := 18446744073709551615) rfl ?_
    refine wg_lcmp (d36_90 L xs) ?_
    refine wg_top (y := 0) (by rw [ha]; exact lc_none) ?_
    refine wg_if_eq (d36_91 L xs) (t := 98) (by decide) (fun _ => ?_) (fun hn => absurd (by decide) hn)
    refine wg_iconst (d36_98 L xs) (x := 0) (by decide) ?_
    exact wg_iret (d36_99 L xs) rfl rfl ⟨by rw [Bool.and_false]; rfl, rfl⟩
  · refine wg_iconst (d36_30 L xs) (x := 0) (by decide) ?_
    exact wg_iret (d36_31 L xs) rfl rfl ⟨by rw [Bool.and_false]; rfl, rfl⟩
theorem gd_tir0s {e : Nat} (hl : hold s 1 l) (he : f_find (gl l) 32 0 (l.length - 0) = e) {v : Nat} (ha : f_addr (gl l) l.length (l.length + 1 - (e + 1)) 0 0 (e + 1) (e + 1) = some v) : ca L xs (d + 4) 36 [.ref 0, .int 0] s (fun v s' => v = some (.int (nI (bI (t_name (gl l) 0 e && true)))) ∧ s = s') := by
  refine wg_call (Nat.le_of_ble_eq_true rfl) ?_
  have h100 := hl.1.2
  have h99 := isT_all.2.2.2.2.2.1
  have hel : e ≤ l.length := by have := (f_find_s (g := gl l) (c := 32) (l.length - 0) 0).2.1; omega
  have hbn := bI_lt (t_name (gl l) 0 e)
  show wp L xs (d + 3) 36 0 [some (.ref 0), some (.int 0), none, none] [] s _
  refine wg_aload_n (d36_0 L xs) rfl ?_
  refine wg_get (d36_1 L xs) (kd := 1) (cj := 0) (k0 := 0) rfl (Or.inl rfl) (by decide) rfl rfl ?_
  refine wg_bipush (d36_4 L xs) (x := 32) (by decide) ?_
  refine wg_iconst (d36_6 L xs) (x := 0) (by decide) ?_
  refine wg_aload_n (d36_7 L xs) rfl ?_
  refine wg_get (d36_8 L xs) (kd := 1) (cj := 0) (k0 := 0) rfl (Or.inl rfl) (by decide) rfl rfl ?_
  refine wg_invv (d36_11 L xs) (kd := 7) (mj := 15) (n := 0) rfl (Or.inl rfl) (ys := []) (r := [.int 0, .int 32, .ref 1]) rfl rfl (by decide) rfl rfl (Nat.le_of_ble_eq_true rfl) (ts_size isT_all.1 hl) ?_
  rintro _ _ ⟨rfl, rfl⟩
  refine wg_invv (d36_14 L xs) (kd := 7) (mj := 37) (n := 3) rfl (Or.inl rfl) (ys := [.int (nI l.length), .int 0, .int 32]) (r := []) rfl rfl (by decide) rfl rfl (Nat.le_of_ble_eq_true rfl) (ts_find (c := 32) (fr := 0) isT_all.1 hl (by decide) (by omega) (Nat.zero_le _) he) ?_
  rintro _ _ ⟨rfl, rfl⟩
  refine wg_istore_n (d36_17 L xs) (ls' := [some (.ref 0), some (.int 0), some (.int (nI e)), none]) (Nat.le_of_ble_eq_true rfl) rfl ?_
  refine wg_aload_n (d36_18 L xs) rfl ?_
  refine wg_get (d36_19 L xs) (kd := 1) (cj := 0) (k0 := 0) rfl (Or.inl rfl) (by decide) rfl rfl ?_
  refine wg_iconst (d36_22 L xs) (x := 0) (by decide) ?_
  refine wg_iload_n (d36_23 L xs) rfl ?_
  refine wg_invv (d36_24 L xs) (kd := 7) (mj := 38) (n := 2) rfl (Or.inl rfl) (ys := [.int (nI e), .int 0]) (r := []) rfl rfl (by decide) rfl rfl (Nat.le_of_ble_eq_true rfl) (ts_name (fr := 0) isT_all.1 hl (by omega) (Nat.zero_le _)) ?_
  rintro _ _ ⟨rfl, rfl⟩
  refine wn_if_ne (d36_27 L xs) (x := bI (t_name (gl l) 0 e)) (by omega) (t := 32) (by decide) (fun h1 => ?_) (fun h1 => ?_)
  · refine wg_iload_n (d36_32 L xs) rfl ?_
    refine wg_iconst (d36_33 L xs) (x := 1) (by decide) ?_
    refine wg_iadd (d36_34 L xs) ?_
    refine wg_top (y := (nI (e + 1))) (nI_add e 1) ?_
    refine wg_istore_n (d36_35 L xs) (ls' := [some (.ref 0), some (.int 0), some (.int (nI e)), some (.int (nI (e + 1)))]) (Nat.le_of_ble_eq_true rfl) rfl ?_
    refine wg_iload_n (d36_36 L xs) rfl ?_
    refine wg_tswIn (d36_37 L xs) (of := 35) (t := 72) (by decide) (by decide) (by decide) ?_
    refine wg_aload_n (d36_72 L xs) rfl ?_
    refine wg_get (d36_73 L xs) (kd := 1) (cj := 0) (k0 := 0) rfl (Or.inl rfl) (by decide) rfl rfl ?_
    refine wg_iload_n (d36_76 L xs) rfl ?_
    refine wg_aload_n (d36_77 L xs) rfl ?_
    refine wg_get (d36_78 L xs) (kd := 1) (cj := 0) (k0 := 0) rfl (Or.inl rfl) (by decide) rfl rfl ?_
    refine wg_invv (d36_81 L xs) (kd := 7) (mj := 15) (n := 0) rfl (Or.inl rfl) (ys := []) (r := [.int (nI (e + 1)), .ref 1]) rfl rfl (by decide) rfl rfl (Nat.le_of_ble_eq_true rfl) (ts_size isT_all.1 hl) ?_
    rintro _ _ ⟨rfl, rfl⟩
    refine wg_invv (d36_84 L xs) (kd := 7) (mj := 40) (n := 2) rfl (Or.inl rfl) (ys := [.int (nI l.length), .int (nI (e + 1))]) (r := []) rfl rfl (by decide) rfl rfl (Nat.le_of_ble_eq_true rfl) (ts_addr isT_all.1 hl (by omega) (by omega)) ?_
    rintro _ _ ⟨rfl, rfl⟩
    refine wg_ldc2 (d36_87 L xs) (v := 18446744073709551615) rfl ?_
    refine wg_lcmp (d36_90 L xs) ?_
    refine wg_top (y := 1) (by rw [ha]; exact lc_some (f_addr_lt _ _ _ _ _ _ ha (by decide) (by decide))) ?_
    refine wg_if_eq (d36_91 L xs) (t := 98) (by decide) (fun hp => absurd hp (by decide)) (fun _ => ?_)
    refine wg_iconst (d36_94 L xs) (x := 1) (by decide) ?_
    refine wg_goto (d36_95 L xs) (t := 99) (by decide) ?_
    exact wg_iret (d36_99 L xs) rfl rfl ⟨by rw [bI_t (b := t_name (gl l) 0 e) (by omega), Bool.true_and]; rfl, rfl⟩
  · refine wg_iconst (d36_30 L xs) (x := 0) (by decide) ?_
    exact wg_iret (d36_31 L xs) rfl rfl ⟨by rw [bI_f (b := t_name (gl l) 0 e) (by omega)]; rfl, rfl⟩
theorem gd_tir1a {e : Nat} (hl : hold s 1 l) (he : f_find (gl l) 32 0 (l.length - 0) = e) (hlt : e < l.length) : ca L xs (d + 4) 36 [.ref 0, .int 1] s (fun v s' => v = some (.int (nI (bI (t_name (gl l) 0 e && t_name (gl l) (e + 1) l.length)))) ∧ s = s') := by
  refine wg_call (Nat.le_of_ble_eq_true rfl) ?_
  have h100 := hl.1.2
  have h99 := isT_all.2.2.2.2.2.1
  have hel : e ≤ l.length := by have := (f_find_s (g := gl l) (c := 32) (l.length - 0) 0).2.1; omega
  have hbn := bI_lt (t_name (gl l) 0 e)
  show wp L xs (d + 3) 36 0 [some (.ref 0), some (.int 1), none, none] [] s _
  refine wg_aload_n (d36_0 L xs) rfl ?_
  refine wg_get (d36_1 L xs) (kd := 1) (cj := 0) (k0 := 0) rfl (Or.inl rfl) (by decide) rfl rfl ?_
  refine wg_bipush (d36_4 L xs) (x := 32) (by decide) ?_
  refine wg_iconst (d36_6 L xs) (x := 0) (by decide) ?_
  refine wg_aload_n (d36_7 L xs) rfl ?_
  refine wg_get (d36_8 L xs) (kd := 1) (cj := 0) (k0 := 0) rfl (Or.inl rfl) (by decide) rfl rfl ?_
  refine wg_invv (d36_11 L xs) (kd := 7) (mj := 15) (n := 0) rfl (Or.inl rfl) (ys := []) (r := [.int 0, .int 32, .ref 1]) rfl rfl (by decide) rfl rfl (Nat.le_of_ble_eq_true rfl) (ts_size isT_all.1 hl) ?_
  rintro _ _ ⟨rfl, rfl⟩
  refine wg_invv (d36_14 L xs) (kd := 7) (mj := 37) (n := 3) rfl (Or.inl rfl) (ys := [.int (nI l.length), .int 0, .int 32]) (r := []) rfl rfl (by decide) rfl rfl (Nat.le_of_ble_eq_true rfl) (ts_find (c := 32) (fr := 0) isT_all.1 hl (by decide) (by omega) (Nat.zero_le _) he) ?_
  rintro _ _ ⟨rfl, rfl⟩
  refine wg_istore_n (d36_17 L xs) (ls' := [some (.ref 0), some (.int 1), some (.int (nI e)), none]) (Nat.le_of_ble_eq_true rfl) rfl ?_
  refine wg_aload_n (d36_18 L xs) rfl ?_
  refine wg_get (d36_19 L xs) (kd := 1) (cj := 0) (k0 := 0) rfl (Or.inl rfl) (by decide) rfl rfl ?_
  refine wg_iconst (d36_22 L xs) (x := 0) (by decide) ?_
  refine wg_iload_n (d36_23 L xs) rfl ?_
  refine wg_invv (d36_24 L xs) (kd := 7) (mj := 38) (n := 2) rfl (Or.inl rfl) (ys := [.int (nI e), .int 0]) (r := []) rfl rfl (by decide) rfl rfl (Nat.le_of_ble_eq_true rfl) (ts_name (fr := 0) isT_all.1 hl (by omega) (Nat.zero_le _)) ?_
  rintro _ _ ⟨rfl, rfl⟩
  refine wn_if_ne (d36_27 L xs) (x := bI (t_name (gl l) 0 e)) (by omega) (t := 32) (by decide) (fun h1 => ?_) (fun h1 => ?_)
  · refine wg_iload_n (d36_32 L xs) rfl ?_
    refine wg_iconst (d36_33 L xs) (x := 1) (by decide) ?_
    refine wg_iadd (d36_34 L xs) ?_
    refine wg_top (y := (nI (e + 1))) (nI_add e 1) ?_
    refine wg_istore_n (d36_35 L xs) (ls' := [some (.ref 0), some (.int 1), some (.int (nI e)), some (.int (nI (e + 1)))]) (Nat.le_of_ble_eq_true rfl) rfl ?_
    refine wg_iload_n (d36_36 L xs) rfl ?_
    refine wg_tswIn (d36_37 L xs) (of := 63) (t := 100) (by decide) (by decide) (by decide) ?_
    refine wg_aload_n (d36_100 L xs) rfl ?_
    refine wg_get (d36_101 L xs) (kd := 1) (cj := 0) (k0 := 0) rfl (Or.inl rfl) (by decide) rfl rfl ?_
    refine wg_iload_n (d36_104 L xs) rfl ?_
    refine wg_aload_n (d36_105 L xs) rfl ?_
    refine wg_get (d36_106 L xs) (kd := 1) (cj := 0) (k0 := 0) rfl (Or.inl rfl) (by decide) rfl rfl ?_
    refine wg_invv (d36_109 L xs) (kd := 7) (mj := 15) (n := 0) rfl (Or.inl rfl) (ys := []) (r := [.int (nI (e + 1)), .ref 1]) rfl rfl (by decide) rfl rfl (Nat.le_of_ble_eq_true rfl) (ts_size isT_all.1 hl) ?_
    rintro _ _ ⟨rfl, rfl⟩
    refine wg_invv (d36_112 L xs) (kd := 7) (mj := 38) (n := 2) rfl (Or.inl rfl) (ys := [.int (nI l.length), .int (nI (e + 1))]) (r := []) rfl rfl (by decide) rfl rfl (Nat.le_of_ble_eq_true rfl) (ts_name (fr := e + 1) isT_all.1 hl (by omega) (by omega)) ?_
    rintro _ _ ⟨rfl, rfl⟩
    exact wg_iret (d36_115 L xs) rfl (nar_b _) ⟨by rw [bI_t (b := t_name (gl l) 0 e) (by omega), Bool.true_and], rfl⟩
  · refine wg_iconst (d36_30 L xs) (x := 0) (by decide) ?_
    exact wg_iret (d36_31 L xs) rfl rfl ⟨by rw [bI_f (b := t_name (gl l) 0 e) (by omega)]; rfl, rfl⟩
theorem gd_tir1b {e : Nat} (hl : hold s 1 l) (he : f_find (gl l) 32 0 (l.length - 0) = e) (heq : l.length = e) : ca L xs (d + 4) 36 [.ref 0, .int 1] s (fun v s' => v = some (.int (nI (bI (t_name (gl l) 0 e && false)))) ∧ s = s') := by
  refine wg_call (Nat.le_of_ble_eq_true rfl) ?_
  have h100 := hl.1.2
  have h99 := isT_all.2.2.2.2.2.1
  have hel : e ≤ l.length := by have := (f_find_s (g := gl l) (c := 32) (l.length - 0) 0).2.1; omega
  have hbn := bI_lt (t_name (gl l) 0 e)
  show wp L xs (d + 3) 36 0 [some (.ref 0), some (.int 1), none, none] [] s _
  refine wg_aload_n (d36_0 L xs) rfl ?_
  refine wg_get (d36_1 L xs) (kd := 1) (cj := 0) (k0 := 0) rfl (Or.inl rfl) (by decide) rfl rfl ?_
  refine wg_bipush (d36_4 L xs) (x := 32) (by decide) ?_
  refine wg_iconst (d36_6 L xs) (x := 0) (by decide) ?_
  refine wg_aload_n (d36_7 L xs) rfl ?_
  refine wg_get (d36_8 L xs) (kd := 1) (cj := 0) (k0 := 0) rfl (Or.inl rfl) (by decide) rfl rfl ?_
  refine wg_invv (d36_11 L xs) (kd := 7) (mj := 15) (n := 0) rfl (Or.inl rfl) (ys := []) (r := [.int 0, .int 32, .ref 1]) rfl rfl (by decide) rfl rfl (Nat.le_of_ble_eq_true rfl) (ts_size isT_all.1 hl) ?_
  rintro _ _ ⟨rfl, rfl⟩
  refine wg_invv (d36_14 L xs) (kd := 7) (mj := 37) (n := 3) rfl (Or.inl rfl) (ys := [.int (nI l.length), .int 0, .int 32]) (r := []) rfl rfl (by decide) rfl rfl (Nat.le_of_ble_eq_true rfl) (ts_find (c := 32) (fr := 0) isT_all.1 hl (by decide) (by omega) (Nat.zero_le _) he) ?_
  rintro _ _ ⟨rfl, rfl⟩
  refine wg_istore_n (d36_17 L xs) (ls' := [some (.ref 0), some (.int 1), some (.int (nI e)), none]) (Nat.le_of_ble_eq_true rfl) rfl ?_
  refine wg_aload_n (d36_18 L xs) rfl ?_
  refine wg_get (d36_19 L xs) (kd := 1) (cj := 0) (k0 := 0) rfl (Or.inl rfl) (by decide) rfl rfl ?_
  refine wg_iconst (d36_22 L xs) (x := 0) (by decide) ?_
  refine wg_iload_n (d36_23 L xs) rfl ?_
  refine wg_invv (d36_24 L xs) (kd := 7) (mj := 38) (n := 2) rfl (Or.inl rfl) (ys := [.int (nI e), .int 0]) (r := []) rfl rfl (by decide) rfl rfl (Nat.le_of_ble_eq_true rfl) (ts_name (fr := 0) isT_all.1 hl (by omega) (Nat.zero_le _)) ?_
  rintro _ _ ⟨rfl, rfl⟩
  refine wn_if_ne (d36_27 L xs) (x := bI (t_name (gl l) 0 e)) (by omega) (t := 32) (by decide) (fun h1 => ?_) (fun h1 => ?_)
  · refine wg_iload_n (d36_32 L xs) rfl ?_
    refine wg_iconst (d36_33 L xs) (x := 1) (by decide) ?_
    refine wg_iadd (d36_34 L xs) ?_
    refine wg_top (y := (nI (e + 1))) (nI_add e 1) ?_
    refine wg_istore_n (d36_35 L xs) (ls' := [some (.ref 0), some (.int 1), some (.int (nI e)), some (.int (nI (e + 1)))]) (Nat.le_of_ble_eq_true rfl) rfl ?_
    refine wg_iload_n (d36_36 L xs) rfl ?_
    refine wg_tswIn (d36_37 L xs) (of := 63) (t := 100) (by decide) (by decide) (by decide) ?_
    refine wg_aload_n (d36_100 L xs) rfl ?_
    refine wg_get (d36_101 L xs) (kd := 1) (cj := 0) (k0 := 0) rfl (Or.inl rfl) (by decide) rfl rfl ?_
    refine wg_iload_n (d36_104 L xs) rfl ?_
    refine wg_aload_n (d36_105 L xs) rfl ?_
    refine wg_get (d36_106 L xs) (kd := 1) (cj := 0) (k0 := 0) rfl (Or.inl rfl) (by decide) rfl rfl ?_
    refine wg_invv (d36_109 L xs) (kd := 7) (mj := 15) (n := 0) rfl (Or.inl rfl) (ys := []) (r := [.int (nI (e + 1)), .ref 1]) rfl rfl (by decide) rfl rfl (Nat.le_of_ble_eq_true rfl) (ts_size isT_all.1 hl) ?_
    rintro _ _ ⟨rfl, rfl⟩
    refine wg_invv (d36_112 L xs) (kd := 7) (mj := 38) (n := 2) rfl (Or.inl rfl) (ys := [.int (nI l.length), .int (nI (e + 1))]) (r := []) rfl rfl (by decide) rfl rfl (Nat.le_of_ble_eq_true rfl) (ca_deep (Nat.le_add_left 1 _) (tx_nameY (d := 0) (fr := e + 1) (to := l.length) isT_all.1 (by omega) (by omega))) ?_
    rintro _ _ ⟨rfl, rfl⟩
    exact wg_iret (d36_115 L xs) rfl rfl ⟨by rw [Bool.and_false]; rfl, rfl⟩
  · refine wg_iconst (d36_30 L xs) (x := 0) (by decide) ?_
    exact wg_iret (d36_31 L xs) rfl rfl ⟨by rw [Bool.and_false]; rfl, rfl⟩
theorem gd_tir2 {e : Nat} (hl : hold s 1 l) (he : f_find (gl l) 32 0 (l.length - 0) = e) : ca L xs (d + 4) 36 [.ref 0, .int 2] s (fun v s' => v = some (.int (nI (bI (t_name (gl l) 0 e && decide (e + 1 < l.length))))) ∧ s = s') := by
  refine wg_call (Nat.le_of_ble_eq_true rfl) ?_
  have h100 := hl.1.2
  have h99 := isT_all.2.2.2.2.2.1
  have hel : e ≤ l.length := by have := (f_find_s (g := gl l) (c := 32) (l.length - 0) 0).2.1; omega
  have hbn := bI_lt (t_name (gl l) 0 e)
  show wp L xs (d + 3) 36 0 [some (.ref 0), some (.int 2), none, none] [] s _
  refine wg_aload_n (d36_0 L xs) rfl ?_
  refine wg_get (d36_1 L xs) (kd := 1) (cj := 0) (k0 := 0) rfl (Or.inl rfl) (by decide) rfl rfl ?_
  refine wg_bipush (d36_4 L xs) (x := 32) (by decide) ?_
  refine wg_iconst (d36_6 L xs) (x := 0) (by decide) ?_
  refine wg_aload_n (d36_7 L xs) rfl ?_
  refine wg_get (d36_8 L xs) (kd := 1) (cj := 0) (k0 := 0) rfl (Or.inl rfl) (by decide) rfl rfl ?_
  refine wg_invv (d36_11 L xs) (kd := 7) (mj := 15) (n := 0) rfl (Or.inl rfl) (ys := []) (r := [.int 0, .int 32, .ref 1]) rfl rfl (by decide) rfl rfl (Nat.le_of_ble_eq_true rfl) (ts_size isT_all.1 hl) ?_
  rintro _ _ ⟨rfl, rfl⟩
  refine wg_invv (d36_14 L xs) (kd := 7) (mj := 37) (n := 3) rfl (Or.inl rfl) (ys := [.int (nI l.length), .int 0, .int 32]) (r := []) rfl rfl (by decide) rfl rfl (Nat.le_of_ble_eq_true rfl) (ts_find (c := 32) (fr := 0) isT_all.1 hl (by decide) (by omega) (Nat.zero_le _) he) ?_
  rintro _ _ ⟨rfl, rfl⟩
  refine wg_istore_n (d36_17 L xs) (ls' := [some (.ref 0), some (.int 2), some (.int (nI e)), none]) (Nat.le_of_ble_eq_true rfl) rfl ?_
  refine wg_aload_n (d36_18 L xs) rfl ?_
  refine wg_get (d36_19 L xs) (kd := 1) (cj := 0) (k0 := 0) rfl (Or.inl rfl) (by decide) rfl rfl ?_
  refine wg_iconst (d36_22 L xs) (x := 0) (by decide) ?_
  refine wg_iload_n (d36_23 L xs) rfl ?_
  refine wg_invv (d36_24 L xs) (kd := 7) (mj := 38) (n := 2) rfl (Or.inl rfl) (ys := [.int (nI e), .int 0]) (r := []) rfl rfl (by decide) rfl rfl (Nat.le_of_ble_eq_true rfl) (ts_name (fr := 0) isT_all.1 hl (by omega) (Nat.zero_le _)) ?_
  rintro _ _ ⟨rfl, rfl⟩
  refine wn_if_ne (d36_27 L xs) (x := bI (t_name (gl l) 0 e)) (by omega) (t := 32) (by decide) (fun h1 => ?_) (fun h1 => ?_)
  · refine wg_iload_n (d36_32 L xs) rfl ?_
    refine wg_iconst (d36_33 L xs) (x := 1) (by decide) ?_
    refine wg_iadd (d36_34 L xs) ?_
    refine wg_top (y := (nI (e + 1))) (nI_add e 1) ?_
    refine wg_istore_n (d36_35 L xs) (ls' := [some (.ref 0), some (.int 2), some (.int (nI e)), some (.int (nI (e + 1)))]) (Nat.le_of_ble_eq_true rfl) rfl ?_
    refine wg_iload_n (d36_36 L xs) rfl ?_
    refine wg_tswIn (d36_37 L xs) (of := 79) (t := 116) (by decide) (by decide) (by decide) ?_
    refine wg_iload_n (d36_116 L xs) rfl ?_
    refine wg_aload_n (d36_117 L xs) rfl ?_
    refine wg_get (d36_118 L xs) (kd := 1) (cj := 0) (k0 := 0) rfl (Or.inl rfl) (by decide) rfl rfl ?_
    refine wg_invv (d36_121 L xs) (kd := 7) (mj := 15) (n := 0) rfl (Or.inl rfl) (ys := []) (r := [.int (nI (e + 1))]) rfl rfl (by decide) rfl rfl (Nat.le_of_ble_eq_true rfl) (ts_size isT_all.1 hl) ?_
    rintro _ _ ⟨rfl, rfl⟩
    refine wn_icmp_ge (d36_124 L xs) (x := e + 1) (y := l.length) (by omega) (by omega) (t := 131) (by decide) (fun h2 => ?_) (fun h2 => ?_)
    · refine wg_iconst (d36_131 L xs) (x := 0) (by decide) ?_
      exact wg_iret (d36_132 L xs) rfl rfl ⟨by rw [bI_t (b := t_name (gl l) 0 e) (by omega), Bool.true_and, decide_eq_false (show ¬ e + 1 < l.length by omega)]; rfl, rfl⟩
    · refine wg_iconst (d36_127 L xs) (x := 1) (by decide) ?_
      refine wg_goto (d36_128 L xs) (t := 132) (by decide) ?_
      exact wg_iret (d36_132 L xs) rfl rfl ⟨by rw [bI_t (b := t_name (gl l) 0 e) (by omega), Bool.true_and, decide_eq_true (show e + 1 < l.length by omega)]; rfl, rfl⟩
  · refine wg_iconst (d36_30 L xs) (x := 0) (by decide) ?_
    exact wg_iret (d36_31 L xs) rfl rfl ⟨by rw [bI_f (b := t_name (gl l) 0 e) (by omega)]; rfl, rfl⟩
theorem gd_tir3 {e : Nat} (hl : hold s 1 l) (he : f_find (gl l) 32 0 (l.length - 0) = e) : ca L xs (d + 4) 36 [.ref 0, .int 3] s (fun v s' => v = some (.int (nI (bI (t_name (gl l) 0 e && decide (e = l.length))))) ∧ s = s') := by
  refine wg_call (Nat.le_of_ble_eq_true rfl) ?_
  have h100 := hl.1.2
  have h99 := isT_all.2.2.2.2.2.1
  have hel : e ≤ l.length := by have := (f_find_s (g := gl l) (c := 32) (l.length - 0) 0).2.1; omega
  have hbn := bI_lt (t_name (gl l) 0 e)
  show wp L xs (d + 3) 36 0 [some (.ref 0), some (.int 3), none, none] [] s _
  refine wg_aload_n (d36_0 L xs) rfl ?_
  refine wg_get (d36_1 L xs) (kd := 1) (cj := 0) (k0 := 0) rfl (Or.inl rfl) (by decide) rfl rfl ?_
  refine wg_bipush (d36_4 L xs) (x := 32) (by decide) ?_
  refine wg_iconst (d36_6 L xs) (x := 0) (by decide) ?_
  refine wg_aload_n (d36_7 L xs) rfl ?_
  refine wg_get (d36_8 L xs) (kd := 1) (cj := 0) (k0 := 0) rfl (Or.inl rfl) (by decide) rfl rfl ?_
  refine wg_invv (d36_11 L xs) (kd := 7) (mj := 15) (n := 0) rfl (Or.inl rfl) (ys := []) (r := [.int 0, .int 32, .ref 1]) rfl rfl (by decide) rfl rfl (Nat.le_of_ble_eq_true rfl) (ts_size isT_all.1 hl) ?_
  rintro _ _ ⟨rfl, rfl⟩
  refine wg_invv (d36_14 L xs) (kd := 7) (mj := 37) (n := 3) rfl (Or.inl rfl) (ys := [.int (nI l.length), .int 0, .int 32]) (r := []) rfl rfl (by decide) rfl rfl (Nat.le_of_ble_eq_true rfl) (ts_find (c := 32) (fr := 0) isT_all.1 hl (by decide) (by omega) (Nat.zero_le _) he) ?_
  rintro _ _ ⟨rfl, rfl⟩
  refine wg_istore_n (d36_17 L xs) (ls' := [some (.ref 0), some (.int 3), some (.int (nI e)), none]) (Nat.le_of_ble_eq_true rfl) rfl ?_
  refine wg_aload_n (d36_18 L xs) rfl ?_
  refine wg_get (d36_19 L xs) (kd := 1) (cj := 0) (k0 := 0) rfl (Or.inl rfl) (by decide) rfl rfl ?_
  refine wg_iconst (d36_22 L xs) (x := 0) (by decide) ?_
  refine wg_iload_n (d36_23 L xs) rfl ?_
  refine wg_invv (d36_24 L xs) (kd := 7) (mj := 38) (n := 2) rfl (Or.inl rfl) (ys := [.int (nI e), .int 0]) (r := []) rfl rfl (by decide) rfl rfl (Nat.le_of_ble_eq_true rfl) (ts_name (fr := 0) isT_all.1 hl (by omega) (Nat.zero_le _)) ?_
  rintro _ _ ⟨rfl, rfl⟩
  refine wn_if_ne (d36_27 L xs) (x := bI (t_name (gl l) 0 e)) (by omega) (t := 32) (by decide) (fun h1 => ?_) (fun h1 => ?_)
  · refine wg_iload_n (d36_32 L xs) rfl ?_
    refine wg_iconst (d36_33 L xs) (x := 1) (by decide) ?_
    refine wg_iadd (d36_34 L xs) ?_
    refine wg_top (y := (nI (e + 1))) (nI_add e 1) ?_
    refine wg_istore_n (d36_35 L xs) (ls' := [some (.ref 0), some (.int 3), some (.int (nI e)), some (.int (nI (e + 1)))]) (Nat.le_of_ble_eq_true rfl) rfl ?_
    refine wg_iload_n (d36_36 L xs) rfl ?_
    refine wg_tswIn (d36_37 L xs) (of := 96) (t := 133) (by decide) (by decide) (by decide) ?_
    refine wg_iload_n (d36_133 L xs) rfl ?_
    refine wg_aload_n (d36_134 L xs) rfl ?_
    refine wg_get (d36_135 L xs) (kd := 1) (cj := 0) (k0 := 0) rfl (Or.inl rfl) (by decide) rfl rfl ?_
    refine wg_invv (d36_138 L xs) (kd := 7) (mj := 15) (n := 0) rfl (Or.inl rfl) (ys := []) (r := [.int (nI e)]) rfl rfl (by decide) rfl rfl (Nat.le_of_ble_eq_true rfl) (ts_size isT_all.1 hl) ?_
    rintro _ _ ⟨rfl, rfl⟩
    refine wn_icmp_ne (d36_141 L xs) (x := e) (y := l.length) (by omega) (by omega) (t := 148) (by decide) (fun h2 => ?_) (fun h2 => ?_)
    · refine wg_iconst (d36_148 L xs) (x := 0) (by decide) ?_
      exact wg_iret (d36_149 L xs) rfl rfl ⟨by rw [bI_t (b := t_name (gl l) 0 e) (by omega), Bool.true_and, decide_eq_false (show ¬ e = l.length by omega)]; rfl, rfl⟩
    · refine wg_iconst (d36_144 L xs) (x := 1) (by decide) ?_
      refine wg_goto (d36_145 L xs) (t := 149) (by decide) ?_
      exact wg_iret (d36_149 L xs) rfl rfl ⟨by rw [bI_t (b := t_name (gl l) 0 e) (by omega), Bool.true_and, decide_eq_true (show e = l.length by omega)]; rfl, rfl⟩
  · refine wg_iconst (d36_30 L xs) (x := 0) (by decide) ?_
    exact wg_iret (d36_31 L xs) rfl rfl ⟨by rw [bI_f (b := t_name (gl l) 0 e) (by omega)]; rfl, rfl⟩
theorem gd_tir4 {e : Nat} (hl : hold s 1 l) (he : f_find (gl l) 32 0 (l.length - 0) = e) : ca L xs (d + 4) 36 [.ref 0, .int 4] s (fun v s' => v = some (.int (nI (bI (t_name (gl l) 0 e && decide (e = l.length))))) ∧ s = s') := by
  refine wg_call (Nat.le_of_ble_eq_true rfl) ?_
  have h100 := hl.1.2
  have h99 := isT_all.2.2.2.2.2.1
  have hel : e ≤ l.length := by have := (f_find_s (g := gl l) (c := 32) (l.length - 0) 0).2.1; omega
  have hbn := bI_lt (t_name (gl l) 0 e)
  show wp L xs (d + 3) 36 0 [some (.ref 0), some (.int 4), none, none] [] s _
  refine wg_aload_n (d36_0 L xs) rfl ?_
  refine wg_get (d36_1 L xs) (kd := 1) (cj := 0) (k0 := 0) rfl (Or.inl rfl) (by decide) rfl rfl ?_
  refine wg_bipush (d36_4 L xs) (x := 32) (by decide) ?_
  refine wg_iconst (d36_6 L xs) (x := 0) (by decide) ?_
  refine wg_aload_n (d36_7 L xs) rfl ?_
  refine wg_get (d36_8 L xs) (kd := 1) (cj := 0) (k0 := 0) rfl (Or.inl rfl) (by decide) rfl rfl ?_
  refine wg_invv (d36_11 L xs) (kd := 7) (mj := 15) (n := 0) rfl (Or.inl rfl) (ys := []) (r := [.int 0, .int 32, .ref 1]) rfl rfl (by decide) rfl rfl (Nat.le_of_ble_eq_true rfl) (ts_size isT_all.1 hl) ?_
  rintro _ _ ⟨rfl, rfl⟩
  refine wg_invv (d36_14 L xs) (kd := 7) (mj := 37) (n := 3) rfl (Or.inl rfl) (ys := [.int (nI l.length), .int 0, .int 32]) (r := []) rfl rfl (by decide) rfl rfl (Nat.le_of_ble_eq_true rfl) (ts_find (c := 32) (fr := 0) isT_all.1 hl (by decide) (by omega) (Nat.zero_le _) he) ?_
  rintro _ _ ⟨rfl, rfl⟩
  refine wg_istore_n (d36_17 L xs) (ls' := [some (.ref 0), some (.int 4), some (.int (nI e)), none]) (Nat.le_of_ble_eq_true rfl) rfl ?_
  refine wg_aload_n (d36_18 L xs) rfl ?_
  refine wg_get (d36_19 L xs) (kd := 1) (cj := 0) (k0 := 0) rfl (Or.inl rfl) (by decide) rfl rfl ?_
  refine wg_iconst (d36_22 L xs) (x := 0) (by decide) ?_
  refine wg_iload_n (d36_23 L xs) rfl ?_
  refine wg_invv (d36_24 L xs) (kd := 7) (mj := 38) (n := 2) rfl (Or.inl rfl) (ys := [.int (nI e), .int 0]) (r := []) rfl rfl (by decide) rfl rfl (Nat.le_of_ble_eq_true rfl) (ts_name (fr := 0) isT_all.1 hl (by omega) (Nat.zero_le _)) ?_
  rintro _ _ ⟨rfl, rfl⟩
  refine wn_if_ne (d36_27 L xs) (x := bI (t_name (gl l) 0 e)) (by omega) (t := 32) (by decide) (fun h1 => ?_) (fun h1 => ?_)
  · refine wg_iload_n (d36_32 L xs) rfl ?_
    refine wg_iconst (d36_33 L xs) (x := 1) (by decide) ?_
    refine wg_iadd (d36_34 L xs) ?_
    refine wg_top (y := (nI (e + 1))) (nI_add e 1) ?_
    refine wg_istore_n (d36_35 L xs) (ls' := [some (.ref 0), some (.int 4), some (.int (nI e)), some (.int (nI (e + 1)))]) (Nat.le_of_ble_eq_true rfl) rfl ?_
    refine wg_iload_n (d36_36 L xs) rfl ?_
    refine wg_tswIn (d36_37 L xs) (of := 96) (t := 133) (by decide) (by decide) (by decide) ?_
    refine wg_iload_n (d36_133 L xs) rfl ?_
    refine wg_aload_n (d36_134 L xs) rfl ?_
    refine wg_get (d36_135 L xs) (kd := 1) (cj := 0) (k0 := 0) rfl (Or.inl rfl) (by decide) rfl rfl ?_
    refine wg_invv (d36_138 L xs) (kd := 7) (mj := 15) (n := 0) rfl (Or.inl rfl) (ys := []) (r := [.int (nI e)]) rfl rfl (by decide) rfl rfl (Nat.le_of_ble_eq_true rfl) (ts_size isT_all.1 hl) ?_
    rintro _ _ ⟨rfl, rfl⟩
    refine wn_icmp_ne (d36_141 L xs) (x := e) (y := l.length) (by omega) (by omega) (t := 148) (by decide) (fun h2 => ?_) (fun h2 => ?_)
    · refine wg_iconst (d36_148 L xs) (x := 0) (by decide) ?_
      exact wg_iret (d36_149 L xs) rfl rfl ⟨by rw [bI_t (b := t_name (gl l) 0 e) (by omega), Bool.true_and, decide_eq_false (show ¬ e = l.length by omega)]; rfl, rfl⟩
    · refine wg_iconst (d36_144 L xs) (x := 1) (by decide) ?_
      refine wg_goto (d36_145 L xs) (t := 149) (by decide) ?_
      exact wg_iret (d36_149 L xs) rfl rfl ⟨by rw [bI_t (b := t_name (gl l) 0 e) (by omega), Bool.true_and, decide_eq_true (show e = l.length by omega)]; rfl, rfl⟩
  · refine wg_iconst (d36_30 L xs) (x := 0) (by decide) ?_
    exact wg_iret (d36_31 L xs) rfl rfl ⟨by rw [bI_f (b := t_name (gl l) 0 e) (by omega)]; rfl, rfl⟩
theorem gd_tiro {e : Nat} (hl : hold s 1 l) (he : f_find (gl l) 32 0 (l.length - 0) = e) {x : Int32} (hx : x.toInt < 0 ∨ 4 < x.toInt) : ca L xs (d + 4) 36 [.ref 0, .int x] s (fun v s' => v = some (.int (nI (bI (t_name (gl l) 0 e && false)))) ∧ s = s') := by
  refine wg_call (Nat.le_of_ble_eq_true rfl) ?_
  have h100 := hl.1.2
  have h99 := isT_all.2.2.2.2.2.1
  have hel : e ≤ l.length := by have := (f_find_s (g := gl l) (c := 32) (l.length - 0) 0).2.1; omega
  have hbn := bI_lt (t_name (gl l) 0 e)
  show wp L xs (d + 3) 36 0 [some (.ref 0), some (.int x), none, none] [] s _
  refine wg_aload_n (d36_0 L xs) rfl ?_
  refine wg_get (d36_1 L xs) (kd := 1) (cj := 0) (k0 := 0) rfl (Or.inl rfl) (by decide) rfl rfl ?_
  refine wg_bipush (d36_4 L xs) (x := 32) (by decide) ?_
  refine wg_iconst (d36_6 L xs) (x := 0) (by decide) ?_
  refine wg_aload_n (d36_7 L xs) rfl ?_
  refine wg_get (d36_8 L xs) (kd := 1) (cj := 0) (k0 := 0) rfl (Or.inl rfl) (by decide) rfl rfl ?_
  refine wg_invv (d36_11 L xs) (kd := 7) (mj := 15) (n := 0) rfl (Or.inl rfl) (ys := []) (r := [.int 0, .int 32, .ref 1]) rfl rfl (by decide) rfl rfl (Nat.le_of_ble_eq_true rfl) (ts_size isT_all.1 hl) ?_
  rintro _ _ ⟨rfl, rfl⟩
  refine wg_invv (d36_14 L xs) (kd := 7) (mj := 37) (n := 3) rfl (Or.inl rfl) (ys := [.int (nI l.length), .int 0, .int 32]) (r := []) rfl rfl (by decide) rfl rfl (Nat.le_of_ble_eq_true rfl) (ts_find (c := 32) (fr := 0) isT_all.1 hl (by decide) (by omega) (Nat.zero_le _) he) ?_
  rintro _ _ ⟨rfl, rfl⟩
  refine wg_istore_n (d36_17 L xs) (ls' := [some (.ref 0), some (.int x), some (.int (nI e)), none]) (Nat.le_of_ble_eq_true rfl) rfl ?_
  refine wg_aload_n (d36_18 L xs) rfl ?_
  refine wg_get (d36_19 L xs) (kd := 1) (cj := 0) (k0 := 0) rfl (Or.inl rfl) (by decide) rfl rfl ?_
  refine wg_iconst (d36_22 L xs) (x := 0) (by decide) ?_
  refine wg_iload_n (d36_23 L xs) rfl ?_
  refine wg_invv (d36_24 L xs) (kd := 7) (mj := 38) (n := 2) rfl (Or.inl rfl) (ys := [.int (nI e), .int 0]) (r := []) rfl rfl (by decide) rfl rfl (Nat.le_of_ble_eq_true rfl) (ts_name (fr := 0) isT_all.1 hl (by omega) (Nat.zero_le _)) ?_
  rintro _ _ ⟨rfl, rfl⟩
  refine wn_if_ne (d36_27 L xs) (x := bI (t_name (gl l) 0 e)) (by omega) (t := 32) (by decide) (fun h1 => ?_) (fun h1 => ?_)
  · refine wg_iload_n (d36_32 L xs) rfl ?_
    refine wg_iconst (d36_33 L xs) (x := 1) (by decide) ?_
    refine wg_iadd (d36_34 L xs) ?_
    refine wg_top (y := (nI (e + 1))) (nI_add e 1) ?_
    refine wg_istore_n (d36_35 L xs) (ls' := [some (.ref 0), some (.int x), some (.int (nI e)), some (.int (nI (e + 1)))]) (Nat.le_of_ble_eq_true rfl) rfl ?_
    refine wg_iload_n (d36_36 L xs) rfl ?_
    refine wg_tswOut (d36_37 L xs) (t := 150) hx (by decide) ?_
    refine wg_iconst (d36_150 L xs) (x := 0) (by decide) ?_
    exact wg_iret (d36_151 L xs) rfl rfl ⟨by rw [Bool.and_false]; rfl, rfl⟩
  · refine wg_iconst (d36_30 L xs) (x := 0) (by decide) ?_
    exact wg_iret (d36_31 L xs) rfl rfl ⟨by rw [Bool.and_false]; rfl, rfl⟩
end TIR
