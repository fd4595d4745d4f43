/-! addresses that are written: the class -/
def oL (o : Option Nat) : Int64 := match o with
  | some v => Int64.ofNat v
  | none => -1
def f_addr (g : Nat → Nat) (to : Nat) : Nat → Nat → Nat → Nat → Nat → Option Nat
  | 0, acc, cnt, _, _ => if cnt = 4 then some acc else none
  | m + 1, acc, cnt, st, i => if i = to ∨ g i = 46 then (match t_num g st i 255 with
      | none => none
      | some b => if cnt = 4 then none else f_addr g to m (acc * 256 + b) (cnt + 1) (i + 1) (i + 1)) else f_addr g to m acc cnt st (i + 1)
theorem f_num_le {g : Nat → Nat} {most b : Nat} : ∀ (m v i : Nat), f_num g most v i m = some b → b ≤ most := by
  intro m
  induction m with
  | zero => intro v i h; rw [f_num] at h; split at h <;> cases h; assumption
  | succ m ih => intro v i h; rw [f_num] at h; split at h; exact ih _ _ h; cases h
theorem t_num_le {g : Nat → Nat} {i j most b : Nat} (h : t_num g i j most = some b) : b ≤ most := by
  rw [t_num] at h; split at h; cases h; exact f_num_le _ _ _ h
theorem d40_0 (L : Nat) (xs : Nat → Int32) : decode (ax_code (mgT L xs) 40) 0 = .ok (.lconst 0, 1) := by
  show decode prog_9_method_21_code 0 = _
  decide +kernel
theorem d40_1 (L : Nat) (xs : Nat → Int32) : decode (ax_code (mgT L xs) 40) 1 = .ok (.lstore_n 3, 1) := by
  show decode prog_9_method_21_code 1 = _
  decide +kernel
theorem d40_2 (L : Nat) (xs : Nat → Int32) : decode (ax_code (mgT L xs) 40) 2 = .ok (.iconst 0, 1) := by
  show decode prog_9_method_21_code 2 = _
  decide +kernel
theorem d40_3 (L : Nat) (xs : Nat → Int32) : decode (ax_code (mgT L xs) 40) 3 = .ok (.istore 5, 2) := by
  show decode prog_9_method_21_code 3 = _
  decide +kernel
theorem d40_5 (L : Nat) (xs : Nat → Int32) : decode (ax_code (mgT L xs) 40) 5 = .ok (.iload_n 1, 1) := by
  show decode prog_9_method_21_code 5 = _
  decide +kernel
theorem d40_6 (L : Nat) (xs : Nat → Int32) : decode (ax_code (mgT L xs) 40) 6 = .ok (.istore 6, 2) := by
  show decode prog_9_method_21_code 6 = _
  decide +kernel
theorem d40_8 (L : Nat) (xs : Nat → Int32) : decode (ax_code (mgT L xs) 40) 8 = .ok (.iload_n 1, 1) := by
  show decode prog_9_method_21_code 8 = _
  decide +kernel
theorem d40_9 (L : Nat) (xs : Nat → Int32) : decode (ax_code (mgT L xs) 40) 9 = .ok (.istore 7, 2) := by
  show decode prog_9_method_21_code 9 = _
  decide +kernel
theorem d40_11 (L : Nat) (xs : Nat → Int32) : decode (ax_code (mgT L xs) 40) 11 = .ok (.iload 7, 2) := by
  show decode prog_9_method_21_code 11 = _
  decide +kernel
theorem d40_13 (L : Nat) (xs : Nat → Int32) : decode (ax_code (mgT L xs) 40) 13 = .ok (.iload_n 2, 1) := by
  show decode prog_9_method_21_code 13 = _
  decide +kernel
theorem d40_14 (L : Nat) (xs : Nat → Int32) : decode (ax_code (mgT L xs) 40) 14 = .ok (.if_icmp .gt 73, 3) := by
  show decode prog_9_method_21_code 14 = _
  decide +kernel
theorem d40_17 (L : Nat) (xs : Nat → Int32) : decode (ax_code (mgT L xs) 40) 17 = .ok (.iload 7, 2) := by
  show decode prog_9_method_21_code 17 = _
  decide +kernel
theorem d40_19 (L : Nat) (xs : Nat → Int32) : decode (ax_code (mgT L xs) 40) 19 = .ok (.iload_n 2, 1) := by
  show decode prog_9_method_21_code 19 = _
  decide +kernel
theorem d40_20 (L : Nat) (xs : Nat → Int32) : decode (ax_code (mgT L xs) 40) 20 = .ok (.if_icmp .eq 14, 3) := by
  show decode prog_9_method_21_code 20 = _
  decide +kernel
theorem d40_23 (L : Nat) (xs : Nat → Int32) : decode (ax_code (mgT L xs) 40) 23 = .ok (.aload_n 0, 1) := by
  show decode prog_9_method_21_code 23 = _
  decide +kernel
theorem d40_24 (L : Nat) (xs : Nat → Int32) : decode (ax_code (mgT L xs) 40) 24 = .ok (.iload 7, 2) := by
  show decode prog_9_method_21_code 24 = _
  decide +kernel
theorem d40_26 (L : Nat) (xs : Nat → Int32) : decode (ax_code (mgT L xs) 40) 26 = .ok (.invokevirtual 37, 3) := by
  show decode prog_9_method_21_code 26 = _
  decide +kernel
theorem d40_29 (L : Nat) (xs : Nat → Int32) : decode (ax_code (mgT L xs) 40) 29 = .ok (.bipush 46, 2) := by
  show decode prog_9_method_21_code 29 = _
  decide +kernel
theorem d40_31 (L : Nat) (xs : Nat → Int32) : decode (ax_code (mgT L xs) 40) 31 = .ok (.if_icmp .ne 50, 3) := by
  show decode prog_9_method_21_code 31 = _
  decide +kernel
theorem d40_34 (L : Nat) (xs : Nat → Int32) : decode (ax_code (mgT L xs) 40) 34 = .ok (.aload_n 0, 1) := by
  show decode prog_9_method_21_code 34 = _
  decide +kernel
theorem d40_35 (L : Nat) (xs : Nat → Int32) : decode (ax_code (mgT L xs) 40) 35 = .ok (.iload 6, 2) := by
  show decode prog_9_method_21_code 35 = _
  decide +kernel
theorem d40_37 (L : Nat) (xs : Nat → Int32) : decode (ax_code (mgT L xs) 40) 37 = .ok (.iload 7, 2) := by
  show decode prog_9_method_21_code 37 = _
  decide +kernel
theorem d40_39 (L : Nat) (xs : Nat → Int32) : decode (ax_code (mgT L xs) 40) 39 = .ok (.sipush 255, 3) := by
  show decode prog_9_method_21_code 39 = _
  decide +kernel
theorem d40_42 (L : Nat) (xs : Nat → Int32) : decode (ax_code (mgT L xs) 40) 42 = .ok (.invokevirtual 52, 3) := by
  show decode prog_9_method_21_code 42 = _
  decide +kernel
theorem d40_45 (L : Nat) (xs : Nat → Int32) : decode (ax_code (mgT L xs) 40) 45 = .ok (.istore 8, 2) := by
  show decode prog_9_method_21_code 45 = _
  decide +kernel
theorem d40_47 (L : Nat) (xs : Nat → Int32) : decode (ax_code (mgT L xs) 40) 47 = .ok (.iload 8, 2) := by
  show decode prog_9_method_21_code 47 = _
  decide +kernel
theorem d40_49 (L : Nat) (xs : Nat → Int32) : decode (ax_code (mgT L xs) 40) 49 = .ok (.iconst (-1), 1) := by
  show decode prog_9_method_21_code 49 = _
  decide +kernel
theorem d40_50 (L : Nat) (xs : Nat → Int32) : decode (ax_code (mgT L xs) 40) 50 = .ok (.if_icmp .eq 9, 3) := by
  show decode prog_9_method_21_code 50 = _
  decide +kernel
theorem d40_53 (L : Nat) (xs : Nat → Int32) : decode (ax_code (mgT L xs) 40) 53 = .ok (.iload 5, 2) := by
  show decode prog_9_method_21_code 53 = _
  decide +kernel
theorem d40_55 (L : Nat) (xs : Nat → Int32) : decode (ax_code (mgT L xs) 40) 55 = .ok (.iconst 4, 1) := by
  show decode prog_9_method_21_code 55 = _
  decide +kernel
theorem d40_56 (L : Nat) (xs : Nat → Int32) : decode (ax_code (mgT L xs) 40) 56 = .ok (.if_icmp .ne 7, 3) := by
  show decode prog_9_method_21_code 56 = _
  decide +kernel
theorem d40_59 (L : Nat) (xs : Nat → Int32) : decode (ax_code (mgT L xs) 40) 59 = .ok (.ldc2_w 56, 3) := by
  show decode prog_9_method_21_code 59 = _
  decide +kernel
theorem d40_62 (L : Nat) (xs : Nat → Int32) : decode (ax_code (mgT L xs) 40) 62 = .ok (.lreturn, 1) := by
  show decode prog_9_method_21_code 62 = _
  decide +kernel
theorem d40_63 (L : Nat) (xs : Nat → Int32) : decode (ax_code (mgT L xs) 40) 63 = .ok (.lload_n 3, 1) := by
  show decode prog_9_method_21_code 63 = _
  decide +kernel
theorem d40_64 (L : Nat) (xs : Nat → Int32) : decode (ax_code (mgT L xs) 40) 64 = .ok (.bipush 8, 2) := by
  show decode prog_9_method_21_code 64 = _
  decide +kernel
theorem d40_66 (L : Nat) (xs : Nat → Int32) : decode (ax_code (mgT L xs) 40) 66 = .ok (.lshl, 1) := by
  show decode prog_9_method_21_code 66 = _
  decide +kernel
theorem d40_67 (L : Nat) (xs : Nat → Int32) : decode (ax_code (mgT L xs) 40) 67 = .ok (.iload 8, 2) := by
  show decode prog_9_method_21_code 67 = _
  decide +kernel
theorem d40_69 (L : Nat) (xs : Nat → Int32) : decode (ax_code (mgT L xs) 40) 69 = .ok (.i2l, 1) := by
  show decode prog_9_method_21_code 69 = _
  decide +kernel
theorem d40_70 (L : Nat) (xs : Nat → Int32) : decode (ax_code (mgT L xs) 40) 70 = .ok (.lor, 1) := by
  show decode prog_9_method_21_code 70 = _
  decide +kernel
theorem d40_71 (L : Nat) (xs : Nat → Int32) : decode (ax_code (mgT L xs) 40) 71 = .ok (.lstore_n 3, 1) := by
  show decode prog_9_method_21_code 71 = _
  decide +kernel
theorem d40_72 (L : Nat) (xs : Nat → Int32) : decode (ax_code (mgT L xs) 40) 72 = .ok (.iinc 5 1, 3) := by
  show decode prog_9_method_21_code 72 = _
  decide +kernel
theorem d40_75 (L : Nat) (xs : Nat → Int32) : decode (ax_code (mgT L xs) 40) 75 = .ok (.iload 7, 2) := by
  show decode prog_9_method_21_code 75 = _
  decide +kernel
theorem d40_77 (L : Nat) (xs : Nat → Int32) : decode (ax_code (mgT L xs) 40) 77 = .ok (.iconst 1, 1) := by
  show decode prog_9_method_21_code 77 = _
  decide +kernel
theorem d40_78 (L : Nat) (xs : Nat → Int32) : decode (ax_code (mgT L xs) 40) 78 = .ok (.iadd, 1) := by
  show decode prog_9_method_21_code 78 = _
  decide +kernel
theorem d40_79 (L : Nat) (xs : Nat → Int32) : decode (ax_code (mgT L xs) 40) 79 = .ok (.istore 6, 2) := by
  show decode prog_9_method_21_code 79 = _
  decide +kernel
theorem d40_81 (L : Nat) (xs : Nat → Int32) : decode (ax_code (mgT L xs) 40) 81 = .ok (.iinc 7 1, 3) := by
  show decode prog_9_method_21_code 81 = _
  decide +kernel
theorem d40_84 (L : Nat) (xs : Nat → Int32) : decode (ax_code (mgT L xs) 40) 84 = .ok (.goto (-73), 3) := by
  show decode prog_9_method_21_code 84 = _
  decide +kernel
theorem d40_87 (L : Nat) (xs : Nat → Int32) : decode (ax_code (mgT L xs) 40) 87 = .ok (.iload 5, 2) := by
  show decode prog_9_method_21_code 87 = _
  decide +kernel
theorem d40_89 (L : Nat) (xs : Nat → Int32) : decode (ax_code (mgT L xs) 40) 89 = .ok (.iconst 4, 1) := by
  show decode prog_9_method_21_code 89 = _
  decide +kernel
theorem d40_90 (L : Nat) (xs : Nat → Int32) : decode (ax_code (mgT L xs) 40) 90 = .ok (.if_icmp .ne 7, 3) := by
  show decode prog_9_method_21_code 90 = _
  decide +kernel
theorem d40_93 (L : Nat) (xs : Nat → Int32) : decode (ax_code (mgT L xs) 40) 93 = .ok (.lload_n 3, 1) := by
  show decode prog_9_method_21_code 93 = _
  decide +kernel
theorem d40_94 (L : Nat) (xs : Nat → Int32) : decode (ax_code (mgT L xs) 40) 94 = .ok (.goto 6, 3) := by
  show decode prog_9_method_21_code 94 = _
  decide +kernel
theorem d40_97 (L : Nat) (xs : Nat → Int32) : decode (ax_code (mgT L xs) 40) 97 = .ok (.ldc2_w 56, 3) := by
  show decode prog_9_method_21_code 97 = _
  decide +kernel
theorem d40_100 (L : Nat) (xs : Nat → Int32) : decode (ax_code (mgT L xs) 40) 100 = .ok (.lreturn, 1) := by
  show decode prog_9_method_21_code 100 = _
  decide +kernel
section ADR
variable {L : Nat} {xs : Nat → Int32} {d : Nat} {s : mg_s} {a n : Nat}
theorem wg_topl {mi pc : Nat} {ls : ax_L} {st : List Value} {Q : Option Value → mg_s → Prop} {x y : Int64} (e : x = y) (k : wp L xs d mi pc ls (.long y :: st) s Q) : wp L xs d mi pc ls (.long x :: st) s Q := e ▸ k
theorem tx_numN {fr to most : Nat} (H : isT a) (hn : isTx s a n) (hto : to < 2 ^ 30) (hmo : most < 2 ^ 30) (hf : fr ≤ to) (hq : t_num (t_at s a n) fr to most = none) : ca L xs (d + 2) 41 [.ref a, .int (nI fr), .int (nI to), .int (nI most)] s (fun v s' => v = some (.int (-1)) ∧ s = s') := by
  have := tx_number (L := L) (xs := xs) (d := d) H hn hto hmo hf
  rw [hq] at this; exact this
theorem tx_numS {fr to most b : Nat} (H : isT a) (hn : isTx s a n) (hto : to < 2 ^ 30) (hmo : most < 2 ^ 30) (hf : fr ≤ to) (hq : t_num (t_at s a n) fr to most = some b) : ca L xs (d + 2) 41 [.ref a, .int (nI fr), .int (nI to), .int (nI most)] s (fun v s' => v = some (.int (nI b)) ∧ s = s') := by
  have := tx_number (L := L) (xs := xs) (d := d) H hn hto hmo hf
  rw [hq] at this; exact this
theorem nI_neg1 {b : Nat} (h : b < 2 ^ 31) : ¬ nI b = -1 := fun e => absurd (show nI b < 0 by rw [e]; decide) (nI_pos h)
theorem tx_addr_l {fr to : Nat} (H : isT a) (hn : isTx s a n) (hto : to < 2 ^ 29) : ∀ (m acc cnt st i : Nat) (c5 : Option Value), i + m = to + 1 → st ≤ i → cnt ≤ 4 → (cnt = 0 → acc < 1) → (cnt = 1 → acc < 256) → (cnt = 2 → acc < 65536) → (cnt = 3 → acc < 16777216) → wp L xs (d + 2) 40 11 [some (.ref a), some (.int (nI fr)), some (.int (nI to)), some (.long (Int64.ofNat acc)), none, some (.int (nI cnt)), some (.int (nI st)), some (.int (nI i)), c5] [] s (fun v s' => v = some (.long (oL (f_addr (t_at s a n) to m acc cnt st i))) ∧ s = s') := by
  have hlim := tx_m H
  have hn2 := hn.2
  intro m
  induction m with
  | zero =>
    intro acc cnt st i c5 hi hst hc4 b0 b1 b2 b3
    refine wg_iload (d40_11 L xs) rfl ?_
    refine wg_iload_n (d40_13 L xs) rfl ?_
    refine wn_icmp_gt (d40_14 L xs) (x := i) (y := to) (by omega) (by omega) (t := 87) (by decide) (fun h1 => ?_) (fun h1 => by omega)
    refine wg_iload (d40_87 L xs) rfl ?_
    refine wg_iconst (d40_89 L xs) (x := 4) (by decide) ?_
    refine wn_icmp_ne (d40_90 L xs) (x := cnt) (y := 4) (by omega) (by omega) (t := 97) (by decide) (fun h2 => ?_) (fun h2 => ?_)
    · refine wg_ldc2 (d40_97 L xs) (v := 18446744073709551615) rfl ?_
      exact wg_lret (d40_100 L xs) rfl ⟨by rw [f_addr, if_neg (by omega)]; rfl, rfl⟩
    · refine wg_lload_n (d40_93 L xs) rfl ?_
      refine wg_goto (d40_94 L xs) (t := 100) (by decide) ?_
      exact wg_lret (d40_100 L xs) rfl ⟨by rw [f_addr, if_pos (by omega)]; rfl, rfl⟩
  | succ m ih =>
    intro acc cnt st i c5 hi hst hc4 b0 b1 b2 b3
    refine wp_ch (fun hch => ?_)
    have hg0 : t_at s a n i < 65536 := t_at_lt H hn hch
    cases hq : t_num (t_at s a n) st i 255 with
    | none =>
      refine wg_iload (d40_11 L xs) rfl ?_
      refine wg_iload_n (d40_13 L xs) rfl ?_
      refine wn_icmp_gt (d40_14 L xs) (x := i) (y := to) (by omega) (by omega) (t := 87) (by decide) (fun h1 => by omega) (fun h1 => ?_)
      refine wg_iload (d40_17 L xs) rfl ?_
      refine wg_iload_n (d40_19 L xs) rfl ?_
      refine wn_icmp_eq (d40_20 L xs) (x := i) (y := to) (by omega) (by omega) (t := 34) (by decide) (fun h2 => ?_) (fun h2 => ?_)
      · refine wg_aload_n (d40_34 L xs) rfl ?_
        refine wg_iload (d40_35 L xs) rfl ?_
        refine wg_iload (d40_37 L xs) rfl ?_
        refine wg_sipush (d40_39 L xs) (x := 255) (by decide) ?_
        refine wg_invv (d40_42 L xs) (kd := 7) (mj := 41) (n := 3) rfl (Or.inl rfl) (ys := [.int 255, .int (nI i), .int (nI st)]) (r := []) rfl rfl H.1 (tx_c H) rfl (Nat.le_of_ble_eq_true rfl) (tx_numN (fr := st) (to := i) (most := 255) H hn (by omega) (by omega) (by omega) hq) ?_
        rintro _ _ ⟨rfl, rfl⟩
        refine wg_istore (d40_45 L xs) (ls' := [some (.ref a), some (.int (nI fr)), some (.int (nI to)), some (.long (Int64.ofNat acc)), none, some (.int (nI cnt)), some (.int (nI st)), some (.int (nI i)), some (.int (-1))]) (Nat.le_of_ble_eq_true rfl) rfl ?_
        refine wg_iload (d40_47 L xs) rfl ?_
        refine wg_iconst (d40_49 L xs) (x := (-1)) (by decide) ?_
        refine wg_icmp_eq (d40_50 L xs) (t := 59) (by decide) (fun _ => ?_) (fun hn => absurd (by decide) hn)
        refine wg_ldc2 (d40_59 L xs) (v := 18446744073709551615) rfl ?_
        exact wg_lret (d40_62 L xs) rfl ⟨by rw [f_addr, if_pos (by omega), hq]; rfl, rfl⟩
      · refine wg_aload_n (d40_23 L xs) rfl ?_
        refine wg_iload (d40_24 L xs) rfl ?_
        refine wg_invv (d40_26 L xs) (kd := 7) (mj := 31) (n := 1) rfl (Or.inl rfl) (ys := [.int (nI i)]) (r := []) rfl rfl H.1 (tx_c H) rfl (Nat.le_of_ble_eq_true rfl) (tx_at (d := d + 1) (i := i) H hn (by omega)) ?_
        rintro _ _ ⟨rfl, rfl⟩
        refine wg_bipush (d40_29 L xs) (x := 46) (by decide) ?_
        refine wn_icmp_ne (d40_31 L xs) (x := t_at s a n i) (y := 46) (by omega) (by omega) (t := 81) (by decide) (fun h4 => ?_) (fun h4 => ?_)
        · refine wg_iinc (d40_81 L xs) (y := (nI (i + 1))) (ls' := [some (.ref a), some (.int (nI fr)), some (.int (nI to)), some (.long (Int64.ofNat acc)), none, some (.int (nI cnt)), some (.int (nI st)), some (.int (nI (i + 1))), c5]) rfl (nI_add i 1) rfl ?_
          refine wg_goto (d40_84 L xs) (t := 11) (by decide) ?_
          rw [show f_addr (t_at s a n) to (m + 1) acc cnt st i = f_addr (t_at s a n) to m acc cnt st (i + 1) from if_neg (by omega)]; exact ih acc cnt st (i + 1) _ (by omega) (by omega) hc4 b0 b1 b2 b3
        · refine wg_aload_n (d40_34 L xs) rfl ?_
          refine wg_iload (d40_35 L xs) rfl ?_
          refine wg_iload (d40_37 L xs) rfl ?_
          refine wg_sipush (d40_39 L xs) (x := 255) (by decide) ?_
          refine wg_invv (d40_42 L xs) (kd := 7) (mj := 41) (n := 3) rfl (Or.inl rfl) (ys := [.int 255, .int (nI i), .int (nI st)]) (r := []) rfl rfl H.1 (tx_c H) rfl (Nat.le_of_ble_eq_true rfl) (tx_numN (fr := st) (to := i) (most := 255) H hn (by omega) (by omega) (by omega) hq) ?_
          rintro _ _ ⟨rfl, rfl⟩
          refine wg_istore (d40_45 L xs) (ls' := [some (.ref a), some (.int (nI fr)), some (.int (nI to)), some (.long (Int64.ofNat acc)), none, some (.int (nI cnt)), some (.int (nI st)), some (.int (nI i)), some (.int (-1))]) (Nat.le_of_ble_eq_true rfl) rfl ?_
          refine wg_iload (d40_47 L xs) rfl ?_
          refine wg_iconst (d40_49 L xs) (x := (-1)) (by decide) ?_
          refine wg_icmp_eq (d40_50 L xs) (t := 59) (by decide) (fun _ => ?_) (fun hn => absurd (by decide) hn)
          refine wg_ldc2 (d40_59 L xs) (v := 18446744073709551615) rfl ?_
          exact wg_lret (d40_62 L xs) rfl ⟨by rw [f_addr, if_pos (by omega), hq]; rfl, rfl⟩
    | some b =>
      have hb := t_num_le hq
      refine wg_iload (d40_11 L xs) rfl ?_
      refine wg_iload_n (d40_13 L xs) rfl ?_
      refine wn_icmp_gt (d40_14 L xs) (x := i) (y := to) (by omega) (by omega) (t := 87) (by decide) (fun h1 => by omega) (fun h1 => ?_)
      refine wg_iload (d40_17 L xs) rfl ?_
      refine wg_iload_n (d40_19 L xs) rfl ?_
      refine wn_icmp_eq (d40_20 L xs) (x := i) (y := to) (by omega) (by omega) (t := 34) (by decide) (fun h2 => ?_) (fun h2 => ?_)
      · refine wg_aload_n (d40_34 L xs) rfl ?_
        refine wg_iload (d40_35 L xs) rfl ?_
        refine wg_iload (d40_37 L xs) rfl ?_
        refine wg_sipush (d40_39 L xs) (x := 255) (by decide) ?_
        refine wg_invv (d40_42 L xs) (kd := 7) (mj := 41) (n := 3) rfl (Or.inl rfl) (ys := [.int 255, .int (nI i), .int (nI st)]) (r := []) rfl rfl H.1 (tx_c H) rfl (Nat.le_of_ble_eq_true rfl) (tx_numS (fr := st) (to := i) (most := 255) H hn (by omega) (by omega) (by omega) hq) ?_
        rintro _ _ ⟨rfl, rfl⟩
        refine wg_istore (d40_45 L xs) (ls' := [some (.ref a), some (.int (nI fr)), some (.int (nI to)), some (.long (Int64.ofNat acc)), none, some (.int (nI cnt)), some (.int (nI st)), some (.int (nI i)), some (.int (nI b))]) (Nat.le_of_ble_eq_true rfl) rfl ?_
        refine wg_iload (d40_47 L xs) rfl ?_
        refine wg_iconst (d40_49 L xs) (x := (-1)) (by decide) ?_
        refine wg_icmp_eq (d40_50 L xs) (t := 59) (by decide) (fun h3 => absurd h3 (nI_neg1 (by omega))) (fun h3 => ?_)
        refine wg_iload (d40_53 L xs) rfl ?_
        refine wg_iconst (d40_55 L xs) (x := 4) (by decide) ?_
        refine wn_icmp_ne (d40_56 L xs) (x := cnt) (y := 4) (by omega) (by omega) (t := 63) (by decide) (fun h4 => ?_) (fun h4 => ?_)
        · refine wg_lload_n (d40_63 L xs) rfl ?_
          refine wg_bipush (d40_64 L xs) (x := 8) (by decide) ?_
          refine wg_lshl (d40_66 L xs) ?_
          refine wg_iload (d40_67 L xs) rfl ?_
          refine wg_i2l (d40_69 L xs) ?_
          refine wg_lor (d40_70 L xs) ?_
          refine wg_topl (y := Int64.ofNat (acc * 256 + b)) (ad_l (by omega) (by omega)) ?_
          refine wg_lstore_n (d40_71 L xs) (ls' := [some (.ref a), some (.int (nI fr)), some (.int (nI to)), some (.long (Int64.ofNat (acc * 256 + b))), none, some (.int (nI cnt)), some (.int (nI st)), some (.int (nI i)), some (.int (nI b))]) (Nat.le_of_ble_eq_true rfl) rfl ?_
          refine wg_iinc (d40_72 L xs) (y := (nI (cnt + 1))) (ls' := [some (.ref a), some (.int (nI fr)), some (.int (nI to)), some (.long (Int64.ofNat (acc * 256 + b))), none, some (.int (nI (cnt + 1))), some (.int (nI st)), some (.int (nI i)), some (.int (nI b))]) rfl (nI_add cnt 1) rfl ?_
          refine wg_iload (d40_75 L xs) rfl ?_
          refine wg_iconst (d40_77 L xs) (x := 1) (by decide) ?_
          refine wg_iadd (d40_78 L xs) ?_
          refine wg_top (y := (nI (i + 1))) (nI_add i 1) ?_
          refine wg_istore (d40_79 L xs) (ls' := [some (.ref a), some (.int (nI fr)), some (.int (nI to)), some (.long (Int64.ofNat (acc * 256 + b))), none, some (.int (nI (cnt + 1))), some (.int (nI (i + 1))), some (.int (nI i)), some (.int (nI b))]) (Nat.le_of_ble_eq_true rfl) rfl ?_
          refine wg_iinc (d40_81 L xs) (y := (nI (i + 1))) (ls' := [some (.ref a), some (.int (nI fr)), some (.int (nI to)), some (.long (Int64.ofNat (acc * 256 + b))), none, some (.int (nI (cnt + 1))), some (.int (nI (i + 1))), some (.int (nI (i + 1))), some (.int (nI b))]) rfl (nI_add i 1) rfl ?_
          refine wg_goto (d40_84 L xs) (t := 11) (by decide) ?_
          rw [show f_addr (t_at s a n) to (m + 1) acc cnt st i = f_addr (t_at s a n) to m (acc * 256 + b) (cnt + 1) (i + 1) (i + 1) by rw [f_addr, if_pos (by omega), hq]; exact if_neg (by omega)]; exact ih _ (cnt + 1) (i + 1) (i + 1) _ (by omega) (by omega) (by omega) (by omega) (by omega) (by omega) (by omega)
        · refine wg_ldc2 (d40_59 L xs) (v := 18446744073709551615) rfl ?_
          exact wg_lret (d40_62 L xs) rfl ⟨by rw [f_addr, if_pos (by omega), hq]; show _ = some (Value.long (oL (if cnt = 4 then none else _))); rw [if_pos (by omega)]; rfl, rfl⟩
      · refine wg_aload_n (d40_23 L xs) rfl ?_
        refine wg_iload (d40_24 L xs) rfl ?_
        refine wg_invv (d40_26 L xs) (kd := 7) (mj := 31) (n := 1) rfl (Or.inl rfl) (ys := [.int (nI i)]) (r := []) rfl rfl H.1 (tx_c H) rfl (Nat.le_of_ble_eq_true rfl) (tx_at (d := d + 1) (i := i) H hn (by omega)) ?_
        rintro _ _ ⟨rfl, rfl⟩
        refine wg_bipush (d40_29 L xs) (x := 46) (by decide) ?_
        refine wn_icmp_ne (d40_31 L xs) (x := t_at s a n i) (y := 46) (by omega) (by omega) (t := 81) (by decide) (fun h5 => ?_) (fun h5 => ?_)
        · refine wg_iinc (d40_81 L xs) (y := (nI (i + 1))) (ls' := [some (.ref a), some (.int (nI fr)), some (.int (nI to)), some (.long (Int64.ofNat acc)), none, some (.int (nI cnt)), some (.int (nI st)), some (.int (nI (i + 1))), c5]) rfl (nI_add i 1) rfl ?_
          refine wg_goto (d40_84 L xs) (t := 11) (by decide) ?_
          rw [show f_addr (t_at s a n) to (m + 1) acc cnt st i = f_addr (t_at s a n) to m acc cnt st (i + 1) from if_neg (by omega)]; exact ih acc cnt st (i + 1) _ (by omega) (by omega) hc4 b0 b1 b2 b3
        · refine wg_aload_n (d40_34 L xs) rfl ?_
          refine wg_iload (d40_35 L xs) rfl ?_
          refine wg_iload (d40_37 L xs) rfl ?_
          refine wg_sipush (d40_39 L xs) (x := 255) (by decide) ?_
          refine wg_invv (d40_42 L xs) (kd := 7) (mj := 41) (n := 3) rfl (Or.inl rfl) (ys := [.int 255, .int (nI i), .int (nI st)]) (r := []) rfl rfl H.1 (tx_c H) rfl (Nat.le_of_ble_eq_true rfl) (tx_numS (fr := st) (to := i) (most := 255) H hn (by omega) (by omega) (by omega) hq) ?_
          rintro _ _ ⟨rfl, rfl⟩
          refine wg_istore (d40_45 L xs) (ls' := [some (.ref a), some (.int (nI fr)), some (.int (nI to)), some (.long (Int64.ofNat acc)), none, some (.int (nI cnt)), some (.int (nI st)), some (.int (nI i)), some (.int (nI b))]) (Nat.le_of_ble_eq_true rfl) rfl ?_
          refine wg_iload (d40_47 L xs) rfl ?_
          refine wg_iconst (d40_49 L xs) (x := (-1)) (by decide) ?_
          refine wg_icmp_eq (d40_50 L xs) (t := 59) (by decide) (fun h6 => absurd h6 (nI_neg1 (by omega))) (fun h6 => ?_)
          refine wg_iload (d40_53 L xs) rfl ?_
          refine wg_iconst (d40_55 L xs) (x := 4) (by decide) ?_
          refine wn_icmp_ne (d40_56 L xs) (x := cnt) (y := 4) (by omega) (by omega) (t := 63) (by decide) (fun h7 => ?_) (fun h7 => ?_)
          · refine wg_lload_n (d40_63 L xs) rfl ?_
            refine wg_bipush (d40_64 L xs) (x := 8) (by decide) ?_
            refine wg_lshl (d40_66 L xs) ?_
            refine wg_iload (d40_67 L xs) rfl ?_
            refine wg_i2l (d40_69 L xs) ?_
            refine wg_lor (d40_70 L xs) ?_
            refine wg_topl (y := Int64.ofNat (acc * 256 + b)) (ad_l (by omega) (by omega)) ?_
            refine wg_lstore_n (d40_71 L xs) (ls' := [some (.ref a), some (.int (nI fr)), some (.int (nI to)), some (.long (Int64.ofNat (acc * 256 + b))), none, some (.int (nI cnt)), some (.int (nI st)), some (.int (nI i)), some (.int (nI b))]) (Nat.le_of_ble_eq_true rfl) rfl ?_
            refine wg_iinc (d40_72 L xs) (y := (nI (cnt + 1))) (ls' := [some (.ref a), some (.int (nI fr)), some (.int (nI to)), some (.long (Int64.ofNat (acc * 256 + b))), none, some (.int (nI (cnt + 1))), some (.int (nI st)), some (.int (nI i)), some (.int (nI b))]) rfl (nI_add cnt 1) rfl ?_
            refine wg_iload (d40_75 L xs) rfl ?_
            refine wg_iconst (d40_77 L xs) (x := 1) (by decide) ?_
            refine wg_iadd (d40_78 L xs) ?_
            refine wg_top (y := (nI (i + 1))) (nI_add i 1) ?_
            refine wg_istore (d40_79 L xs) (ls' := [some (.ref a), some (.int (nI fr)), some (.int (nI to)), some (.long (Int64.ofNat (acc * 256 + b))), none, some (.int (nI (cnt + 1))), some (.int (nI (i + 1))), some (.int (nI i)), some (.int (nI b))]) (Nat.le_of_ble_eq_true rfl) rfl ?_
            refine wg_iinc (d40_81 L xs) (y := (nI (i + 1))) (ls' := [some (.ref a), some (.int (nI fr)), some (.int (nI to)), some (.long (Int64.ofNat (acc * 256 + b))), none, some (.int (nI (cnt + 1))), some (.int (nI (i + 1))), some (.int (nI (i + 1))), some (.int (nI b))]) rfl (nI_add i 1) rfl ?_
            refine wg_goto (d40_84 L xs) (t := 11) (by decide) ?_
            rw [show f_addr (t_at s a n) to (m + 1) acc cnt st i = f_addr (t_at s a n) to m (acc * 256 + b) (cnt + 1) (i + 1) (i + 1) by rw [f_addr, if_pos (by omega), hq]; exact if_neg (by omega)]; exact ih _ (cnt + 1) (i + 1) (i + 1) _ (by omega) (by omega) (by omega) (by omega) (by omega) (by omega) (by omega)
          · refine wg_ldc2 (d40_59 L xs) (v := 18446744073709551615) rfl ?_
            exact wg_lret (d40_62 L xs) rfl ⟨by rw [f_addr, if_pos (by omega), hq]; show _ = some (Value.long (oL (if cnt = 4 then none else _))); rw [if_pos (by omega)]; rfl, rfl⟩
theorem tx_address {fr to : Nat} (H : isT a) (hn : isTx s a n) (hto : to < 2 ^ 29) (hf : fr ≤ to + 1) : ca L xs (d + 3) 40 [.ref a, .int (nI fr), .int (nI to)] s (fun v s' => v = some (.long (oL (f_addr (t_at s a n) to (to + 1 - fr) 0 0 fr fr))) ∧ s = s') := by
  refine wg_call (Nat.le_of_ble_eq_true rfl) ?_
  show wp L xs (d + 2) 40 0 [some (.ref a), some (.int (nI fr)), some (.int (nI to)), none, none, none, none, none, none] [] s _
  refine wg_lconst (d40_0 L xs) (x := Int64.ofNat 0) (by decide) ?_
  refine wg_lstore_n (d40_1 L xs) (ls' := [some (.ref a), some (.int (nI fr)), some (.int (nI to)), some (.long (Int64.ofNat 0)), none, none, none, none, none]) (Nat.le_of_ble_eq_true rfl) rfl ?_
  refine wg_iconst (d40_2 L xs) (x := 0) (by decide) ?_
  refine wg_istore (d40_3 L xs) (ls' := [some (.ref a), some (.int (nI fr)), some (.int (nI to)), some (.long (Int64.ofNat 0)), none, some (.int 0), none, none, none]) (Nat.le_of_ble_eq_true rfl) rfl ?_
  refine wg_iload_n (d40_5 L xs) rfl ?_
  refine wg_istore (d40_6 L xs) (ls' := [some (.ref a), some (.int (nI fr)), some (.int (nI to)), some (.long (Int64.ofNat 0)), none, some (.int 0), some (.int (nI fr)), none, none]) (Nat.le_of_ble_eq_true rfl) rfl ?_
  refine wg_iload_n (d40_8 L xs) rfl ?_
  refine wg_istore (d40_9 L xs) (ls' := [some (.ref a), some (.int (nI fr)), some (.int (nI to)), some (.long (Int64.ofNat 0)), none, some (.int 0), some (.int (nI fr)), some (.int (nI fr)), none]) (Nat.le_of_ble_eq_true rfl) rfl ?_
  exact tx_addr_l H hn hto (to + 1 - fr) 0 0 fr fr none (by omega) (by omega) (by omega) (by omega) (by omega) (by omega) (by omega)
end ADR
