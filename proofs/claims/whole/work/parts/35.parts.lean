/-! texts: parts and ends -/
def f_last (g : Nat → Nat) (parts : Nat) : Nat → Nat → Nat
  | _, 0 => 0
  | dots, m + 1 => if g m = 46 then (if dots + 1 = parts then m + 1 else f_last g parts (dots + 1) m) else f_last g parts dots m
def f_first (g : Nat → Nat) (parts : Nat) : Nat → Nat → Nat → Nat
  | _, i, 0 => i
  | dots, i, m + 1 => if g i = 46 then (if dots + 1 = parts then i else f_first g parts (dots + 1) (i + 1) m) else f_first g parts dots (i + 1) m
def f_ahead (g : Nat → Nat) : Nat → Nat
  | 0 => 0
  | m + 1 => if g m = 46 then m + 1 else f_ahead g m
def f_back (g : Nat → Nat) (fr : Nat) : Nat → Nat
  | 0 => fr
  | m + 1 => if g (fr + m) = 32 then f_back g fr m else fr + m + 1
theorem tx_ch {s : mg_s} {a n i : Nat} (H : isT a) (hn : isTx s a n) (hc : mg_ch s) (hi : i < n) : s.2.1 (a + 1) i = nI (t_at s a n i) := by
  rw [t_at, if_pos hi]
  exact (nar_nat (hc (a + 1) (tx_l H) (tx_all a H.1 H.2).2.1 i (Nat.lt_of_lt_of_le hi hn.2))).1.symm
theorem d52_0 (L : Nat) (xs : Nat → Int32) : decode (ax_code (mgT L xs) 52) 0 = .ok (.iconst 0, 1) := by
  show decode prog_9_method_11_code 0 = _
  decide +kernel
theorem d52_1 (L : Nat) (xs : Nat → Int32) : decode (ax_code (mgT L xs) 52) 1 = .ok (.istore_n 2, 1) := by
  show decode prog_9_method_11_code 1 = _
  decide +kernel
theorem d52_2 (L : Nat) (xs : Nat → Int32) : decode (ax_code (mgT L xs) 52) 2 = .ok (.aload_n 0, 1) := by
  show decode prog_9_method_11_code 2 = _
  decide +kernel
theorem d52_3 (L : Nat) (xs : Nat → Int32) : decode (ax_code (mgT L xs) 52) 3 = .ok (.getfield 15, 3) := by
  show decode prog_9_method_11_code 3 = _
  decide +kernel
theorem d52_6 (L : Nat) (xs : Nat → Int32) : decode (ax_code (mgT L xs) 52) 6 = .ok (.iconst 1, 1) := by
  show decode prog_9_method_11_code 6 = _
  decide +kernel
theorem d52_7 (L : Nat) (xs : Nat → Int32) : decode (ax_code (mgT L xs) 52) 7 = .ok (.isub, 1) := by
  show decode prog_9_method_11_code 7 = _
  decide +kernel
theorem d52_8 (L : Nat) (xs : Nat → Int32) : decode (ax_code (mgT L xs) 52) 8 = .ok (.istore_n 3, 1) := by
  show decode prog_9_method_11_code 8 = _
  decide +kernel
theorem d52_9 (L : Nat) (xs : Nat → Int32) : decode (ax_code (mgT L xs) 52) 9 = .ok (.iload_n 3, 1) := by
  show decode prog_9_method_11_code 9 = _
  decide +kernel
theorem d52_10 (L : Nat) (xs : Nat → Int32) : decode (ax_code (mgT L xs) 52) 10 = .ok (.ifCond .lt 32, 3) := by
  show decode prog_9_method_11_code 10 = _
  decide +kernel
theorem d52_13 (L : Nat) (xs : Nat → Int32) : decode (ax_code (mgT L xs) 52) 13 = .ok (.aload_n 0, 1) := by
  show decode prog_9_method_11_code 13 = _
  decide +kernel
theorem d52_14 (L : Nat) (xs : Nat → Int32) : decode (ax_code (mgT L xs) 52) 14 = .ok (.getfield 9, 3) := by
  show decode prog_9_method_11_code 14 = _
  decide +kernel
theorem d52_17 (L : Nat) (xs : Nat → Int32) : decode (ax_code (mgT L xs) 52) 17 = .ok (.iload_n 3, 1) := by
  show decode prog_9_method_11_code 17 = _
  decide +kernel
theorem d52_18 (L : Nat) (xs : Nat → Int32) : decode (ax_code (mgT L xs) 52) 18 = .ok (.caload, 1) := by
  show decode prog_9_method_11_code 18 = _
  decide +kernel
theorem d52_19 (L : Nat) (xs : Nat → Int32) : decode (ax_code (mgT L xs) 52) 19 = .ok (.bipush 46, 2) := by
  show decode prog_9_method_11_code 19 = _
  decide +kernel
theorem d52_21 (L : Nat) (xs : Nat → Int32) : decode (ax_code (mgT L xs) 52) 21 = .ok (.if_icmp .ne 15, 3) := by
  show decode prog_9_method_11_code 21 = _
  decide +kernel
theorem d52_24 (L : Nat) (xs : Nat → Int32) : decode (ax_code (mgT L xs) 52) 24 = .ok (.iinc 2 1, 3) := by
  show decode prog_9_method_11_code 24 = _
  decide +kernel
theorem d52_27 (L : Nat) (xs : Nat → Int32) : decode (ax_code (mgT L xs) 52) 27 = .ok (.iload_n 2, 1) := by
  show decode prog_9_method_11_code 27 = _
  decide +kernel
theorem d52_28 (L : Nat) (xs : Nat → Int32) : decode (ax_code (mgT L xs) 52) 28 = .ok (.iload_n 1, 1) := by
  show decode prog_9_method_11_code 28 = _
  decide +kernel
theorem d52_29 (L : Nat) (xs : Nat → Int32) : decode (ax_code (mgT L xs) 52) 29 = .ok (.if_icmp .ne 7, 3) := by
  show decode prog_9_method_11_code 29 = _
  decide +kernel
theorem d52_32 (L : Nat) (xs : Nat → Int32) : decode (ax_code (mgT L xs) 52) 32 = .ok (.iload_n 3, 1) := by
  show decode prog_9_method_11_code 32 = _
  decide +kernel
theorem d52_33 (L : Nat) (xs : Nat → Int32) : decode (ax_code (mgT L xs) 52) 33 = .ok (.iconst 1, 1) := by
  show decode prog_9_method_11_code 33 = _
  decide +kernel
theorem d52_34 (L : Nat) (xs : Nat → Int32) : decode (ax_code (mgT L xs) 52) 34 = .ok (.iadd, 1) := by
  show decode prog_9_method_11_code 34 = _
  decide +kernel
theorem d52_35 (L : Nat) (xs : Nat → Int32) : decode (ax_code (mgT L xs) 52) 35 = .ok (.ireturn, 1) := by
  show decode prog_9_method_11_code 35 = _
  decide +kernel
theorem d52_36 (L : Nat) (xs : Nat → Int32) : decode (ax_code (mgT L xs) 52) 36 = .ok (.iinc 3 (-1), 3) := by
  show decode prog_9_method_11_code 36 = _
  decide +kernel
theorem d52_39 (L : Nat) (xs : Nat → Int32) : decode (ax_code (mgT L xs) 52) 39 = .ok (.goto (-30), 3) := by
  show decode prog_9_method_11_code 39 = _
  decide +kernel
theorem d52_42 (L : Nat) (xs : Nat → Int32) : decode (ax_code (mgT L xs) 52) 42 = .ok (.iconst 0, 1) := by
  show decode prog_9_method_11_code 42 = _
  decide +kernel
theorem d52_43 (L : Nat) (xs : Nat → Int32) : decode (ax_code (mgT L xs) 52) 43 = .ok (.ireturn, 1) := by
  show decode prog_9_method_11_code 43 = _
  decide +kernel
theorem d78_0 (L : Nat) (xs : Nat → Int32) : decode (ax_code (mgT L xs) 78) 0 = .ok (.iconst 0, 1) := by
  show decode prog_9_method_10_code 0 = _
  decide +kernel
theorem d78_1 (L : Nat) (xs : Nat → Int32) : decode (ax_code (mgT L xs) 78) 1 = .ok (.istore_n 2, 1) := by
  show decode prog_9_method_10_code 1 = _
  decide +kernel
theorem d78_2 (L : Nat) (xs : Nat → Int32) : decode (ax_code (mgT L xs) 78) 2 = .ok (.iconst 0, 1) := by
  show decode prog_9_method_10_code 2 = _
  decide +kernel
theorem d78_3 (L : Nat) (xs : Nat → Int32) : decode (ax_code (mgT L xs) 78) 3 = .ok (.istore_n 3, 1) := by
  show decode prog_9_method_10_code 3 = _
  decide +kernel
theorem d78_4 (L : Nat) (xs : Nat → Int32) : decode (ax_code (mgT L xs) 78) 4 = .ok (.iload_n 3, 1) := by
  show decode prog_9_method_10_code 4 = _
  decide +kernel
theorem d78_5 (L : Nat) (xs : Nat → Int32) : decode (ax_code (mgT L xs) 78) 5 = .ok (.aload_n 0, 1) := by
  show decode prog_9_method_10_code 5 = _
  decide +kernel
theorem d78_6 (L : Nat) (xs : Nat → Int32) : decode (ax_code (mgT L xs) 78) 6 = .ok (.getfield 15, 3) := by
  show decode prog_9_method_10_code 6 = _
  decide +kernel
theorem d78_9 (L : Nat) (xs : Nat → Int32) : decode (ax_code (mgT L xs) 78) 9 = .ok (.if_icmp .ge 30, 3) := by
  show decode prog_9_method_10_code 9 = _
  decide +kernel
theorem d78_12 (L : Nat) (xs : Nat → Int32) : decode (ax_code (mgT L xs) 78) 12 = .ok (.aload_n 0, 1) := by
  show decode prog_9_method_10_code 12 = _
  decide +kernel
theorem d78_13 (L : Nat) (xs : Nat → Int32) : decode (ax_code (mgT L xs) 78) 13 = .ok (.getfield 9, 3) := by
  show decode prog_9_method_10_code 13 = _
  decide +kernel
theorem d78_16 (L : Nat) (xs : Nat → Int32) : decode (ax_code (mgT L xs) 78) 16 = .ok (.iload_n 3, 1) := by
  show decode prog_9_method_10_code 16 = _
  decide +kernel
theorem d78_17 (L : Nat) (xs : Nat → Int32) : decode (ax_code (mgT L xs) 78) 17 = .ok (.caload, 1) := by
  show decode prog_9_method_10_code 17 = _
  decide +kernel
theorem d78_18 (L : Nat) (xs : Nat → Int32) : decode (ax_code (mgT L xs) 78) 18 = .ok (.bipush 46, 2) := by
  show decode prog_9_method_10_code 18 = _
  decide +kernel
theorem d78_20 (L : Nat) (xs : Nat → Int32) : decode (ax_code (mgT L xs) 78) 20 = .ok (.if_icmp .ne 13, 3) := by
  show decode prog_9_method_10_code 20 = _
  decide +kernel
theorem d78_23 (L : Nat) (xs : Nat → Int32) : decode (ax_code (mgT L xs) 78) 23 = .ok (.iinc 2 1, 3) := by
  show decode prog_9_method_10_code 23 = _
  decide +kernel
theorem d78_26 (L : Nat) (xs : Nat → Int32) : decode (ax_code (mgT L xs) 78) 26 = .ok (.iload_n 2, 1) := by
  show decode prog_9_method_10_code 26 = _
  decide +kernel
theorem d78_27 (L : Nat) (xs : Nat → Int32) : decode (ax_code (mgT L xs) 78) 27 = .ok (.iload_n 1, 1) := by
  show decode prog_9_method_10_code 27 = _
  decide +kernel
theorem d78_28 (L : Nat) (xs : Nat → Int32) : decode (ax_code (mgT L xs) 78) 28 = .ok (.if_icmp .ne 5, 3) := by
  show decode prog_9_method_10_code 28 = _
  decide +kernel
theorem d78_31 (L : Nat) (xs : Nat → Int32) : decode (ax_code (mgT L xs) 78) 31 = .ok (.iload_n 3, 1) := by
  show decode prog_9_method_10_code 31 = _
  decide +kernel
theorem d78_32 (L : Nat) (xs : Nat → Int32) : decode (ax_code (mgT L xs) 78) 32 = .ok (.ireturn, 1) := by
  show decode prog_9_method_10_code 32 = _
  decide +kernel
theorem d78_33 (L : Nat) (xs : Nat → Int32) : decode (ax_code (mgT L xs) 78) 33 = .ok (.iinc 3 1, 3) := by
  show decode prog_9_method_10_code 33 = _
  decide +kernel
theorem d78_36 (L : Nat) (xs : Nat → Int32) : decode (ax_code (mgT L xs) 78) 36 = .ok (.goto (-32), 3) := by
  show decode prog_9_method_10_code 36 = _
  decide +kernel
theorem d78_39 (L : Nat) (xs : Nat → Int32) : decode (ax_code (mgT L xs) 78) 39 = .ok (.aload_n 0, 1) := by
  show decode prog_9_method_10_code 39 = _
  decide +kernel
theorem d78_40 (L : Nat) (xs : Nat → Int32) : decode (ax_code (mgT L xs) 78) 40 = .ok (.getfield 15, 3) := by
  show decode prog_9_method_10_code 40 = _
  decide +kernel
theorem d78_43 (L : Nat) (xs : Nat → Int32) : decode (ax_code (mgT L xs) 78) 43 = .ok (.ireturn, 1) := by
  show decode prog_9_method_10_code 43 = _
  decide +kernel
theorem d90_0 (L : Nat) (xs : Nat → Int32) : decode (ax_code (mgT L xs) 90) 0 = .ok (.iload_n 1, 1) := by
  show decode prog_9_method_12_code 0 = _
  decide +kernel
theorem d90_1 (L : Nat) (xs : Nat → Int32) : decode (ax_code (mgT L xs) 90) 1 = .ok (.iconst 2, 1) := by
  show decode prog_9_method_12_code 1 = _
  decide +kernel
theorem d90_2 (L : Nat) (xs : Nat → Int32) : decode (ax_code (mgT L xs) 90) 2 = .ok (.isub, 1) := by
  show decode prog_9_method_12_code 2 = _
  decide +kernel
theorem d90_3 (L : Nat) (xs : Nat → Int32) : decode (ax_code (mgT L xs) 90) 3 = .ok (.istore_n 2, 1) := by
  show decode prog_9_method_12_code 3 = _
  decide +kernel
theorem d90_4 (L : Nat) (xs : Nat → Int32) : decode (ax_code (mgT L xs) 90) 4 = .ok (.iload_n 2, 1) := by
  show decode prog_9_method_12_code 4 = _
  decide +kernel
theorem d90_5 (L : Nat) (xs : Nat → Int32) : decode (ax_code (mgT L xs) 90) 5 = .ok (.ifCond .lt 23, 3) := by
  show decode prog_9_method_12_code 5 = _
  decide +kernel
theorem d90_8 (L : Nat) (xs : Nat → Int32) : decode (ax_code (mgT L xs) 90) 8 = .ok (.aload_n 0, 1) := by
  show decode prog_9_method_12_code 8 = _
  decide +kernel
theorem d90_9 (L : Nat) (xs : Nat → Int32) : decode (ax_code (mgT L xs) 90) 9 = .ok (.iload_n 2, 1) := by
  show decode prog_9_method_12_code 9 = _
  decide +kernel
theorem d90_10 (L : Nat) (xs : Nat → Int32) : decode (ax_code (mgT L xs) 90) 10 = .ok (.invokevirtual 37, 3) := by
  show decode prog_9_method_12_code 10 = _
  decide +kernel
theorem d90_13 (L : Nat) (xs : Nat → Int32) : decode (ax_code (mgT L xs) 90) 13 = .ok (.bipush 46, 2) := by
  show decode prog_9_method_12_code 13 = _
  decide +kernel
theorem d90_15 (L : Nat) (xs : Nat → Int32) : decode (ax_code (mgT L xs) 90) 15 = .ok (.if_icmp .ne 7, 3) := by
  show decode prog_9_method_12_code 15 = _
  decide +kernel
theorem d90_18 (L : Nat) (xs : Nat → Int32) : decode (ax_code (mgT L xs) 90) 18 = .ok (.iload_n 2, 1) := by
  show decode prog_9_method_12_code 18 = _
  decide +kernel
theorem d90_19 (L : Nat) (xs : Nat → Int32) : decode (ax_code (mgT L xs) 90) 19 = .ok (.iconst 1, 1) := by
  show decode prog_9_method_12_code 19 = _
  decide +kernel
theorem d90_20 (L : Nat) (xs : Nat → Int32) : decode (ax_code (mgT L xs) 90) 20 = .ok (.iadd, 1) := by
  show decode prog_9_method_12_code 20 = _
  decide +kernel
theorem d90_21 (L : Nat) (xs : Nat → Int32) : decode (ax_code (mgT L xs) 90) 21 = .ok (.ireturn, 1) := by
  show decode prog_9_method_12_code 21 = _
  decide +kernel
theorem d90_22 (L : Nat) (xs : Nat → Int32) : decode (ax_code (mgT L xs) 90) 22 = .ok (.iinc 2 (-1), 3) := by
  show decode prog_9_method_12_code 22 = _
  decide +kernel
theorem d90_25 (L : Nat) (xs : Nat → Int32) : decode (ax_code (mgT L xs) 90) 25 = .ok (.goto (-21), 3) := by
  show decode prog_9_method_12_code 25 = _
  decide +kernel
theorem d90_28 (L : Nat) (xs : Nat → Int32) : decode (ax_code (mgT L xs) 90) 28 = .ok (.iconst 0, 1) := by
  show decode prog_9_method_12_code 28 = _
  decide +kernel
theorem d90_29 (L : Nat) (xs : Nat → Int32) : decode (ax_code (mgT L xs) 90) 29 = .ok (.ireturn, 1) := by
  show decode prog_9_method_12_code 29 = _
  decide +kernel
theorem d95_0 (L : Nat) (xs : Nat → Int32) : decode (ax_code (mgT L xs) 95) 0 = .ok (.iload_n 2, 1) := by
  show decode prog_9_method_15_code 0 = _
  decide +kernel
theorem d95_1 (L : Nat) (xs : Nat → Int32) : decode (ax_code (mgT L xs) 95) 1 = .ok (.istore_n 3, 1) := by
  show decode prog_9_method_15_code 1 = _
  decide +kernel
theorem d95_2 (L : Nat) (xs : Nat → Int32) : decode (ax_code (mgT L xs) 95) 2 = .ok (.iload_n 3, 1) := by
  show decode prog_9_method_15_code 2 = _
  decide +kernel
theorem d95_3 (L : Nat) (xs : Nat → Int32) : decode (ax_code (mgT L xs) 95) 3 = .ok (.iload_n 1, 1) := by
  show decode prog_9_method_15_code 3 = _
  decide +kernel
theorem d95_4 (L : Nat) (xs : Nat → Int32) : decode (ax_code (mgT L xs) 95) 4 = .ok (.if_icmp .le 23, 3) := by
  show decode prog_9_method_15_code 4 = _
  decide +kernel
theorem d95_7 (L : Nat) (xs : Nat → Int32) : decode (ax_code (mgT L xs) 95) 7 = .ok (.aload_n 0, 1) := by
  show decode prog_9_method_15_code 7 = _
  decide +kernel
theorem d95_8 (L : Nat) (xs : Nat → Int32) : decode (ax_code (mgT L xs) 95) 8 = .ok (.iload_n 3, 1) := by
  show decode prog_9_method_15_code 8 = _
  decide +kernel
theorem d95_9 (L : Nat) (xs : Nat → Int32) : decode (ax_code (mgT L xs) 95) 9 = .ok (.iconst 1, 1) := by
  show decode prog_9_method_15_code 9 = _
  decide +kernel
theorem d95_10 (L : Nat) (xs : Nat → Int32) : decode (ax_code (mgT L xs) 95) 10 = .ok (.isub, 1) := by
  show decode prog_9_method_15_code 10 = _
  decide +kernel
theorem d95_11 (L : Nat) (xs : Nat → Int32) : decode (ax_code (mgT L xs) 95) 11 = .ok (.invokevirtual 37, 3) := by
  show decode prog_9_method_15_code 11 = _
  decide +kernel
theorem d95_14 (L : Nat) (xs : Nat → Int32) : decode (ax_code (mgT L xs) 95) 14 = .ok (.bipush 32, 2) := by
  show decode prog_9_method_15_code 14 = _
  decide +kernel
theorem d95_16 (L : Nat) (xs : Nat → Int32) : decode (ax_code (mgT L xs) 95) 16 = .ok (.if_icmp .eq 5, 3) := by
  show decode prog_9_method_15_code 16 = _
  decide +kernel
theorem d95_19 (L : Nat) (xs : Nat → Int32) : decode (ax_code (mgT L xs) 95) 19 = .ok (.iload_n 3, 1) := by
  show decode prog_9_method_15_code 19 = _
  decide +kernel
theorem d95_20 (L : Nat) (xs : Nat → Int32) : decode (ax_code (mgT L xs) 95) 20 = .ok (.ireturn, 1) := by
  show decode prog_9_method_15_code 20 = _
  decide +kernel
theorem d95_21 (L : Nat) (xs : Nat → Int32) : decode (ax_code (mgT L xs) 95) 21 = .ok (.iinc 3 (-1), 3) := by
  show decode prog_9_method_15_code 21 = _
  decide +kernel
theorem d95_24 (L : Nat) (xs : Nat → Int32) : decode (ax_code (mgT L xs) 95) 24 = .ok (.goto (-22), 3) := by
  show decode prog_9_method_15_code 24 = _
  decide +kernel
theorem d95_27 (L : Nat) (xs : Nat → Int32) : decode (ax_code (mgT L xs) 95) 27 = .ok (.iload_n 1, 1) := by
  show decode prog_9_method_15_code 27 = _
  decide +kernel
theorem d95_28 (L : Nat) (xs : Nat → Int32) : decode (ax_code (mgT L xs) 95) 28 = .ok (.ireturn, 1) := by
  show decode prog_9_method_15_code 28 = _
  decide +kernel
section TXC
variable {L : Nat} {xs : Nat → Int32} {d : Nat} {s : mg_s} {a n : Nat}
theorem tx_last_l {parts : Nat} (H : isT a) (hn : isTx s a n) (hp : parts < 2 ^ 30) : ∀ (m dots : Nat), m ≤ n → dots + m ≤ n → wp L xs d 52 9 [some (.ref a), some (.int (nI parts)), some (.int (nI dots)), some (.int (nI m - 1))] [] s (fun v s' => v = some (.int (nI (f_last (t_at s a n) parts dots m))) ∧ s = s') := by
  have hlim := tx_m H
  have hn2 := hn.2
  intro m
  induction m with
  | zero =>
    intro dots hm hd
    rw [show nI 0 - 1 = -1 by decide]
    refine wg_iload_n (d52_9 L xs) rfl ?_
    refine wg_if_lt (d52_10 L xs) (t := 42) (by decide) (fun _ => ?_) (fun hn => absurd (by decide) hn)
    refine wg_iconst (d52_42 L xs) (x := 0) (by decide) ?_
    exact wg_iret (d52_43 L xs) rfl rfl ⟨rfl, rfl⟩
  | succ m ih =>
    intro dots hm hd
    refine wp_ch (fun hch => ?_)
    have hg0 : t_at s a n m < 65536 := t_at_lt H hn hch
    rw [ty_s1 m]
    refine wg_iload_n (d52_9 L xs) rfl ?_
    refine wn_if_lt (d52_10 L xs) (x := m) (by omega) (t := 42) (by decide) (fun h1 => by omega) (fun h1 => ?_)
    refine wg_aload_n (d52_13 L xs) rfl ?_
    refine wg_get (d52_14 L xs) (kd := 1) (cj := 1) (k0 := 0) rfl (Or.inl rfl) H.1 (tx_c H) rfl ?_
    refine wg_iload_n (d52_17 L xs) rfl ?_
    refine wg_cald (d52_18 L xs) (tx_l H) (tx_d H) (vp_in_nI (n := m) (by omega) (by omega)) ?_
    refine wg_top (y := nI (t_at s a n m)) (by rw [nI_nat (by omega)]; exact tx_ch H hn hch (by omega)) ?_
    refine wg_bipush (d52_19 L xs) (x := 46) (by decide) ?_
    refine wn_icmp_ne (d52_21 L xs) (x := t_at s a n m) (y := 46) (by omega) (by omega) (t := 36) (by decide) (fun h2 => ?_) (fun h2 => ?_)
    · refine wg_iinc (d52_36 L xs) (y := (nI m - 1)) (ls' := [some (.ref a), some (.int (nI parts)), some (.int (nI dots)), some (.int (nI m - 1))]) rfl (ty_d1 _) rfl ?_
      refine wg_goto (d52_39 L xs) (t := 9) (by decide) ?_
      rw [show f_last (t_at s a n) parts dots (m + 1) = f_last (t_at s a n) parts dots m from if_neg (by omega)]; exact ih dots (by omega) (by omega)
    · refine wg_iinc (d52_24 L xs) (y := (nI (dots + 1))) (ls' := [some (.ref a), some (.int (nI parts)), some (.int (nI (dots + 1))), some (.int (nI m))]) rfl (nI_add dots 1) rfl ?_
      refine wg_iload_n (d52_27 L xs) rfl ?_
      refine wg_iload_n (d52_28 L xs) rfl ?_
      refine wn_icmp_ne (d52_29 L xs) (x := dots + 1) (y := parts) (by omega) (by omega) (t := 36) (by decide) (fun h3 => ?_) (fun h3 => ?_)
      · refine wg_iinc (d52_36 L xs) (y := (nI m - 1)) (ls' := [some (.ref a), some (.int (nI parts)), some (.int (nI (dots + 1))), some (.int (nI m - 1))]) rfl (ty_d1 _) rfl ?_
        refine wg_goto (d52_39 L xs) (t := 9) (by decide) ?_
        rw [show f_last (t_at s a n) parts dots (m + 1) = f_last (t_at s a n) parts (dots + 1) m by rw [f_last, if_pos (by omega), if_neg (by omega)]]; exact ih (dots + 1) (by omega) (by omega)
      · refine wg_iload_n (d52_32 L xs) rfl ?_
        refine wg_iconst (d52_33 L xs) (x := 1) (by decide) ?_
        refine wg_iadd (d52_34 L xs) ?_
        refine wg_top (y := (nI (m + 1))) (nI_add m 1) ?_
        exact wg_iret (d52_35 L xs) rfl rfl ⟨by rw [f_last, if_pos (by omega), if_pos (by omega)], rfl⟩
theorem tx_startOfLast {parts : Nat} (H : isT a) (hn : isTx s a n) (hp : parts < 2 ^ 30) : ca L xs (d + 1) 52 [.ref a, .int (nI parts)] s (fun v s' => v = some (.int (nI (f_last (t_at s a n) parts 0 n))) ∧ s = s') := by
  refine wg_call (Nat.le_of_ble_eq_true rfl) ?_
  show wp L xs d 52 0 [some (.ref a), some (.int (nI parts)), none, none] [] s _
  refine wg_iconst (d52_0 L xs) (x := 0) (by decide) ?_
  refine wg_istore_n (d52_1 L xs) (ls' := [some (.ref a), some (.int (nI parts)), some (.int 0), none]) (Nat.le_of_ble_eq_true rfl) rfl ?_
  refine wg_aload_n (d52_2 L xs) rfl ?_
  refine wg_get (d52_3 L xs) (kd := 1) (cj := 1) (k0 := 1) rfl (Or.inl rfl) H.1 (tx_c H) rfl ?_
  refine wg_top (y := (nI n)) hn.1 ?_
  refine wg_iconst (d52_6 L xs) (x := 1) (by decide) ?_
  refine wg_isub (d52_7 L xs) ?_
  refine wg_top (y := (nI n - 1)) rfl ?_
  refine wg_istore_n (d52_8 L xs) (ls' := [some (.ref a), some (.int (nI parts)), some (.int 0), some (.int (nI n - 1))]) (Nat.le_of_ble_eq_true rfl) rfl ?_
  exact tx_last_l H hn hp n 0 (by omega) (by omega)
theorem tx_first_l {parts : Nat} (H : isT a) (hn : isTx s a n) (hp : parts < 2 ^ 30) : ∀ (m i dots : Nat), i + m = n → dots ≤ i → wp L xs d 78 4 [some (.ref a), some (.int (nI parts)), some (.int (nI dots)), some (.int (nI i))] [] s (fun v s' => v = some (.int (nI (f_first (t_at s a n) parts dots i m))) ∧ s = s') := by
  have hlim := tx_m H
  have hn2 := hn.2
  intro m
  induction m with
  | zero =>
    intro i dots hm hd
    refine wg_iload_n (d78_4 L xs) rfl ?_
    refine wg_aload_n (d78_5 L xs) rfl ?_
    refine wg_get (d78_6 L xs) (kd := 1) (cj := 1) (k0 := 1) rfl (Or.inl rfl) H.1 (tx_c H) rfl ?_
    refine wg_top (y := (nI n)) hn.1 ?_
    refine wn_icmp_ge (d78_9 L xs) (x := i) (y := n) (by omega) (by omega) (t := 39) (by decide) (fun h1 => ?_) (fun h1 => by omega)
    refine wg_aload_n (d78_39 L xs) rfl ?_
    refine wg_get (d78_40 L xs) (kd := 1) (cj := 1) (k0 := 1) rfl (Or.inl rfl) H.1 (tx_c H) rfl ?_
    refine wg_top (y := (nI n)) hn.1 ?_
    exact wg_iret (d78_43 L xs) rfl rfl ⟨by rw [f_first, show n = i by omega], rfl⟩
  | succ m ih =>
    intro i dots hm hd
    refine wp_ch (fun hch => ?_)
    have hg0 : t_at s a n i < 65536 := t_at_lt H hn hch
    refine wg_iload_n (d78_4 L xs) rfl ?_
    refine wg_aload_n (d78_5 L xs) rfl ?_
    refine wg_get (d78_6 L xs) (kd := 1) (cj := 1) (k0 := 1) rfl (Or.inl rfl) H.1 (tx_c H) rfl ?_
    refine wg_top (y := (nI n)) hn.1 ?_
    refine wn_icmp_ge (d78_9 L xs) (x := i) (y := n) (by omega) (by omega) (t := 39) (by decide) (fun h1 => by omega) (fun h1 => ?_)
    refine wg_aload_n (d78_12 L xs) rfl ?_
    refine wg_get (d78_13 L xs) (kd := 1) (cj := 1) (k0 := 0) rfl (Or.inl rfl) H.1 (tx_c H) rfl ?_
    refine wg_iload_n (d78_16 L xs) rfl ?_
    refine wg_cald (d78_17 L xs) (tx_l H) (tx_d H) (vp_in_nI (n := i) (by omega) (by omega)) ?_
    refine wg_top (y := nI (t_at s a n i)) (by rw [nI_nat (by omega)]; exact tx_ch H hn hch (by omega)) ?_
    refine wg_bipush (d78_18 L xs) (x := 46) (by decide) ?_
    refine wn_icmp_ne (d78_20 L xs) (x := t_at s a n i) (y := 46) (by omega) (by omega) (t := 33) (by decide) (fun h2 => ?_) (fun h2 => ?_)
    · refine wg_iinc (d78_33 L xs) (y := (nI (i + 1))) (ls' := [some (.ref a), some (.int (nI parts)), some (.int (nI dots)), some (.int (nI (i + 1)))]) rfl (nI_add i 1) rfl ?_
      refine wg_goto (d78_36 L xs) (t := 4) (by decide) ?_
      rw [show f_first (t_at s a n) parts dots i (m + 1) = f_first (t_at s a n) parts dots (i + 1) m from if_neg (by omega)]; exact ih (i + 1) dots (by omega) (by omega)
    · refine wg_iinc (d78_23 L xs) (y := (nI (dots + 1))) (ls' := [some (.ref a), some (.int (nI parts)), some (.int (nI (dots + 1))), some (.int (nI i))]) rfl (nI_add dots 1) rfl ?_
      refine wg_iload_n (d78_26 L xs) rfl ?_
      refine wg_iload_n (d78_27 L xs) rfl ?_
      refine wn_icmp_ne (d78_28 L xs) (x := dots + 1) (y := parts) (by omega) (by omega) (t := 33) (by decide) (fun h3 => ?_) (fun h3 => ?_)
      · refine wg_iinc (d78_33 L xs) (y := (nI (i + 1))) (ls' := [some (.ref a), some (.int (nI parts)), some (.int (nI (dots + 1))), some (.int (nI (i + 1)))]) rfl (nI_add i 1) rfl ?_
        refine wg_goto (d78_36 L xs) (t := 4) (by decide) ?_
        rw [show f_first (t_at s a n) parts dots i (m + 1) = f_first (t_at s a n) parts (dots + 1) (i + 1) m by rw [f_first, if_pos (by omega), if_neg (by omega)]]; exact ih (i + 1) (dots + 1) (by omega) (by omega)
      · refine wg_iload_n (d78_31 L xs) rfl ?_
        exact wg_iret (d78_32 L xs) rfl rfl ⟨by rw [f_first, if_pos (by omega), if_pos (by omega)], rfl⟩
theorem tx_endOfFirst {parts : Nat} (H : isT a) (hn : isTx s a n) (hp : parts < 2 ^ 30) : ca L xs (d + 1) 78 [.ref a, .int (nI parts)] s (fun v s' => v = some (.int (nI (f_first (t_at s a n) parts 0 0 n))) ∧ s = s') := by
  refine wg_call (Nat.le_of_ble_eq_true rfl) ?_
  show wp L xs d 78 0 [some (.ref a), some (.int (nI parts)), none, none] [] s _
  refine wg_iconst (d78_0 L xs) (x := 0) (by decide) ?_
  refine wg_istore_n (d78_1 L xs) (ls' := [some (.ref a), some (.int (nI parts)), some (.int 0), none]) (Nat.le_of_ble_eq_true rfl) rfl ?_
  refine wg_iconst (d78_2 L xs) (x := 0) (by decide) ?_
  refine wg_istore_n (d78_3 L xs) (ls' := [some (.ref a), some (.int (nI parts)), some (.int 0), some (.int 0)]) (Nat.le_of_ble_eq_true rfl) rfl ?_
  exact tx_first_l H hn hp n 0 0 (by omega) (by omega)
theorem ah_sub (m : Nat) : nI (m + 1) - 2 = nI m - 1 := by
  rw [← ty_s1 m, Int32.sub_sub]; rfl
theorem tx_ahead_l {x : Int32} (H : isT a) (hn : isTx s a n) : ∀ (m : Nat), m < 2 ^ 30 → wp L xs (d + 1) 90 4 [some (.ref a), some (.int x), some (.int (nI m - 1))] [] s (fun v s' => v = some (.int (nI (f_ahead (t_at s a n) m))) ∧ s = s') := by
  have hlim := tx_m H
  have hn2 := hn.2
  intro m
  induction m with
  | zero =>
    intro hm
    rw [show nI 0 - 1 = -1 by decide]
    refine wg_iload_n (d90_4 L xs) rfl ?_
    refine wg_if_lt (d90_5 L xs) (t := 28) (by decide) (fun _ => ?_) (fun hn => absurd (by decide) hn)
    refine wg_iconst (d90_28 L xs) (x := 0) (by decide) ?_
    exact wg_iret (d90_29 L xs) rfl rfl ⟨rfl, rfl⟩
  | succ m ih =>
    intro hm
    refine wp_ch (fun hch => ?_)
    have hg0 : t_at s a n m < 65536 := t_at_lt H hn hch
    rw [ty_s1 m]
    refine wg_iload_n (d90_4 L xs) rfl ?_
    refine wn_if_lt (d90_5 L xs) (x := m) (by omega) (t := 28) (by decide) (fun h1 => by omega) (fun h1 => ?_)
    refine wg_aload_n (d90_8 L xs) rfl ?_
    refine wg_iload_n (d90_9 L xs) rfl ?_
    refine wg_invv (d90_10 L xs) (kd := 7) (mj := 31) (n := 1) rfl (Or.inl rfl) (ys := [.int (nI m)]) (r := []) rfl rfl H.1 (tx_c H) rfl (Nat.le_of_ble_eq_true rfl) (tx_at (i := m) H hn (by omega)) ?_
    rintro _ _ ⟨rfl, rfl⟩
    refine wg_bipush (d90_13 L xs) (x := 46) (by decide) ?_
    refine wn_icmp_ne (d90_15 L xs) (x := t_at s a n m) (y := 46) (by omega) (by omega) (t := 22) (by decide) (fun h2 => ?_) (fun h2 => ?_)
    · refine wg_iinc (d90_22 L xs) (y := (nI m - 1)) (ls' := [some (.ref a), some (.int x), some (.int (nI m - 1))]) rfl (ty_d1 _) rfl ?_
      refine wg_goto (d90_25 L xs) (t := 4) (by decide) ?_
      rw [show f_ahead (t_at s a n) (m + 1) = f_ahead (t_at s a n) m from if_neg (by omega)]; exact ih (by omega)
    · refine wg_iload_n (d90_18 L xs) rfl ?_
      refine wg_iconst (d90_19 L xs) (x := 1) (by decide) ?_
      refine wg_iadd (d90_20 L xs) ?_
      refine wg_top (y := (nI (m + 1))) (nI_add m 1) ?_
      exact wg_iret (d90_21 L xs) rfl rfl ⟨by rw [f_ahead, if_pos (by omega)], rfl⟩
theorem tx_ahead {m : Nat} (hm : m < 2 ^ 30) (H : isT a) (hn : isTx s a n) : ca L xs (d + 2) 90 [.ref a, .int (nI (m + 1))] s (fun v s' => v = some (.int (nI (f_ahead (t_at s a n) m))) ∧ s = s') := by
  refine wg_call (Nat.le_of_ble_eq_true rfl) ?_
  show wp L xs (d + 1) 90 0 [some (.ref a), some (.int (nI (m + 1))), none] [] s _
  refine wg_iload_n (d90_0 L xs) rfl ?_
  refine wg_iconst (d90_1 L xs) (x := 2) (by decide) ?_
  refine wg_isub (d90_2 L xs) ?_
  refine wg_top (y := (nI m - 1)) (ah_sub m) ?_
  refine wg_istore_n (d90_3 L xs) (ls' := [some (.ref a), some (.int (nI (m + 1))), some (.int (nI m - 1))]) (Nat.le_of_ble_eq_true rfl) rfl ?_
  exact tx_ahead_l H hn m hm
theorem tx_ahead0 (H : isT a) (hn : isTx s a n) : ca L xs (d + 2) 90 [.ref a, .int 0] s (fun v s' => v = some (.int (nI (f_ahead (t_at s a n) 0))) ∧ s = s') := by
  refine wg_call (Nat.le_of_ble_eq_true rfl) ?_
  show wp L xs (d + 1) 90 0 [some (.ref a), some (.int 0), none] [] s _
  refine wg_iload_n (d90_0 L xs) rfl ?_
  refine wg_iconst (d90_1 L xs) (x := 2) (by decide) ?_
  refine wg_isub (d90_2 L xs) ?_
  refine wg_top (y := (-2)) (by decide) ?_
  refine wg_istore_n (d90_3 L xs) (ls' := [some (.ref a), some (.int 0), some (.int (-2))]) (Nat.le_of_ble_eq_true rfl) rfl ?_
  refine wg_iload_n (d90_4 L xs) rfl ?_
  refine wg_if_lt (d90_5 L xs) (t := 28) (by decide) (fun _ => ?_) (fun hn => absurd (by decide) hn)
  refine wg_iconst (d90_28 L xs) (x := 0) (by decide) ?_
  exact wg_iret (d90_29 L xs) rfl rfl ⟨rfl, rfl⟩
theorem tx_back_l {fr to : Nat} (H : isT a) (hn : isTx s a n) (hto : to < 2 ^ 30) : ∀ (m : Nat), fr + m ≤ to → wp L xs (d + 1) 95 2 [some (.ref a), some (.int (nI fr)), some (.int (nI to)), some (.int (nI (fr + m)))] [] s (fun v s' => v = some (.int (nI (f_back (t_at s a n) fr m))) ∧ s = s') := by
  have hlim := tx_m H
  have hn2 := hn.2
  intro m
  induction m with
  | zero =>
    intro hm
    refine wg_iload_n (d95_2 L xs) rfl ?_
    refine wg_iload_n (d95_3 L xs) rfl ?_
    refine wn_icmp_le (d95_4 L xs) (x := fr + 0) (y := fr) (by omega) (by omega) (t := 27) (by decide) (fun h1 => ?_) (fun h1 => by omega)
    refine wg_iload_n (d95_27 L xs) rfl ?_
    exact wg_iret (d95_28 L xs) rfl rfl ⟨rfl, rfl⟩
  | succ m ih =>
    intro hm
    refine wp_ch (fun hch => ?_)
    have hg0 : t_at s a n (fr + m) < 65536 := t_at_lt H hn hch
    refine wg_iload_n (d95_2 L xs) rfl ?_
    refine wg_iload_n (d95_3 L xs) rfl ?_
    refine wn_icmp_le (d95_4 L xs) (x := fr + m + 1) (y := fr) (by omega) (by omega) (t := 27) (by decide) (fun h1 => by omega) (fun h1 => ?_)
    refine wg_aload_n (d95_7 L xs) rfl ?_
    refine wg_iload_n (d95_8 L xs) rfl ?_
    refine wg_iconst (d95_9 L xs) (x := 1) (by decide) ?_
    refine wg_isub (d95_10 L xs) ?_
    refine wg_top (y := (nI (fr + m))) (ty_s1 (fr + m)) ?_
    refine wg_invv (d95_11 L xs) (kd := 7) (mj := 31) (n := 1) rfl (Or.inl rfl) (ys := [.int (nI (fr + m))]) (r := []) rfl rfl H.1 (tx_c H) rfl (Nat.le_of_ble_eq_true rfl) (tx_at (i := fr + m) H hn (by omega)) ?_
    rintro _ _ ⟨rfl, rfl⟩
    refine wg_bipush (d95_14 L xs) (x := 32) (by decide) ?_
    refine wn_icmp_eq (d95_16 L xs) (x := t_at s a n (fr + m)) (y := 32) (by omega) (by omega) (t := 21) (by decide) (fun h2 => ?_) (fun h2 => ?_)
    · refine wg_iinc (d95_21 L xs) (y := (nI (fr + m))) (ls' := [some (.ref a), some (.int (nI fr)), some (.int (nI to)), some (.int (nI (fr + m)))]) rfl ((ty_d1 _).trans (ty_s1 (fr + m))) rfl ?_
      refine wg_goto (d95_24 L xs) (t := 2) (by decide) ?_
      rw [show f_back (t_at s a n) fr (m + 1) = f_back (t_at s a n) fr m from if_pos (by omega)]; exact ih (by omega)
    · refine wg_iload_n (d95_19 L xs) rfl ?_
      exact wg_iret (d95_20 L xs) rfl rfl ⟨by rw [f_back, if_neg (by omega)]; rfl, rfl⟩
theorem tx_endNo {fr to : Nat} (H : isT a) (hn : isTx s a n) (hto : to < 2 ^ 30) (hf : fr ≤ to) : ca L xs (d + 2) 95 [.ref a, .int (nI fr), .int (nI to)] s (fun v s' => v = some (.int (nI (f_back (t_at s a n) fr (to - fr)))) ∧ s = s') := by
  refine wg_call (Nat.le_of_ble_eq_true rfl) ?_
  show wp L xs (d + 1) 95 0 [some (.ref a), some (.int (nI fr)), some (.int (nI to)), none] [] s _
  refine wg_iload_n (d95_0 L xs) rfl ?_
  refine wg_istore_n (d95_1 L xs) (ls' := [some (.ref a), some (.int (nI fr)), some (.int (nI to)), some (.int (nI to))]) (Nat.le_of_ble_eq_true rfl) rfl ?_
  have key := tx_back_l (L := L) (xs := xs) (d := d) (fr := fr) H hn hto (to - fr) (by omega); rw [show fr + (to - fr) = to by omega] at key; exact key
end TXC
