/-! numbers as they are; texts -/
theorem nI_nat {n : Nat} (h : n < 2 ^ 31) : (nI n).toNatClampNeg = n := by
  exact nI_clamp h
section WN
variable {L : Nat} {xs : Nat → Int32} {d mi pc : Nat} {ls : ax_L} {st : List Value} {s : mg_s} {Q : Option Value → mg_s → Prop} {x y t : Nat} {off : Int}
theorem wn_icmp_lt (hd : decode (ax_code (mgT L xs) mi) pc = .ok (.if_icmp .lt off, 3)) (hx : x < 2 ^ 31) (hy : y < 2 ^ 31) (ht : ax_jmp pc off = some t) (kt : x < y → wp L xs d mi t ls st s Q) (kf : y ≤ x → wp L xs d mi (pc + 3) ls st s Q) : wp L xs d mi pc ls (.int (nI y) :: .int (nI x) :: st) s Q :=
  wg_icmp_lt hd ht (fun q => kt ((nI_ltI hx hy).mp q)) (fun q => kf (Nat.not_lt.mp (fun r => q ((nI_ltI hx hy).mpr r))))
theorem wn_icmp_ge (hd : decode (ax_code (mgT L xs) mi) pc = .ok (.if_icmp .ge off, 3)) (hx : x < 2 ^ 31) (hy : y < 2 ^ 31) (ht : ax_jmp pc off = some t) (kt : y ≤ x → wp L xs d mi t ls st s Q) (kf : x < y → wp L xs d mi (pc + 3) ls st s Q) : wp L xs d mi pc ls (.int (nI y) :: .int (nI x) :: st) s Q :=
  wg_icmp_ge hd ht (fun q => kt ((nI_leI hy hx).mp q)) (fun q => kf (Nat.not_le.mp (fun r => q ((nI_leI hy hx).mpr r))))
theorem wn_icmp_gt (hd : decode (ax_code (mgT L xs) mi) pc = .ok (.if_icmp .gt off, 3)) (hx : x < 2 ^ 31) (hy : y < 2 ^ 31) (ht : ax_jmp pc off = some t) (kt : y < x → wp L xs d mi t ls st s Q) (kf : x ≤ y → wp L xs d mi (pc + 3) ls st s Q) : wp L xs d mi pc ls (.int (nI y) :: .int (nI x) :: st) s Q :=
  wg_icmp_gt hd ht (fun q => kt ((nI_ltI hy hx).mp q)) (fun q => kf (Nat.not_lt.mp (fun r => q ((nI_ltI hy hx).mpr r))))
theorem wn_icmp_le (hd : decode (ax_code (mgT L xs) mi) pc = .ok (.if_icmp .le off, 3)) (hx : x < 2 ^ 31) (hy : y < 2 ^ 31) (ht : ax_jmp pc off = some t) (kt : x ≤ y → wp L xs d mi t ls st s Q) (kf : y < x → wp L xs d mi (pc + 3) ls st s Q) : wp L xs d mi pc ls (.int (nI y) :: .int (nI x) :: st) s Q :=
  wg_icmp_le hd ht (fun q => kt ((nI_leI hx hy).mp q)) (fun q => kf (Nat.not_le.mp (fun r => q ((nI_leI hx hy).mpr r))))
theorem wn_icmp_eq (hd : decode (ax_code (mgT L xs) mi) pc = .ok (.if_icmp .eq off, 3)) (hx : x < 2 ^ 31) (hy : y < 2 ^ 31) (ht : ax_jmp pc off = some t) (kt : x = y → wp L xs d mi t ls st s Q) (kf : ¬ x = y → wp L xs d mi (pc + 3) ls st s Q) : wp L xs d mi pc ls (.int (nI y) :: .int (nI x) :: st) s Q :=
  wg_icmp_eq hd ht (fun q => kt ((nI_eq hx hy).mp q)) (fun q => kf (fun r => q ((nI_eq hx hy).mpr r)))
theorem wn_icmp_ne (hd : decode (ax_code (mgT L xs) mi) pc = .ok (.if_icmp .ne off, 3)) (hx : x < 2 ^ 31) (hy : y < 2 ^ 31) (ht : ax_jmp pc off = some t) (kt : ¬ x = y → wp L xs d mi t ls st s Q) (kf : x = y → wp L xs d mi (pc + 3) ls st s Q) : wp L xs d mi pc ls (.int (nI y) :: .int (nI x) :: st) s Q :=
  wg_icmp_ne hd ht (fun q => kt (fun r => q ((nI_eq hx hy).mpr r))) (fun q => kf (Classical.byContradiction (fun r => q (fun r2 => r ((nI_eq hx hy).mp r2)))))
theorem wn_if_lt (hd : decode (ax_code (mgT L xs) mi) pc = .ok (.ifCond .lt off, 3)) (hx : x < 2 ^ 31) (ht : ax_jmp pc off = some t) (kt : x < 0 → wp L xs d mi t ls st s Q) (kf : 0 ≤ x → wp L xs d mi (pc + 3) ls st s Q) : wp L xs d mi pc ls (.int (nI x) :: st) s Q :=
  wg_if_lt hd ht (fun q => kt ((nI_ltI hx (by decide : 0 < 2 ^ 31)).mp q)) (fun q => kf (Nat.zero_le _))
theorem wn_if_ge (hd : decode (ax_code (mgT L xs) mi) pc = .ok (.ifCond .ge off, 3)) (hx : x < 2 ^ 31) (ht : ax_jmp pc off = some t) (kt : 0 ≤ x → wp L xs d mi t ls st s Q) (kf : x < 0 → wp L xs d mi (pc + 3) ls st s Q) : wp L xs d mi pc ls (.int (nI x) :: st) s Q :=
  wg_if_ge hd ht (fun q => kt (Nat.zero_le _)) (fun q => kf (absurd ((nI_leI (by decide : 0 < 2 ^ 31) hx).mpr (Nat.zero_le _)) q))
theorem wn_if_gt (hd : decode (ax_code (mgT L xs) mi) pc = .ok (.ifCond .gt off, 3)) (hx : x < 2 ^ 31) (ht : ax_jmp pc off = some t) (kt : 0 < x → wp L xs d mi t ls st s Q) (kf : x = 0 → wp L xs d mi (pc + 3) ls st s Q) : wp L xs d mi pc ls (.int (nI x) :: st) s Q :=
  wg_if_gt hd ht (fun q => kt ((nI_ltI (by decide : 0 < 2 ^ 31) hx).mp q)) (fun q => kf (Nat.eq_zero_of_not_pos (fun r => q ((nI_ltI (by decide : 0 < 2 ^ 31) hx).mpr r))))
theorem wn_if_le (hd : decode (ax_code (mgT L xs) mi) pc = .ok (.ifCond .le off, 3)) (hx : x < 2 ^ 31) (ht : ax_jmp pc off = some t) (kt : x = 0 → wp L xs d mi t ls st s Q) (kf : 0 < x → wp L xs d mi (pc + 3) ls st s Q) : wp L xs d mi pc ls (.int (nI x) :: st) s Q :=
  wg_if_le hd ht (fun q => kt (Nat.le_zero.mp ((nI_leI hx (by decide : 0 < 2 ^ 31)).mp q))) (fun q => kf (Nat.pos_of_ne_zero (fun r => q ((nI_leI hx (by decide : 0 < 2 ^ 31)).mpr (by omega)))))
theorem wn_if_eq (hd : decode (ax_code (mgT L xs) mi) pc = .ok (.ifCond .eq off, 3)) (hx : x < 2 ^ 31) (ht : ax_jmp pc off = some t) (kt : x = 0 → wp L xs d mi t ls st s Q) (kf : ¬ x = 0 → wp L xs d mi (pc + 3) ls st s Q) : wp L xs d mi pc ls (.int (nI x) :: st) s Q :=
  wg_if_eq hd ht (fun q => kt ((nI_eq hx (by decide : 0 < 2 ^ 31)).mp q)) (fun q => kf (fun r => q ((nI_eq hx (by decide : 0 < 2 ^ 31)).mpr r)))
theorem wn_if_ne (hd : decode (ax_code (mgT L xs) mi) pc = .ok (.ifCond .ne off, 3)) (hx : x < 2 ^ 31) (ht : ax_jmp pc off = some t) (kt : ¬ x = 0 → wp L xs d mi t ls st s Q) (kf : x = 0 → wp L xs d mi (pc + 3) ls st s Q) : wp L xs d mi pc ls (.int (nI x) :: st) s Q :=
  wg_if_ne hd ht (fun q => kt (fun r => q ((nI_eq hx (by decide : 0 < 2 ^ 31)).mpr r))) (fun q => kf (Classical.byContradiction (fun r => q (fun r2 => r ((nI_eq hx (by decide : 0 < 2 ^ 31)).mp r2)))))
end WN
/-- a cell that is a text; how long it may get -/
def isT (a : Nat) : Prop := a < 167 ∧ (mg_sh.getD a (0, 0)).1 = 0
def tlim (a : Nat) : Nat := (mg_sh.getD (a + 1) (0, 0)).2
theorem tx_all : ∀ a, a < 167 → (mg_sh.getD a (0, 0)).1 = 0 → a + 1 < 167 ∧ (mg_sh.getD (a + 1) (0, 0)).1 = 1 ∧ (mg_sh.getD (a + 1) (0, 0)).2 ≤ 100 := by decide +kernel
theorem tx_l {a : Nat} (H : isT a) : a + 1 < 167 := (tx_all a H.1 H.2).1
theorem tx_m {a : Nat} (H : isT a) : tlim a ≤ 100 := (tx_all a H.1 H.2).2.2
theorem tx_c {s : mg_s} {a : Nat} (H : isT a) : mg_c s a = .inr (1, [.ref (a + 1), .int (s.1 a 1)]) := by
  unfold mg_c; rw [H.2]; rfl
theorem tx_d {s : mg_s} {a : Nat} (H : isT a) : mg_c s (a + 1) = .inl (1, tlim a, .inl (s.2.1 (a + 1))) := by
  unfold mg_c; rw [(tx_all a H.1 H.2).2.1]; rfl
/-- a text of n chars -/
def isTx (s : mg_s) (a n : Nat) : Prop := s.1 a 1 = nI n ∧ n ≤ tlim a
/-- its char at i, 0 beyond its end -/
def t_at (s : mg_s) (a n i : Nat) : Nat := if i < n then (s.2.1 (a + 1) i).toNatClampNeg else 0
theorem nar_nat {x : Int32} (h : vp_nar .char x = x) : nI x.toNatClampNeg = x ∧ x.toNatClampNeg < 65536 := by
  have h1 : (x.toUInt32 % 65536).toInt32 = x := h
  rw [pk_char x] at h1
  have h2 : x.toBitVec.toNat % 65536 < 65536 := Nat.mod_lt _ (by decide)
  rw [← h1, nI_clamp (by omega)]
  exact ⟨rfl, h2⟩
theorem t_at_lt {s : mg_s} {a n i : Nat} (H : isT a) (hn : isTx s a n) (hc : mg_ch s) : t_at s a n i < 65536 := by
  unfold t_at
  split
  · exact (nar_nat (hc (a + 1) (tx_l H) (tx_all a H.1 H.2).2.1 i (Nat.lt_of_lt_of_le (by assumption) hn.2))).2
  · decide
theorem d31_0 (L : Nat) (xs : Nat → Int32) : decode (ax_code (mgT L xs) 31) 0 = .ok (.iload_n 1, 1) := by
  show decode prog_9_method_3_code 0 = _
  decide +kernel
theorem d31_1 (L : Nat) (xs : Nat → Int32) : decode (ax_code (mgT L xs) 31) 1 = .ok (.ifCond .lt 20, 3) := by
  show decode prog_9_method_3_code 1 = _
  decide +kernel
theorem d31_4 (L : Nat) (xs : Nat → Int32) : decode (ax_code (mgT L xs) 31) 4 = .ok (.iload_n 1, 1) := by
  show decode prog_9_method_3_code 4 = _
  decide +kernel
theorem d31_5 (L : Nat) (xs : Nat → Int32) : decode (ax_code (mgT L xs) 31) 5 = .ok (.aload_n 0, 1) := by
  show decode prog_9_method_3_code 5 = _
  decide +kernel
theorem d31_6 (L : Nat) (xs : Nat → Int32) : decode (ax_code (mgT L xs) 31) 6 = .ok (.getfield 15, 3) := by
  show decode prog_9_method_3_code 6 = _
  decide +kernel
theorem d31_9 (L : Nat) (xs : Nat → Int32) : decode (ax_code (mgT L xs) 31) 9 = .ok (.if_icmp .ge 12, 3) := by
  show decode prog_9_method_3_code 9 = _
  decide +kernel
theorem d31_12 (L : Nat) (xs : Nat → Int32) : decode (ax_code (mgT L xs) 31) 12 = .ok (.aload_n 0, 1) := by
  show decode prog_9_method_3_code 12 = _
  decide +kernel
theorem d31_13 (L : Nat) (xs : Nat → Int32) : decode (ax_code (mgT L xs) 31) 13 = .ok (.getfield 9, 3) := by
  show decode prog_9_method_3_code 13 = _
  decide +kernel
theorem d31_16 (L : Nat) (xs : Nat → Int32) : decode (ax_code (mgT L xs) 31) 16 = .ok (.iload_n 1, 1) := by
  show decode prog_9_method_3_code 16 = _
  decide +kernel
theorem d31_17 (L : Nat) (xs : Nat → Int32) : decode (ax_code (mgT L xs) 31) 17 = .ok (.caload, 1) := by
  show decode prog_9_method_3_code 17 = _
  decide +kernel
theorem d31_18 (L : Nat) (xs : Nat → Int32) : decode (ax_code (mgT L xs) 31) 18 = .ok (.goto 4, 3) := by
  show decode prog_9_method_3_code 18 = _
  decide +kernel
theorem d31_21 (L : Nat) (xs : Nat → Int32) : decode (ax_code (mgT L xs) 31) 21 = .ok (.iconst 0, 1) := by
  show decode prog_9_method_3_code 21 = _
  decide +kernel
theorem d31_22 (L : Nat) (xs : Nat → Int32) : decode (ax_code (mgT L xs) 31) 22 = .ok (.ireturn, 1) := by
  show decode prog_9_method_3_code 22 = _
  decide +kernel
section TXA
variable {L : Nat} {xs : Nat → Int32} {d : Nat} {s : mg_s} {a n : Nat}
theorem tx_size (H : isT a) (hn : isTx s a n) : ca L xs (d + 1) 15 [.ref a] s (fun v s' => v = some (.int (nI n)) ∧ s = s') := by
  refine wg_call (Nat.le_of_ble_eq_true rfl) ?_
  show wp L xs d 15 0 [some (.ref a)] [] s _
  refine wg_aload_n (d15_0 L xs) rfl ?_
  refine wg_get (d15_1 L xs) (kd := 1) (cj := 1) (k0 := 1) rfl (Or.inl rfl) H.1 (tx_c H) rfl ?_
  refine wg_top (y := (nI n)) hn.1 ?_
  exact wg_iret (d15_4 L xs) rfl rfl ⟨rfl, rfl⟩
theorem nar_eq {x : Int32} (h : vp_nar .char x = x) : narrow .char (.int x) = .int x := by
  show Value.int (vp_nar .char x) = .int x
  rw [h]
theorem tx_at {i : Nat} (H : isT a) (hn : isTx s a n) (hi : i < 2 ^ 31) : ca L xs (d + 1) 31 [.ref a, .int (nI i)] s (fun v s' => v = some (.int (nI (t_at s a n i))) ∧ s = s') := by
  refine wg_call (Nat.le_of_ble_eq_true rfl) ?_
  have hlim := tx_m H
  have hn2 := hn.2
  refine wp_ch (fun hch => ?_)
  show wp L xs d 31 0 [some (.ref a), some (.int (nI i))] [] s _
  refine wg_iload_n (d31_0 L xs) rfl ?_
  refine wn_if_lt (d31_1 L xs) (x := i) (by omega) (t := 21) (by decide) (fun h1 => by omega) (fun h1 => ?_)
  refine wg_iload_n (d31_4 L xs) rfl ?_
  refine wg_aload_n (d31_5 L xs) rfl ?_
  refine wg_get (d31_6 L xs) (kd := 1) (cj := 1) (k0 := 1) rfl (Or.inl rfl) H.1 (tx_c H) rfl ?_
  refine wg_top (y := (nI n)) hn.1 ?_
  refine wn_icmp_ge (d31_9 L xs) (x := i) (y := n) (by omega) (by omega) (t := 21) (by decide) (fun h2 => ?_) (fun h2 => ?_)
  · refine wg_iconst (d31_21 L xs) (x := 0) (by decide) ?_
    exact wg_iret (d31_22 L xs) rfl rfl ⟨by rw [t_at, if_neg (by omega)]; rfl, rfl⟩
  · refine wg_aload_n (d31_12 L xs) rfl ?_
    refine wg_get (d31_13 L xs) (kd := 1) (cj := 1) (k0 := 0) rfl (Or.inl rfl) H.1 (tx_c H) rfl ?_
    refine wg_iload_n (d31_16 L xs) rfl ?_
    refine wg_cald (d31_17 L xs) (tx_l H) (tx_d H) (vp_in_nI (n := i) (by omega) (by omega)) ?_
    refine wg_top (y := s.2.1 (a + 1) i) (by rw [nI_nat (by omega)]) ?_
    refine wg_goto (d31_18 L xs) (t := 22) (by decide) ?_
    exact wg_iret (d31_22 L xs) rfl (nar_eq (hch (a + 1) (tx_l H) (tx_all a H.1 H.2).2.1 i (show i < tlim a by omega))) ⟨by rw [t_at, if_pos (by omega), (nar_nat (hch (a + 1) (tx_l H) (tx_all a H.1 H.2).2.1 i (show i < tlim a by omega))).1], rfl⟩
end TXA
