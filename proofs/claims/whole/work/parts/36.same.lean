/-! texts: the same -/
def f_same (g k : Nat → Nat) : Nat → Nat → Nat → Bool
  | _, _, 0 => true
  | i, j, m + 1 => decide (g i = k j) && f_same g k (i + 1) (j + 1) m
def t_same (g : Nat → Nat) (fr n : Nat) (k : Nat → Nat) (fr2 n2 : Nat) : Bool := decide (n - fr = n2 - fr2) && f_same g k fr fr2 (n - fr)
theorem d54_0 (L : Nat) (xs : Nat → Int32) : decode (ax_code (mgT L xs) 54) 0 = .ok (.iload_n 1, 1) := by
  show decode prog_9_method_13_code 0 = _
  decide +kernel
theorem d54_1 (L : Nat) (xs : Nat → Int32) : decode (ax_code (mgT L xs) 54) 1 = .ok (.ifCond .lt 22, 3) := by
  show decode prog_9_method_13_code 1 = _
  decide +kernel
theorem d54_4 (L : Nat) (xs : Nat → Int32) : decode (ax_code (mgT L xs) 54) 4 = .ok (.iload_n 3, 1) := by
  show decode prog_9_method_13_code 4 = _
  decide +kernel
theorem d54_5 (L : Nat) (xs : Nat → Int32) : decode (ax_code (mgT L xs) 54) 5 = .ok (.ifCond .lt 18, 3) := by
  show decode prog_9_method_13_code 5 = _
  decide +kernel
theorem d54_8 (L : Nat) (xs : Nat → Int32) : decode (ax_code (mgT L xs) 54) 8 = .ok (.aload_n 0, 1) := by
  show decode prog_9_method_13_code 8 = _
  decide +kernel
theorem d54_9 (L : Nat) (xs : Nat → Int32) : decode (ax_code (mgT L xs) 54) 9 = .ok (.getfield 15, 3) := by
  show decode prog_9_method_13_code 9 = _
  decide +kernel
theorem d54_12 (L : Nat) (xs : Nat → Int32) : decode (ax_code (mgT L xs) 54) 12 = .ok (.iload_n 1, 1) := by
  show decode prog_9_method_13_code 12 = _
  decide +kernel
theorem d54_13 (L : Nat) (xs : Nat → Int32) : decode (ax_code (mgT L xs) 54) 13 = .ok (.isub, 1) := by
  show decode prog_9_method_13_code 13 = _
  decide +kernel
theorem d54_14 (L : Nat) (xs : Nat → Int32) : decode (ax_code (mgT L xs) 54) 14 = .ok (.aload_n 2, 1) := by
  show decode prog_9_method_13_code 14 = _
  decide +kernel
theorem d54_15 (L : Nat) (xs : Nat → Int32) : decode (ax_code (mgT L xs) 54) 15 = .ok (.getfield 15, 3) := by
  show decode prog_9_method_13_code 15 = _
  decide +kernel
theorem d54_18 (L : Nat) (xs : Nat → Int32) : decode (ax_code (mgT L xs) 54) 18 = .ok (.iload_n 3, 1) := by
  show decode prog_9_method_13_code 18 = _
  decide +kernel
theorem d54_19 (L : Nat) (xs : Nat → Int32) : decode (ax_code (mgT L xs) 54) 19 = .ok (.isub, 1) := by
  show decode prog_9_method_13_code 19 = _
  decide +kernel
theorem d54_20 (L : Nat) (xs : Nat → Int32) : decode (ax_code (mgT L xs) 54) 20 = .ok (.if_icmp .eq 5, 3) := by
  show decode prog_9_method_13_code 20 = _
  decide +kernel
theorem d54_23 (L : Nat) (xs : Nat → Int32) : decode (ax_code (mgT L xs) 54) 23 = .ok (.iconst 0, 1) := by
  show decode prog_9_method_13_code 23 = _
  decide +kernel
theorem d54_24 (L : Nat) (xs : Nat → Int32) : decode (ax_code (mgT L xs) 54) 24 = .ok (.ireturn, 1) := by
  show decode prog_9_method_13_code 24 = _
  decide +kernel
theorem d54_25 (L : Nat) (xs : Nat → Int32) : decode (ax_code (mgT L xs) 54) 25 = .ok (.iload_n 1, 1) := by
  show decode prog_9_method_13_code 25 = _
  decide +kernel
theorem d54_26 (L : Nat) (xs : Nat → Int32) : decode (ax_code (mgT L xs) 54) 26 = .ok (.istore 4, 2) := by
  show decode prog_9_method_13_code 26 = _
  decide +kernel
theorem d54_28 (L : Nat) (xs : Nat → Int32) : decode (ax_code (mgT L xs) 54) 28 = .ok (.iload 4, 2) := by
  show decode prog_9_method_13_code 28 = _
  decide +kernel
theorem d54_30 (L : Nat) (xs : Nat → Int32) : decode (ax_code (mgT L xs) 54) 30 = .ok (.aload_n 0, 1) := by
  show decode prog_9_method_13_code 30 = _
  decide +kernel
theorem d54_31 (L : Nat) (xs : Nat → Int32) : decode (ax_code (mgT L xs) 54) 31 = .ok (.getfield 15, 3) := by
  show decode prog_9_method_13_code 31 = _
  decide +kernel
theorem d54_34 (L : Nat) (xs : Nat → Int32) : decode (ax_code (mgT L xs) 54) 34 = .ok (.if_icmp .ge 32, 3) := by
  show decode prog_9_method_13_code 34 = _
  decide +kernel
theorem d54_37 (L : Nat) (xs : Nat → Int32) : decode (ax_code (mgT L xs) 54) 37 = .ok (.aload_n 0, 1) := by
  show decode prog_9_method_13_code 37 = _
  decide +kernel
theorem d54_38 (L : Nat) (xs : Nat → Int32) : decode (ax_code (mgT L xs) 54) 38 = .ok (.getfield 9, 3) := by
  show decode prog_9_method_13_code 38 = _
  decide +kernel
theorem d54_41 (L : Nat) (xs : Nat → Int32) : decode (ax_code (mgT L xs) 54) 41 = .ok (.iload 4, 2) := by
  show decode prog_9_method_13_code 41 = _
  decide +kernel
theorem d54_43 (L : Nat) (xs : Nat → Int32) : decode (ax_code (mgT L xs) 54) 43 = .ok (.caload, 1) := by
  show decode prog_9_method_13_code 43 = _
  decide +kernel
theorem d54_44 (L : Nat) (xs : Nat → Int32) : decode (ax_code (mgT L xs) 54) 44 = .ok (.aload_n 2, 1) := by
  show decode prog_9_method_13_code 44 = _
  decide +kernel
theorem d54_45 (L : Nat) (xs : Nat → Int32) : decode (ax_code (mgT L xs) 54) 45 = .ok (.getfield 9, 3) := by
  show decode prog_9_method_13_code 45 = _
  decide +kernel
theorem d54_48 (L : Nat) (xs : Nat → Int32) : decode (ax_code (mgT L xs) 54) 48 = .ok (.iload_n 3, 1) := by
  show decode prog_9_method_13_code 48 = _
  decide +kernel
theorem d54_49 (L : Nat) (xs : Nat → Int32) : decode (ax_code (mgT L xs) 54) 49 = .ok (.iload 4, 2) := by
  show decode prog_9_method_13_code 49 = _
  decide +kernel
theorem d54_51 (L : Nat) (xs : Nat → Int32) : decode (ax_code (mgT L xs) 54) 51 = .ok (.iadd, 1) := by
  show decode prog_9_method_13_code 51 = _
  decide +kernel
theorem d54_52 (L : Nat) (xs : Nat → Int32) : decode (ax_code (mgT L xs) 54) 52 = .ok (.iload_n 1, 1) := by
  show decode prog_9_method_13_code 52 = _
  decide +kernel
theorem d54_53 (L : Nat) (xs : Nat → Int32) : decode (ax_code (mgT L xs) 54) 53 = .ok (.isub, 1) := by
  show decode prog_9_method_13_code 53 = _
  decide +kernel
theorem d54_54 (L : Nat) (xs : Nat → Int32) : decode (ax_code (mgT L xs) 54) 54 = .ok (.caload, 1) := by
  show decode prog_9_method_13_code 54 = _
  decide +kernel
theorem d54_55 (L : Nat) (xs : Nat → Int32) : decode (ax_code (mgT L xs) 54) 55 = .ok (.if_icmp .eq 5, 3) := by
  show decode prog_9_method_13_code 55 = _
  decide +kernel
theorem d54_58 (L : Nat) (xs : Nat → Int32) : decode (ax_code (mgT L xs) 54) 58 = .ok (.iconst 0, 1) := by
  show decode prog_9_method_13_code 58 = _
  decide +kernel
theorem d54_59 (L : Nat) (xs : Nat → Int32) : decode (ax_code (mgT L xs) 54) 59 = .ok (.ireturn, 1) := by
  show decode prog_9_method_13_code 59 = _
  decide +kernel
theorem d54_60 (L : Nat) (xs : Nat → Int32) : decode (ax_code (mgT L xs) 54) 60 = .ok (.iinc 4 1, 3) := by
  show decode prog_9_method_13_code 60 = _
  decide +kernel
theorem d54_63 (L : Nat) (xs : Nat → Int32) : decode (ax_code (mgT L xs) 54) 63 = .ok (.goto (-35), 3) := by
  show decode prog_9_method_13_code 63 = _
  decide +kernel
theorem d54_66 (L : Nat) (xs : Nat → Int32) : decode (ax_code (mgT L xs) 54) 66 = .ok (.iconst 1, 1) := by
  show decode prog_9_method_13_code 66 = _
  decide +kernel
theorem d54_67 (L : Nat) (xs : Nat → Int32) : decode (ax_code (mgT L xs) 54) 67 = .ok (.ireturn, 1) := by
  show decode prog_9_method_13_code 67 = _
  decide +kernel
section TXD
variable {L : Nat} {xs : Nat → Int32} {d : Nat} {s : mg_s} {a n b n2 : Nat}
theorem tx_same_l {fr fr2 : Nat} (H : isT a) (hn : isTx s a n) (H2 : isT b) (hn2 : isTx s b n2) (hf : fr ≤ n) (hf2 : fr2 ≤ n2) (he : n - fr = n2 - fr2) : ∀ (m i : Nat), i + m = n → fr ≤ i → wp L xs d 54 28 [some (.ref a), some (.int (nI fr)), some (.ref b), some (.int (nI fr2)), some (.int (nI i))] [] s (fun v s' => v = some (.int (nI (bI (f_same (t_at s a n) (t_at s b n2) i (fr2 + i - fr) m)))) ∧ s = s') := by
  have hlim := tx_m H
  have hnn := hn.2
  have hlim2 := tx_m H2
  have hnn2 := hn2.2
  intro m
  induction m with
  | zero =>
    intro i hi hfi
    refine wg_iload (d54_28 L xs) rfl ?_
    refine wg_aload_n (d54_30 L xs) rfl ?_
    refine wg_get (d54_31 L xs) (kd := 1) (cj := 1) (k0 := 1) rfl (Or.inl rfl) H.1 (tx_c H) rfl ?_
    refine wg_top (y := (nI n)) hn.1 ?_
    refine wn_icmp_ge (d54_34 L xs) (x := i) (y := n) (by omega) (by omega) (t := 66) (by decide) (fun h1 => ?_) (fun h1 => by omega)
    refine wg_iconst (d54_66 L xs) (x := 1) (by decide) ?_
    exact wg_iret (d54_67 L xs) rfl rfl ⟨rfl, rfl⟩
  | succ m ih =>
    intro i hi hfi
    refine wp_ch (fun hch => ?_)
    have hg0 : t_at s a n i < 65536 := t_at_lt H hn hch
    have hg1 : t_at s b n2 (fr2 + i - fr) < 65536 := t_at_lt H2 hn2 hch
    refine wg_iload (d54_28 L xs) rfl ?_
    refine wg_aload_n (d54_30 L xs) rfl ?_
    refine wg_get (d54_31 L xs) (kd := 1) (cj := 1) (k0 := 1) rfl (Or.inl rfl) H.1 (tx_c H) rfl ?_
    refine wg_top (y := (nI n)) hn.1 ?_
    refine wn_icmp_ge (d54_34 L xs) (x := i) (y := n) (by omega) (by omega) (t := 66) (by decide) (fun h1 => by omega) (fun h1 => ?_)
    refine wg_aload_n (d54_37 L xs) rfl ?_
    refine wg_get (d54_38 L xs) (kd := 1) (cj := 1) (k0 := 0) rfl (Or.inl rfl) H.1 (tx_c H) rfl ?_
    refine wg_iload (d54_41 L xs) rfl ?_
    refine wg_cald (d54_43 L xs) (tx_l H) (tx_d H) (vp_in_nI (n := i) (by omega) (by omega)) ?_
    refine wg_top (y := nI (t_at s a n i)) (by rw [nI_nat (by omega)]; exact tx_ch H hn hch (by omega)) ?_
    refine wg_aload_n (d54_44 L xs) rfl ?_
    refine wg_get (d54_45 L xs) (kd := 1) (cj := 1) (k0 := 0) rfl (Or.inl rfl) H2.1 (tx_c H2) rfl ?_
    refine wg_iload_n (d54_48 L xs) rfl ?_
    refine wg_iload (d54_49 L xs) rfl ?_
    refine wg_iadd (d54_51 L xs) ?_
    refine wg_top (y := (nI (fr2 + i))) (nI_add fr2 i) ?_
    refine wg_iload_n (d54_52 L xs) rfl ?_
    refine wg_isub (d54_53 L xs) ?_
    refine wg_top (y := (nI (fr2 + i - fr))) (pk_sub (a := fr2 + i) (b := fr) (by omega)) ?_
    refine wg_cald (d54_54 L xs) (tx_l H2) (tx_d H2) (vp_in_nI (n := fr2 + i - fr) (by omega) (by omega)) ?_
    refine wg_top (y := nI (t_at s b n2 (fr2 + i - fr))) (by rw [nI_nat (by omega)]; exact tx_ch H2 hn2 hch (by omega)) ?_
    refine wn_icmp_eq (d54_55 L xs) (x := t_at s a n i) (y := t_at s b n2 (fr2 + i - fr)) (by omega) (by omega) (t := 60) (by decide) (fun h2 => ?_) (fun h2 => ?_)
    · refine wg_iinc (d54_60 L xs) (y := (nI (i + 1))) (ls' := [some (.ref a), some (.int (nI fr)), some (.ref b), some (.int (nI fr2)), some (.int (nI (i + 1)))]) rfl (nI_add i 1) rfl ?_
      refine wg_goto (d54_63 L xs) (t := 28) (by decide) ?_
      rw [show f_same (t_at s a n) (t_at s b n2) i (fr2 + i - fr) (m + 1) = f_same (t_at s a n) (t_at s b n2) (i + 1) (fr2 + (i + 1) - fr) m by rw [f_same, decide_eq_true (by omega), Bool.true_and, show fr2 + i - fr + 1 = fr2 + (i + 1) - fr by omega]]; exact ih (i + 1) (by omega) (by omega)
    · refine wg_iconst (d54_58 L xs) (x := 0) (by decide) ?_
      exact wg_iret (d54_59 L xs) rfl rfl ⟨by rw [f_same, decide_eq_false (by omega)]; rfl, rfl⟩
theorem tx_same {fr fr2 : Nat} (H : isT a) (hn : isTx s a n) (H2 : isT b) (hn2 : isTx s b n2) (hf : fr ≤ n) (hf2 : fr2 ≤ n2) : ca L xs (d + 1) 54 [.ref a, .int (nI fr), .ref b, .int (nI fr2)] s (fun v s' => v = some (.int (nI (bI (t_same (t_at s a n) fr n (t_at s b n2) fr2 n2)))) ∧ s = s') := by
  refine wg_call (Nat.le_of_ble_eq_true rfl) ?_
  have hlim := tx_m H
  have hnn := hn.2
  have hlim2 := tx_m H2
  have hnn2 := hn2.2
  show wp L xs d 54 0 [some (.ref a), some (.int (nI fr)), some (.ref b), some (.int (nI fr2)), none] [] s _
  refine wg_iload_n (d54_0 L xs) rfl ?_
  refine wn_if_lt (d54_1 L xs) (x := fr) (by omega) (t := 23) (by decide) (fun h1 => by omega) (fun h1 => ?_)
  refine wg_iload_n (d54_4 L xs) rfl ?_
  refine wn_if_lt (d54_5 L xs) (x := fr2) (by omega) (t := 23) (by decide) (fun h2 => by omega) (fun h2 => ?_)
  refine wg_aload_n (d54_8 L xs) rfl ?_
  refine wg_get (d54_9 L xs) (kd := 1) (cj := 1) (k0 := 1) rfl (Or.inl rfl) H.1 (tx_c H) rfl ?_
  refine wg_top (y := (nI n)) hn.1 ?_
  refine wg_iload_n (d54_12 L xs) rfl ?_
  refine wg_isub (d54_13 L xs) ?_
  refine wg_top (y := (nI (n - fr))) (pk_sub (a := n) (b := fr) (by omega)) ?_
  refine wg_aload_n (d54_14 L xs) rfl ?_
  refine wg_get (d54_15 L xs) (kd := 1) (cj := 1) (k0 := 1) rfl (Or.inl rfl) H2.1 (tx_c H2) rfl ?_
  refine wg_top (y := (nI n2)) hn2.1 ?_
  refine wg_iload_n (d54_18 L xs) rfl ?_
  refine wg_isub (d54_19 L xs) ?_
  refine wg_top (y := (nI (n2 - fr2))) (pk_sub (a := n2) (b := fr2) (by omega)) ?_
  refine wn_icmp_eq (d54_20 L xs) (x := n - fr) (y := n2 - fr2) (by omega) (by omega) (t := 25) (by decide) (fun h3 => ?_) (fun h3 => ?_)
  · refine wg_iload_n (d54_25 L xs) rfl ?_
    refine wg_istore (d54_26 L xs) (ls' := [some (.ref a), some (.int (nI fr)), some (.ref b), some (.int (nI fr2)), some (.int (nI fr))]) (Nat.le_of_ble_eq_true rfl) rfl ?_
    rw [show t_same (t_at s a n) fr n (t_at s b n2) fr2 n2 = f_same (t_at s a n) (t_at s b n2) fr (fr2 + fr - fr) (n - fr) by rw [t_same, decide_eq_true (by omega), Bool.true_and, show fr2 + fr - fr = fr2 by omega]]; exact tx_same_l H hn H2 hn2 hf hf2 (by omega) (n - fr) fr (by omega) (by omega)
  · refine wg_iconst (d54_23 L xs) (x := 0) (by decide) ?_
    exact wg_iret (d54_24 L xs) rfl rfl ⟨by rw [t_same, decide_eq_false (by omega)]; rfl, rfl⟩
theorem tx_same_neg {x : Int32} {fr2 : Nat} (hx : x < 0) : ca L xs (d + 1) 54 [.ref a, .int x, .ref b, .int (nI fr2)] s (fun v s' => v = some (.int (nI (bI false))) ∧ s = s') := by
  refine wg_call (Nat.le_of_ble_eq_true rfl) ?_
  show wp L xs d 54 0 [some (.ref a), some (.int x), some (.ref b), some (.int (nI fr2)), none] [] s _
  refine wg_iload_n (d54_0 L xs) rfl ?_
  refine wg_if_lt (d54_1 L xs) (t := 23) (by decide) (fun h1 => ?_) (fun h1 => absurd hx h1)
  refine wg_iconst (d54_23 L xs) (x := 0) (by decide) ?_
  exact wg_iret (d54_24 L xs) rfl rfl ⟨rfl, rfl⟩
end TXD
