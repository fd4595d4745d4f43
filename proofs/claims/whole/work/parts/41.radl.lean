/-! the reference's address, its loop -/
theorem d113_0 (L : Nat) (xs : Nat → Int32) : decode (ax_code (mgT L xs) 113) 0 = .ok (.iconst 0, 1) := by
  show decode prog_11_method_10_code 0 = _
  decide +kernel
theorem d113_1 (L : Nat) (xs : Nat → Int32) : decode (ax_code (mgT L xs) 113) 1 = .ok (.istore 4, 2) := by
  show decode prog_11_method_10_code 1 = _
  decide +kernel
theorem d113_3 (L : Nat) (xs : Nat → Int32) : decode (ax_code (mgT L xs) 113) 3 = .ok (.iload_n 2, 1) := by
  show decode prog_11_method_10_code 3 = _
  decide +kernel
theorem d113_4 (L : Nat) (xs : Nat → Int32) : decode (ax_code (mgT L xs) 113) 4 = .ok (.istore 5, 2) := by
  show decode prog_11_method_10_code 4 = _
  decide +kernel
theorem d113_6 (L : Nat) (xs : Nat → Int32) : decode (ax_code (mgT L xs) 113) 6 = .ok (.iconst 0, 1) := by
  show decode prog_11_method_10_code 6 = _
  decide +kernel
theorem d113_7 (L : Nat) (xs : Nat → Int32) : decode (ax_code (mgT L xs) 113) 7 = .ok (.istore 6, 2) := by
  show decode prog_11_method_10_code 7 = _
  decide +kernel
theorem d113_9 (L : Nat) (xs : Nat → Int32) : decode (ax_code (mgT L xs) 113) 9 = .ok (.iload 6, 2) := by
  show decode prog_11_method_10_code 9 = _
  decide +kernel
theorem d113_11 (L : Nat) (xs : Nat → Int32) : decode (ax_code (mgT L xs) 113) 11 = .ok (.iconst 4, 1) := by
  show decode prog_11_method_10_code 11 = _
  decide +kernel
theorem d113_12 (L : Nat) (xs : Nat → Int32) : decode (ax_code (mgT L xs) 113) 12 = .ok (.if_icmp .ge 103, 3) := by
  show decode prog_11_method_10_code 12 = _
  decide +kernel
theorem d113_15 (L : Nat) (xs : Nat → Int32) : decode (ax_code (mgT L xs) 113) 15 = .ok (.iload 6, 2) := by
  show decode prog_11_method_10_code 15 = _
  decide +kernel
theorem d113_17 (L : Nat) (xs : Nat → Int32) : decode (ax_code (mgT L xs) 113) 17 = .ok (.ifCond .le 35, 3) := by
  show decode prog_11_method_10_code 17 = _
  decide +kernel
theorem d113_20 (L : Nat) (xs : Nat → Int32) : decode (ax_code (mgT L xs) 113) 20 = .ok (.iload 5, 2) := by
  show decode prog_11_method_10_code 20 = _
  decide +kernel
theorem d113_22 (L : Nat) (xs : Nat → Int32) : decode (ax_code (mgT L xs) 113) 22 = .ok (.iload_n 3, 1) := by
  show decode prog_11_method_10_code 22 = _
  decide +kernel
theorem d113_23 (L : Nat) (xs : Nat → Int32) : decode (ax_code (mgT L xs) 113) 23 = .ok (.if_icmp .ge 22, 3) := by
  show decode prog_11_method_10_code 23 = _
  decide +kernel
theorem d113_26 (L : Nat) (xs : Nat → Int32) : decode (ax_code (mgT L xs) 113) 26 = .ok (.aload_n 1, 1) := by
  show decode prog_11_method_10_code 26 = _
  decide +kernel
theorem d113_27 (L : Nat) (xs : Nat → Int32) : decode (ax_code (mgT L xs) 113) 27 = .ok (.iload 5, 2) := by
  show decode prog_11_method_10_code 27 = _
  decide +kernel
theorem d113_29 (L : Nat) (xs : Nat → Int32) : decode (ax_code (mgT L xs) 113) 29 = .ok (.iload_n 3, 1) := by
  show decode prog_11_method_10_code 29 = _
  decide +kernel
theorem d113_30 (L : Nat) (xs : Nat → Int32) : decode (ax_code (mgT L xs) 113) 30 = .ok (.if_icmp .ge 8, 3) := by
  show decode prog_11_method_10_code 30 = _
  decide +kernel
theorem d113_33 (L : Nat) (xs : Nat → Int32) : decode (ax_code (mgT L xs) 113) 33 = .ok (.iload 5, 2) := by
  show decode prog_11_method_10_code 33 = _
  decide +kernel
theorem d113_35 (L : Nat) (xs : Nat → Int32) : decode (ax_code (mgT L xs) 113) 35 = .ok (.goto 4, 3) := by
  show decode prog_11_method_10_code 35 = _
  decide +kernel
theorem d113_39 (L : Nat) (xs : Nat → Int32) : decode (ax_code (mgT L xs) 113) 39 = .ok (.iaload, 1) := by
  show decode prog_11_method_10_code 39 = _
  decide +kernel
theorem d113_40 (L : Nat) (xs : Nat → Int32) : decode (ax_code (mgT L xs) 113) 40 = .ok (.bipush 46, 2) := by
  show decode prog_11_method_10_code 40 = _
  decide +kernel
theorem d113_42 (L : Nat) (xs : Nat → Int32) : decode (ax_code (mgT L xs) 113) 42 = .ok (.if_icmp .eq 10, 3) := by
  show decode prog_11_method_10_code 42 = _
  decide +kernel
theorem d113_45 (L : Nat) (xs : Nat → Int32) : decode (ax_code (mgT L xs) 113) 45 = .ok (.aload_n 0, 1) := by
  show decode prog_11_method_10_code 45 = _
  decide +kernel
theorem d113_46 (L : Nat) (xs : Nat → Int32) : decode (ax_code (mgT L xs) 113) 46 = .ok (.iconst (-1), 1) := by
  show decode prog_11_method_10_code 46 = _
  decide +kernel
theorem d113_47 (L : Nat) (xs : Nat → Int32) : decode (ax_code (mgT L xs) 113) 47 = .ok (.putfield 96, 3) := by
  show decode prog_11_method_10_code 47 = _
  decide +kernel
theorem d113_50 (L : Nat) (xs : Nat → Int32) : decode (ax_code (mgT L xs) 113) 50 = .ok (.iconst 0, 1) := by
  show decode prog_11_method_10_code 50 = _
  decide +kernel
theorem d113_51 (L : Nat) (xs : Nat → Int32) : decode (ax_code (mgT L xs) 113) 51 = .ok (.ireturn, 1) := by
  show decode prog_11_method_10_code 51 = _
  decide +kernel
theorem d113_52 (L : Nat) (xs : Nat → Int32) : decode (ax_code (mgT L xs) 113) 52 = .ok (.iload 6, 2) := by
  show decode prog_11_method_10_code 52 = _
  decide +kernel
theorem d113_54 (L : Nat) (xs : Nat → Int32) : decode (ax_code (mgT L xs) 113) 54 = .ok (.ifCond .le 10, 3) := by
  show decode prog_11_method_10_code 54 = _
  decide +kernel
theorem d113_57 (L : Nat) (xs : Nat → Int32) : decode (ax_code (mgT L xs) 113) 57 = .ok (.iload 5, 2) := by
  show decode prog_11_method_10_code 57 = _
  decide +kernel
theorem d113_59 (L : Nat) (xs : Nat → Int32) : decode (ax_code (mgT L xs) 113) 59 = .ok (.iconst 1, 1) := by
  show decode prog_11_method_10_code 59 = _
  decide +kernel
theorem d113_60 (L : Nat) (xs : Nat → Int32) : decode (ax_code (mgT L xs) 113) 60 = .ok (.iadd, 1) := by
  show decode prog_11_method_10_code 60 = _
  decide +kernel
theorem d113_61 (L : Nat) (xs : Nat → Int32) : decode (ax_code (mgT L xs) 113) 61 = .ok (.goto 5, 3) := by
  show decode prog_11_method_10_code 61 = _
  decide +kernel
theorem d113_64 (L : Nat) (xs : Nat → Int32) : decode (ax_code (mgT L xs) 113) 64 = .ok (.iload 5, 2) := by
  show decode prog_11_method_10_code 64 = _
  decide +kernel
theorem d113_66 (L : Nat) (xs : Nat → Int32) : decode (ax_code (mgT L xs) 113) 66 = .ok (.istore 5, 2) := by
  show decode prog_11_method_10_code 66 = _
  decide +kernel
theorem d113_115 (L : Nat) (xs : Nat → Int32) : decode (ax_code (mgT L xs) 113) 115 = .ok (.aload_n 0, 1) := by
  show decode prog_11_method_10_code 115 = _
  decide +kernel
theorem d113_116 (L : Nat) (xs : Nat → Int32) : decode (ax_code (mgT L xs) 113) 116 = .ok (.iload 5, 2) := by
  show decode prog_11_method_10_code 116 = _
  decide +kernel
theorem d113_118 (L : Nat) (xs : Nat → Int32) : decode (ax_code (mgT L xs) 113) 118 = .ok (.putfield 96, 3) := by
  show decode prog_11_method_10_code 118 = _
  decide +kernel
theorem d113_121 (L : Nat) (xs : Nat → Int32) : decode (ax_code (mgT L xs) 113) 121 = .ok (.iload 4, 2) := by
  show decode prog_11_method_10_code 121 = _
  decide +kernel
theorem d113_123 (L : Nat) (xs : Nat → Int32) : decode (ax_code (mgT L xs) 113) 123 = .ok (.ireturn, 1) := by
  show decode prog_11_method_10_code 123 = _
  decide +kernel
section MDR
variable {L : Nat} {xs : Nat → Int32} {d : Nat} {q N to : Nat} {g : Nat → Nat}
theorem md_adr_l {fr : Nat} (Hq : isA q N) (hto : to ≤ N) (hN : N < 2 ^ 20) (hf : fr ≤ to) : ∀ (m : Nat) (s : mg_s), (∀ k, k < to → s.2.1 q k = nI (g k) ∧ g k < 65536) → ∀ (v k i : Nat) (c5 : Option Value), i + m = 4 → k ≤ to → wp L xs (d + 2) 113 9 [some (.ref 141), some (.ref q), some (.int (nI fr)), some (.int (nI to)), some (.int (nI v)), some (.int (nI k)), some (.int (nI i)), c5] [] s (fun v2 s' => v2 = some (.int (aI (r_addr g to m v k))) ∧ mg_I s 141 9 (aR (r_addr g to m v k)) = s') := by
  intro m
  induction m with
  | zero =>
    intro s hg v k i c5 hi hk
    refine wg_iload (d113_9 L xs) rfl ?_
    refine wg_iconst (d113_11 L xs) (x := 4) (by decide) ?_
    refine wn_icmp_ge (d113_12 L xs) (x := i) (y := 4) (by omega) (by omega) (t := 115) (by decide) (fun h1 => ?_) (fun h1 => by omega)
    refine wg_aload_n (d113_115 L xs) rfl ?_
    refine wg_iload (d113_116 L xs) rfl ?_
    refine wg_puti (d113_118 L xs) (cj := 9) (k0 := 9) rfl (by decide) rfl (Nat.le_of_ble_eq_true rfl) rfl rfl rfl ?_
    refine wg_iload (d113_121 L xs) rfl ?_
    exact wg_iret (d113_123 L xs) rfl rfl ⟨rfl, rfl⟩
  | succ m ih =>
    intro s hg v k i c5 hi hk
    have hg0 : k < to → g k < 65536 := fun h => (hg k h).2
    refine wg_iload (d113_9 L xs) rfl ?_
    refine wg_iconst (d113_11 L xs) (x := 4) (by decide) ?_
    refine wn_icmp_ge (d113_12 L xs) (x := i) (y := 4) (by omega) (by omega) (t := 115) (by decide) (fun h1 => by omega) (fun h1 => ?_)
    refine wg_iload (d113_15 L xs) rfl ?_
    refine wn_if_le (d113_17 L xs) (x := i) (by omega) (t := 52) (by decide) (fun h2 => ?_) (fun h2 => ?_)
    · refine wg_iload (d113_52 L xs) rfl ?_
      refine wn_if_le (d113_54 L xs) (x := i) (by omega) (t := 64) (by decide) (fun h3 => ?_) (fun h3 => ?_)
      · refine wg_iload (d113_64 L xs) rfl ?_
        refine wg_istore (d113_66 L xs) (ls' := [some (.ref 141), some (.ref q), some (.int (nI fr)), some (.int (nI to)), some (.int (nI v)), some (.int (nI k)), some (.int (nI i)), c5]) (Nat.le_of_ble_eq_true rfl) rfl ?_
        refine md_adr_s (m := m) (o := r_addr g to (m + 1) v k) Hq hg hto hN (by omega) (by omega) (fun e => by rw [r_addr, if_neg (by omega), if_neg (show ¬ m < 3 by omega), e]) (fun b hb e => ?_); rw [show r_addr g to (m + 1) v k = r_addr g to m (v * 256 + b) (r_dg g to k).2 by rw [r_addr, if_neg (by omega), if_neg (show ¬ m < 3 by omega), e]]; have key := ih (mg_I s 141 9 (nI (r_dg g to k).2)) hg (v * 256 + b) (r_dg g to k).2 (i + 1) (some (.int (nI b))) (by omega) (r_dg_le (by omega)); simp only [mg_I_I] at key; exact key
      · refine wg_iload (d113_57 L xs) rfl ?_
        refine wg_iconst (d113_59 L xs) (x := 1) (by decide) ?_
        refine wg_iadd (d113_60 L xs) ?_
        refine wg_top (y := (nI (k + 1))) (nI_add k 1) ?_
        refine wg_goto (d113_61 L xs) (t := 66) (by decide) ?_
        refine wg_istore (d113_66 L xs) (ls' := [some (.ref 141), some (.ref q), some (.int (nI fr)), some (.int (nI to)), some (.int (nI v)), some (.int (nI (k + 1))), some (.int (nI i)), c5]) (Nat.le_of_ble_eq_true rfl) rfl ?_
        refine md_adr_s (m := m) (o := r_addr g to (m + 1) v k) Hq hg hto hN (by omega) (by omega) (fun e => by rw [r_addr, if_neg (by omega), if_pos (show m < 3 by omega), e]) (fun b hb e => ?_); rw [show r_addr g to (m + 1) v k = r_addr g to m (v * 256 + b) (r_dg g to (k + 1)).2 by rw [r_addr, if_neg (by omega), if_pos (show m < 3 by omega), e]]; have key := ih (mg_I s 141 9 (nI (r_dg g to (k + 1)).2)) hg (v * 256 + b) (r_dg g to (k + 1)).2 (i + 1) (some (.int (nI b))) (by omega) (r_dg_le (by omega)); simp only [mg_I_I] at key; exact key
    · refine wg_iload (d113_20 L xs) rfl ?_
      refine wg_iload_n (d113_22 L xs) rfl ?_
      refine wn_icmp_ge (d113_23 L xs) (x := k) (y := to) (by omega) (by omega) (t := 45) (by decide) (fun h4 => ?_) (fun h4 => ?_)
      · refine wg_aload_n (d113_45 L xs) rfl ?_
        refine wg_iconst (d113_46 L xs) (x := (-1)) (by decide) ?_
        refine wg_puti (d113_47 L xs) (cj := 9) (k0 := 9) rfl (by decide) rfl (Nat.le_of_ble_eq_true rfl) rfl rfl rfl ?_
        refine wg_iconst (d113_50 L xs) (x := 0) (by decide) ?_
        exact wg_iret (d113_51 L xs) rfl rfl ⟨by rw [r_addr, if_pos (by omega)]; rfl, by rw [r_addr, if_pos (by omega)]; rfl⟩
      · refine wg_aload_n (d113_26 L xs) rfl ?_
        refine wg_iload (d113_27 L xs) rfl ?_
        refine wg_iload_n (d113_29 L xs) rfl ?_
        refine wn_icmp_ge (d113_30 L xs) (x := k) (y := to) (by omega) (by omega) (t := 38) (by decide) (fun h5 => by omega) (fun h5 => ?_)
        refine wg_iload (d113_33 L xs) rfl ?_
        refine wg_goto (d113_35 L xs) (t := 39) (by decide) ?_
        refine wg_iald (d113_39 L xs) Hq.1 (ar_d Hq) (vp_in_nI (n := k) (by omega) (by omega)) ?_
        refine wg_top (y := nI (g k)) (by rw [nI_nat (by omega)]; exact (hg k (by omega)).1) ?_
        refine wg_bipush (d113_40 L xs) (x := 46) (by decide) ?_
        refine wn_icmp_eq (d113_42 L xs) (x := g k) (y := 46) (by omega) (by omega) (t := 52) (by decide) (fun h6 => ?_) (fun h6 => ?_)
        · refine wg_iload (d113_52 L xs) rfl ?_
          refine wn_if_le (d113_54 L xs) (x := i) (by omega) (t := 64) (by decide) (fun h7 => ?_) (fun h7 => ?_)
          · refine wg_iload (d113_64 L xs) rfl ?_
            refine wg_istore (d113_66 L xs) (ls' := [some (.ref 141), some (.ref q), some (.int (nI fr)), some (.int (nI to)), some (.int (nI v)), some (.int (nI k)), some (.int (nI i)), c5]) (Nat.le_of_ble_eq_true rfl) rfl ?_
            refine md_adr_s (m := m) (o := r_addr g to (m + 1) v k) Hq hg hto hN (by omega) (by omega) (fun e => by rw [r_addr, if_neg (by omega), if_neg (show ¬ m < 3 by omega), e]) (fun b hb e => ?_); rw [show r_addr g to (m + 1) v k = r_addr g to m (v * 256 + b) (r_dg g to k).2 by rw [r_addr, if_neg (by omega), if_neg (show ¬ m < 3 by omega), e]]; have key := ih (mg_I s 141 9 (nI (r_dg g to k).2)) hg (v * 256 + b) (r_dg g to k).2 (i + 1) (some (.int (nI b))) (by omega) (r_dg_le (by omega)); simp only [mg_I_I] at key; exact key
          · refine wg_iload (d113_57 L xs) rfl ?_
            refine wg_iconst (d113_59 L xs) (x := 1) (by decide) ?_
            refine wg_iadd (d113_60 L xs) ?_
            refine wg_top (y := (nI (k + 1))) (nI_add k 1) ?_
            refine wg_goto (d113_61 L xs) (t := 66) (by decide) ?_
            refine wg_istore (d113_66 L xs) (ls' := [some (.ref 141), some (.ref q), some (.int (nI fr)), some (.int (nI to)), some (.int (nI v)), some (.int (nI (k + 1))), some (.int (nI i)), c5]) (Nat.le_of_ble_eq_true rfl) rfl ?_
            refine md_adr_s (m := m) (o := r_addr g to (m + 1) v k) Hq hg hto hN (by omega) (by omega) (fun e => by rw [r_addr, if_neg (by omega), if_pos (show m < 3 by omega), e]) (fun b hb e => ?_); rw [show r_addr g to (m + 1) v k = r_addr g to m (v * 256 + b) (r_dg g to (k + 1)).2 by rw [r_addr, if_neg (by omega), if_pos (show m < 3 by omega), e]]; have key := ih (mg_I s 141 9 (nI (r_dg g to (k + 1)).2)) hg (v * 256 + b) (r_dg g to (k + 1)).2 (i + 1) (some (.int (nI b))) (by omega) (r_dg_le (by omega)); simp only [mg_I_I] at key; exact key
        · refine wg_aload_n (d113_45 L xs) rfl ?_
          refine wg_iconst (d113_46 L xs) (x := (-1)) (by decide) ?_
          refine wg_puti (d113_47 L xs) (cj := 9) (k0 := 9) rfl (by decide) rfl (Nat.le_of_ble_eq_true rfl) rfl rfl rfl ?_
          refine wg_iconst (d113_50 L xs) (x := 0) (by decide) ?_
          exact wg_iret (d113_51 L xs) rfl rfl ⟨by rw [r_addr, if_pos (by omega)]; rfl, by rw [r_addr, if_pos (by omega)]; rfl⟩
theorem md_readAddress {s : mg_s} {fr : Nat} (Hq : isA q N) (hg : ∀ k, k < to → s.2.1 q k = nI (g k) ∧ g k < 65536) (hto : to ≤ N) (hN : N < 2 ^ 20) (hf : fr ≤ to) : ca L xs (d + 3) 113 [.ref 141, .ref q, .int (nI fr), .int (nI to)] s (fun v2 s' => v2 = some (.int (aI (r_addr g to 4 0 fr))) ∧ mg_I s 141 9 (aR (r_addr g to 4 0 fr)) = s') := by
  refine wg_call (Nat.le_of_ble_eq_true rfl) ?_
  show wp L xs (d + 2) 113 0 [some (.ref 141), some (.ref q), some (.int (nI fr)), some (.int (nI to)), none, none, none, none] [] s _
  refine wg_iconst (d113_0 L xs) (x := 0) (by decide) ?_
  refine wg_istore (d113_1 L xs) (ls' := [some (.ref 141), some (.ref q), some (.int (nI fr)), some (.int (nI to)), some (.int 0), none, none, none]) (Nat.le_of_ble_eq_true rfl) rfl ?_
  refine wg_iload_n (d113_3 L xs) rfl ?_
  refine wg_istore (d113_4 L xs) (ls' := [some (.ref 141), some (.ref q), some (.int (nI fr)), some (.int (nI to)), some (.int 0), some (.int (nI fr)), none, none]) (Nat.le_of_ble_eq_true rfl) rfl ?_
  refine wg_iconst (d113_6 L xs) (x := 0) (by decide) ?_
  refine wg_istore (d113_7 L xs) (ls' := [some (.ref 141), some (.ref q), some (.int (nI fr)), some (.int (nI to)), some (.int 0), some (.int (nI fr)), some (.int 0), none]) (Nat.le_of_ble_eq_true rfl) rfl ?_
  exact md_adr_l Hq hto hN hf 4 s hg 0 fr 0 none (by omega) hf
end MDR
