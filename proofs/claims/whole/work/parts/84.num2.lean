/-! numbers and addresses of the reference, read in a part of an array -/
section NUZ
variable {L : Nat} {xs : Nat → Int32} {d : Nat} {s : mg_s}
theorem md_num_eZ {q N fr to most : Nat} {g : Nat → Nat} (Hq : isA q N) {f0 : Nat} (hg : ∀ k, f0 ≤ k → k < to → s.2.1 q k = nI (g k) ∧ g k < 65536) (hf0 : f0 ≤ fr) (hto : to ≤ N) (hN : N < 2 ^ 20) (hmo : most < 2 ^ 30) {i v : Nat} (hf : fr ≤ i) (hi : i ≤ to) (h3 : i ≤ fr + 3) (hv : v < 1000) (hft : fr < to ∨ i = fr) : wp L xs (d + 1) 114 51 [some (.ref 141), some (.ref q), some (.int (nI fr)), some (.int (nI to)), some (.int (nI most)), some (.int (nI i)), some (.int (nI v))] [] s (fun v2 s' => v2 = some (.int (oI (r_num g fr most (v, i)))) ∧ mg_I s 141 9 (nI (v, i).2) = s') := by
  have hg0 : fr < to → g fr < 65536 := fun h => (hg fr hf0 h).2
  refine wg_aload_n (d114_51 L xs) rfl ?_
  refine wg_iload (d114_52 L xs) rfl ?_
  refine wg_puti (d114_54 L xs) (cj := 9) (k0 := 9) rfl (by decide) rfl (Nat.le_of_ble_eq_true rfl) rfl rfl rfl ?_
  refine wg_iload (d114_57 L xs) rfl ?_
  refine wg_iload_n (d114_59 L xs) rfl ?_
  refine wn_icmp_eq (d114_60 L xs) (x := i) (y := fr) (by omega) (by omega) (t := 86) (by decide) (fun h1 => ?_) (fun h1 => ?_)
  · refine wg_iconst (d114_86 L xs) (x := (-1)) (by decide) ?_
    refine wg_goto (d114_87 L xs) (t := 92) (by decide) ?_
    exact wg_iret (d114_92 L xs) rfl rfl ⟨by rw [r_num, if_pos (by omega)]; rfl, rfl⟩
  · refine wg_iload (d114_63 L xs) rfl ?_
    refine wg_iload (d114_65 L xs) rfl ?_
    refine wn_icmp_gt (d114_67 L xs) (x := v) (y := most) (by omega) (by omega) (t := 86) (by decide) (fun h2 => ?_) (fun h2 => ?_)
    · refine wg_iconst (d114_86 L xs) (x := (-1)) (by decide) ?_
      refine wg_goto (d114_87 L xs) (t := 92) (by decide) ?_
      exact wg_iret (d114_92 L xs) rfl rfl ⟨by rw [r_num, if_pos (by omega)]; rfl, rfl⟩
    · refine wg_iload (d114_70 L xs) rfl ?_
      refine wg_iload_n (d114_72 L xs) rfl ?_
      refine wg_iconst (d114_73 L xs) (x := 1) (by decide) ?_
      refine wg_iadd (d114_74 L xs) ?_
      refine wg_top (y := (nI (fr + 1))) (nI_add fr 1) ?_
      refine wn_icmp_le (d114_75 L xs) (x := i) (y := fr + 1) (by omega) (by omega) (t := 90) (by decide) (fun h3 => ?_) (fun h3 => ?_)
      · refine wg_iload (d114_90 L xs) rfl ?_
        exact wg_iret (d114_92 L xs) rfl rfl ⟨by rw [r_num, if_neg (by omega)]; rfl, rfl⟩
      · refine wg_aload_n (d114_78 L xs) rfl ?_
        refine wg_iload_n (d114_79 L xs) rfl ?_
        refine wg_iald (d114_80 L xs) Hq.1 (ar_d Hq) (vp_in_nI (n := fr) (by omega) (by omega)) ?_
        refine wg_top (y := nI (g fr)) (by rw [nI_nat (by omega)]; exact (hg fr (by omega) (by omega)).1) ?_
        refine wg_bipush (d114_81 L xs) (x := 48) (by decide) ?_
        refine wn_icmp_ne (d114_83 L xs) (x := g fr) (y := 48) (by omega) (by omega) (t := 90) (by decide) (fun h4 => ?_) (fun h4 => ?_)
        · refine wg_iload (d114_90 L xs) rfl ?_
          exact wg_iret (d114_92 L xs) rfl rfl ⟨by rw [r_num, if_neg (by omega)]; rfl, rfl⟩
        · refine wg_iconst (d114_86 L xs) (x := (-1)) (by decide) ?_
          refine wg_goto (d114_87 L xs) (t := 92) (by decide) ?_
          exact wg_iret (d114_92 L xs) rfl rfl ⟨by rw [r_num, if_pos (by omega)]; rfl, rfl⟩
theorem md_num_lZ {q N fr to most : Nat} {g : Nat → Nat} (Hq : isA q N) {f0 : Nat} (hg : ∀ k, f0 ≤ k → k < to → s.2.1 q k = nI (g k) ∧ g k < 65536) (hf0 : f0 ≤ fr) (hto : to ≤ N) (hN : N < 2 ^ 20) (hmo : most < 2 ^ 30) : ∀ (m i v : Nat), i + m = (if fr + 3 ≤ to then fr + 3 else to) → fr ≤ i → m ≤ 3 → (m = 0 → v < 1000) → (m = 1 → v < 100) → (m = 2 → v < 10) → (m = 3 → v < 1) → (fr < to ∨ i = fr) → wp L xs (d + 1) 114 6 [some (.ref 141), some (.ref q), some (.int (nI fr)), some (.int (nI to)), some (.int (nI most)), some (.int (nI i)), some (.int (nI v))] [] s (fun v2 s' => v2 = some (.int (oI (r_num g fr most (f_digs g v i m)))) ∧ mg_I s 141 9 (nI (f_digs g v i m).2) = s') := by
  intro m
  induction m with
  | zero =>
    intro i v hi hfi h30 h31 h32 h33 h34 hft
    have hi2 : i = fr + 3 ∧ fr + 3 ≤ to ∨ i = to ∧ to < fr + 3 := by split at hi <;> omega
    have fin := md_num_eZ (L := L) (xs := xs) (d := d) Hq hg (by omega) hto hN hmo (i := i) (v := v) hfi (by omega) (by omega) (by omega) hft
    refine wg_iload (d114_6 L xs) rfl ?_
    refine wg_iload_n (d114_8 L xs) rfl ?_
    refine wn_icmp_ge (d114_9 L xs) (x := i) (y := to) (by omega) (by omega) (t := 51) (by decide) (fun h1 => ?_) (fun h1 => ?_)
    · exact fin
    · refine wg_iload (d114_12 L xs) rfl ?_
      refine wg_iload_n (d114_14 L xs) rfl ?_
      refine wg_iconst (d114_15 L xs) (x := 3) (by decide) ?_
      refine wg_iadd (d114_16 L xs) ?_
      refine wg_top (y := (nI (fr + 3))) (nI_add fr 3) ?_
      refine wn_icmp_ge (d114_17 L xs) (x := i) (y := fr + 3) (by omega) (by omega) (t := 51) (by decide) (fun h2 => ?_) (fun h2 => by omega)
      exact fin
  | succ m ih =>
    intro i v hi hfi h30 h31 h32 h33 h34 hft
    have hi2 : i < fr + 3 ∧ i < to := by split at hi <;> omega
    have hg0 := (hg i (by omega) hi2.2).2
    have hb2 := bI_lt (c_dig (g i))
    have fin := md_num_eZ (L := L) (xs := xs) (d := d) Hq hg (by omega) hto hN hmo (i := i) (v := v) hfi (by omega) (by omega) (by omega) hft
    refine wg_iload (d114_6 L xs) rfl ?_
    refine wg_iload_n (d114_8 L xs) rfl ?_
    refine wn_icmp_ge (d114_9 L xs) (x := i) (y := to) (by omega) (by omega) (t := 51) (by decide) (fun h1 => by omega) (fun h1 => ?_)
    refine wg_iload (d114_12 L xs) rfl ?_
    refine wg_iload_n (d114_14 L xs) rfl ?_
    refine wg_iconst (d114_15 L xs) (x := 3) (by decide) ?_
    refine wg_iadd (d114_16 L xs) ?_
    refine wg_top (y := (nI (fr + 3))) (nI_add fr 3) ?_
    refine wn_icmp_ge (d114_17 L xs) (x := i) (y := fr + 3) (by omega) (by omega) (t := 51) (by decide) (fun h2 => by omega) (fun h2 => ?_)
    refine wg_aload_n (d114_20 L xs) rfl ?_
    refine wg_iload (d114_21 L xs) rfl ?_
    refine wg_iald (d114_23 L xs) Hq.1 (ar_d Hq) (vp_in_nI (n := i) (by omega) (by omega)) ?_
    refine wg_top (y := nI (g i)) (by rw [nI_nat (by omega)]; exact (hg i (by omega) (by omega)).1) ?_
    refine wg_invs (d114_24 L xs) (kd := 6) (mj := 112) (n := 1) rfl (Or.inl rfl) (ys := [.int (nI (g i))]) (r := []) rfl rfl (Nat.le_of_ble_eq_true rfl) (md_dig (by omega)) ?_
    rintro _ _ ⟨rfl, rfl⟩
    refine wn_if_eq (d114_27 L xs) (x := bI (c_dig (g i))) (by omega) (t := 51) (by decide) (fun h3 => ?_) (fun h3 => ?_)
    · rw [show f_digs g v i (m + 1) = (v, i) from if_neg (by rw [bI_f (b := c_dig (g i)) (by omega)]; decide)]; exact fin
    · refine wg_bipush (d114_30 L xs) (x := 10) (by decide) ?_
      refine wg_iload (d114_32 L xs) rfl ?_
      refine wg_imul (d114_34 L xs) ?_
      refine wg_top (y := (nI (10 * v))) (pk_mul 10 v) ?_
      refine wg_aload_n (d114_35 L xs) rfl ?_
      refine wg_iload (d114_36 L xs) rfl ?_
      refine wg_iald (d114_38 L xs) Hq.1 (ar_d Hq) (vp_in_nI (n := i) (by omega) (by omega)) ?_
      refine wg_top (y := nI (g i)) (by rw [nI_nat (by omega)]; exact (hg i (by omega) (by omega)).1) ?_
      refine wg_iadd (d114_39 L xs) ?_
      refine wg_top (y := (nI ((10 * v) + (g i)))) (nI_add (10 * v) (g i)) ?_
      refine wg_bipush (d114_40 L xs) (x := 48) (by decide) ?_
      refine wg_isub (d114_42 L xs) ?_
      refine wg_top (y := (nI (10 * v + g i - 48))) (pk_sub (a := 10 * v + g i) (b := 48) (by have := dig_le (bI_t (b := c_dig (g i)) (by omega)); omega)) ?_
      refine wg_istore (d114_43 L xs) (ls' := [some (.ref 141), some (.ref q), some (.int (nI fr)), some (.int (nI to)), some (.int (nI most)), some (.int (nI i)), some (.int (nI (10 * v + g i - 48)))]) (Nat.le_of_ble_eq_true rfl) rfl ?_
      refine wg_iinc (d114_45 L xs) (y := (nI (i + 1))) (ls' := [some (.ref 141), some (.ref q), some (.int (nI fr)), some (.int (nI to)), some (.int (nI most)), some (.int (nI (i + 1))), some (.int (nI (10 * v + g i - 48)))]) rfl (nI_add i 1) rfl ?_
      refine wg_goto (d114_48 L xs) (t := 6) (by decide) ?_
      have hdl := dig_le (bI_t (b := c_dig (g i)) (by omega)); rw [show f_digs g v i (m + 1) = f_digs g (10 * v + g i - 48) (i + 1) m from if_pos (bI_t (by omega))]; exact ih (i + 1) _ (by omega) (by omega) (by omega) (by omega) (by omega) (by omega) (by omega) (by omega)
theorem md_numberZ {q N fr to most : Nat} {g : Nat → Nat} (Hq : isA q N) {f0 : Nat} (hg : ∀ k, f0 ≤ k → k < to → s.2.1 q k = nI (g k) ∧ g k < 65536) (hf0 : f0 ≤ fr) (hto : to ≤ N) (hN : N < 2 ^ 20) (hmo : most < 2 ^ 30) (hf : fr ≤ to) : ca L xs (d + 2) 114 [.ref 141, .ref q, .int (nI fr), .int (nI to), .int (nI most)] s (fun v2 s' => v2 = some (.int (oI (r_num g fr most (f_digs g 0 fr ((if fr + 3 ≤ to then fr + 3 else to) - fr))))) ∧ mg_I s 141 9 (nI (f_digs g 0 fr ((if fr + 3 ≤ to then fr + 3 else to) - fr)).2) = s') := by
  refine wg_call (Nat.le_of_ble_eq_true rfl) ?_
  show wp L xs (d + 1) 114 0 [some (.ref 141), some (.ref q), some (.int (nI fr)), some (.int (nI to)), some (.int (nI most)), none, none] [] s _
  refine wg_iload_n (d114_0 L xs) rfl ?_
  refine wg_istore (d114_1 L xs) (ls' := [some (.ref 141), some (.ref q), some (.int (nI fr)), some (.int (nI to)), some (.int (nI most)), some (.int (nI fr)), none]) (Nat.le_of_ble_eq_true rfl) rfl ?_
  refine wg_iconst (d114_3 L xs) (x := 0) (by decide) ?_
  refine wg_istore (d114_4 L xs) (ls' := [some (.ref 141), some (.ref q), some (.int (nI fr)), some (.int (nI to)), some (.int (nI most)), some (.int (nI fr)), some (.int 0)]) (Nat.le_of_ble_eq_true rfl) rfl ?_
  exact md_num_lZ Hq hg (by omega) hto hN hmo _ fr 0 (by split <;> omega) (by omega) (by split <;> omega) (by omega) (by omega) (by omega) (by omega) (Or.inr rfl)
end NUZ
theorem f_digs_ge {g : Nat → Nat} : ∀ (m v i : Nat), i ≤ (f_digs g v i m).2 := by
  intro m
  induction m with
  | zero => intro v i; exact Nat.le_refl _
  | succ m ih =>
    intro v i
    rw [f_digs]
    split
    · exact Nat.le_trans (by omega) (ih _ (i + 1))
    · exact Nat.le_refl _
theorem r_dg_ge {g : Nat → Nat} {to k : Nat} : k ≤ (r_dg g to k).2 := f_digs_ge _ _ _
section MDZ
variable {L : Nat} {xs : Nat → Int32} {d : Nat} {q N to : Nat} {g : Nat → Nat}
theorem md_numNZ {s : mg_s} {fr most : Nat} (Hq : isA q N) {f0 : Nat} (hg : ∀ k, f0 ≤ k → k < to → s.2.1 q k = nI (g k) ∧ g k < 65536) (hf0 : f0 ≤ fr) (hto : to ≤ N) (hN : N < 2 ^ 20) (hmo : most < 2 ^ 30) (hf : fr ≤ to) (hq : r_num g fr most (r_dg g to fr) = none) : ca L xs (d + 2) 114 [.ref 141, .ref q, .int (nI fr), .int (nI to), .int (nI most)] s (fun v s' => v = some (.int (-1)) ∧ mg_I s 141 9 (nI (r_dg g to fr).2) = s') := by
  have key := md_numberZ (L := L) (xs := xs) (d := d) Hq hg (by omega) hto hN hmo hf
  unfold r_dg at hq
  rw [hq] at key; exact key
theorem md_numSZ {b : Nat} {s : mg_s} {fr most : Nat} (Hq : isA q N) {f0 : Nat} (hg : ∀ k, f0 ≤ k → k < to → s.2.1 q k = nI (g k) ∧ g k < 65536) (hf0 : f0 ≤ fr) (hto : to ≤ N) (hN : N < 2 ^ 20) (hmo : most < 2 ^ 30) (hf : fr ≤ to) (hq : r_num g fr most (r_dg g to fr) = some b) : ca L xs (d + 2) 114 [.ref 141, .ref q, .int (nI fr), .int (nI to), .int (nI most)] s (fun v s' => v = some (.int (nI b)) ∧ mg_I s 141 9 (nI (r_dg g to fr).2) = s') := by
  have key := md_numberZ (L := L) (xs := xs) (d := d) Hq hg (by omega) hto hN hmo hf
  unfold r_dg at hq
  rw [hq] at key; exact key
theorem md_adr_sZ {s : mg_s} {fr m v k i : Nat} {c5 : Option Value} {o : Option (Nat × Nat)} (Hq : isA q N) {f0 : Nat} (hg : ∀ k, f0 ≤ k → k < to → s.2.1 q k = nI (g k) ∧ g k < 65536) (hf0 : f0 ≤ k) (hto : to ≤ N) (hN : N < 2 ^ 20) (hk : k ≤ to) (hi : i < 4) (ho1 : r_num g k 255 (r_dg g to k) = none → o = none) (kk : ∀ b, b ≤ 255 → r_num g k 255 (r_dg g to k) = some b → wp L xs (d + 2) 113 9 [some (.ref 141), some (.ref q), some (.int (nI fr)), some (.int (nI to)), some (.int (nI (v * 256 + b))), some (.int (nI (r_dg g to k).2)), some (.int (nI (i + 1))), some (.int (nI b))] [] (mg_I s 141 9 (nI (r_dg g to k).2)) (fun v2 s' => v2 = some (.int (aI (o))) ∧ mg_I s 141 9 (aR (o)) = s')) : wp L xs (d + 2) 113 68 [some (.ref 141), some (.ref q), some (.int (nI fr)), some (.int (nI to)), some (.int (nI v)), some (.int (nI k)), some (.int (nI i)), c5] [] s (fun v2 s' => v2 = some (.int (aI (o))) ∧ mg_I s 141 9 (aR (o)) = s') := by
  cases hq : r_num g k 255 (r_dg g to k) with
  | none =>
    rw [ho1 hq]
    refine wg_aload_n (d113_68 L xs) rfl ?_
    refine wg_aload_n (d113_69 L xs) rfl ?_
    refine wg_iload (d113_70 L xs) rfl ?_
    refine wg_iload_n (d113_72 L xs) rfl ?_
    refine wg_sipush (d113_73 L xs) (x := 255) (by decide) ?_
    refine wg_invv (d113_76 L xs) (kd := 7) (mj := 114) (n := 4) rfl (Or.inl rfl) (ys := [.int 255, .int (nI to), .int (nI k), .ref q]) (r := []) rfl rfl (by decide) rfl rfl (Nat.le_of_ble_eq_true rfl) (md_numNZ (fr := k) (to := to) (most := 255) Hq hg (by omega) hto hN (by omega) (by omega) hq) ?_
    rintro _ _ ⟨rfl, rfl⟩
    refine wg_istore (d113_79 L xs) (ls' := [some (.ref 141), some (.ref q), some (.int (nI fr)), some (.int (nI to)), some (.int (nI v)), some (.int (nI k)), some (.int (nI i)), some (.int (-1))]) (Nat.le_of_ble_eq_true rfl) rfl ?_
    refine wg_iload (d113_81 L xs) rfl ?_
    refine wg_if_ge (d113_83 L xs) (t := 93) (by decide) (fun hp => absurd hp (by decide)) (fun _ => ?_)
    refine wg_aload_n (d113_86 L xs) rfl ?_
    refine wg_iconst (d113_87 L xs) (x := (-1)) (by decide) ?_
    refine wg_puti (d113_88 L xs) (cj := 9) (k0 := 9) rfl (by decide) rfl (Nat.le_of_ble_eq_true rfl) rfl rfl rfl ?_
    refine wg_iconst (d113_91 L xs) (x := 0) (by decide) ?_
    exact wg_iret (d113_92 L xs) rfl rfl ⟨rfl, (mg_I_I _ _ _ _ _).symm⟩
  | some b =>
    have hb := r_num_le hq
    refine wg_aload_n (d113_68 L xs) rfl ?_
    refine wg_aload_n (d113_69 L xs) rfl ?_
    refine wg_iload (d113_70 L xs) rfl ?_
    refine wg_iload_n (d113_72 L xs) rfl ?_
    refine wg_sipush (d113_73 L xs) (x := 255) (by decide) ?_
    refine wg_invv (d113_76 L xs) (kd := 7) (mj := 114) (n := 4) rfl (Or.inl rfl) (ys := [.int 255, .int (nI to), .int (nI k), .ref q]) (r := []) rfl rfl (by decide) rfl rfl (Nat.le_of_ble_eq_true rfl) (md_numSZ (fr := k) (to := to) (most := 255) Hq hg (by omega) hto hN (by omega) (by omega) hq) ?_
    rintro _ _ ⟨rfl, rfl⟩
    refine wg_istore (d113_79 L xs) (ls' := [some (.ref 141), some (.ref q), some (.int (nI fr)), some (.int (nI to)), some (.int (nI v)), some (.int (nI k)), some (.int (nI i)), some (.int (nI b))]) (Nat.le_of_ble_eq_true rfl) rfl ?_
    refine wg_iload (d113_81 L xs) rfl ?_
    refine wn_if_ge (d113_83 L xs) (x := b) (by omega) (t := 93) (by decide) (fun h1 => ?_) (fun h1 => by omega)
    refine wg_aload_n (d113_93 L xs) rfl ?_
    refine wg_get (d113_94 L xs) (kd := 1) (cj := 9) (k0 := 9) rfl (Or.inl rfl) (by decide) rfl rfl ?_
    refine wg_top (y := nI (r_dg g to k).2) rfl ?_
    refine wg_istore (d113_97 L xs) (ls' := [some (.ref 141), some (.ref q), some (.int (nI fr)), some (.int (nI to)), some (.int (nI v)), some (.int (nI ((r_dg g to k).2))), some (.int (nI i)), some (.int (nI b))]) (Nat.le_of_ble_eq_true rfl) rfl ?_
    refine wg_iload (d113_99 L xs) rfl ?_
    refine wg_bipush (d113_101 L xs) (x := 8) (by decide) ?_
    refine wg_ishl (d113_103 L xs) ?_
    refine wg_iload (d113_104 L xs) rfl ?_
    refine wg_ior (d113_106 L xs) ?_
    refine wg_top (y := nI (v * 256 + b)) (ad_n (by omega)) ?_
    refine wg_istore (d113_107 L xs) (ls' := [some (.ref 141), some (.ref q), some (.int (nI fr)), some (.int (nI to)), some (.int (nI (v * 256 + b))), some (.int (nI ((r_dg g to k).2))), some (.int (nI i)), some (.int (nI b))]) (Nat.le_of_ble_eq_true rfl) rfl ?_
    refine wg_iinc (d113_109 L xs) (y := (nI (i + 1))) (ls' := [some (.ref 141), some (.ref q), some (.int (nI fr)), some (.int (nI to)), some (.int (nI (v * 256 + b))), some (.int (nI ((r_dg g to k).2))), some (.int (nI (i + 1))), some (.int (nI b))]) rfl (nI_add i 1) rfl ?_
    refine wg_goto (d113_112 L xs) (t := 9) (by decide) ?_
    exact kk b hb hq
theorem md_adr_lZ {fr f0 : Nat} (Hq : isA q N) (hto : to ≤ N) (hN : N < 2 ^ 20) (hf : fr ≤ to) : ∀ (m : Nat) (s : mg_s), (∀ k, f0 ≤ k → k < to → s.2.1 q k = nI (g k) ∧ g k < 65536) → ∀ (v k i : Nat) (c5 : Option Value), i + m = 4 → k ≤ to → f0 ≤ k → wp L xs (d + 2) 113 9 [some (.ref 141), some (.ref q), some (.int (nI fr)), some (.int (nI to)), some (.int (nI v)), some (.int (nI k)), some (.int (nI i)), c5] [] s (fun v2 s' => v2 = some (.int (aI (r_addr g to m v k))) ∧ mg_I s 141 9 (aR (r_addr g to m v k)) = s') := by
  intro m
  induction m with
  | zero =>
    intro s hg v k i c5 hi hk hf0
    refine wg_iload (d113_9 L xs) rfl ?_
    refine wg_iconst (d113_11 L xs) (x := 4) (by decide) ?_
    refine wn_icmp_ge (d113_12 L xs) (x := i) (y := 4) (by omega) (by omega) (t := 115) (by decide) (fun h1 => ?_) (fun h1 => by omega)
    refine wg_aload_n (d113_115 L xs) rfl ?_
    refine wg_iload (d113_116 L xs) rfl ?_
    refine wg_puti (d113_118 L xs) (cj := 9) (k0 := 9) rfl (by decide) rfl (Nat.le_of_ble_eq_true rfl) rfl rfl rfl ?_
    refine wg_iload (d113_121 L xs) rfl ?_
    exact wg_iret (d113_123 L xs) rfl rfl ⟨rfl, rfl⟩
  | succ m ih =>
    intro s hg v k i c5 hi hk hf0
    have hg0 : k < to → g k < 65536 := fun h => (hg k (by omega) h).2
    refine wg_iload (d113_9 L xs) rfl ?_
    refine wg_iconst (d113_11 L xs) (x := 4) (by decide) ?_
    refine wn_icmp_ge (d113_12 L xs) (x := i) (y := 4) (by omega) (by omega) (t := 115) (by decide) (fun h1 => by omega) (fun h1 => ?_)
    refine wg_iload (d113_15 L xs) rfl ?_
    refine wn_if_le (d113_17 L xs) (x := i) (by omega) (t := 52) (by decide) (fun h2 => ?_) (fun h2 => ?_)
    · refine wg_iload (d113_52 L xs) rfl ?_
      refine wn_if_le (d113_54 L xs) (x := i) (by omega) (t := 64) (by decide) (fun h3 => ?_) (fun h3 => ?_)
      · refine wg_iload (d113_64 L xs) rfl ?_
        refine wg_istore (d113_66 L xs) (ls' := [some (.ref 141), some (.ref q), some (.int (nI fr)), some (.int (nI to)), some (.int (nI v)), some (.int (nI k)), some (.int (nI i)), c5]) (Nat.le_of_ble_eq_true rfl) rfl ?_
        refine md_adr_sZ (m := m) (o := r_addr g to (m + 1) v k) Hq hg (by omega) hto hN (by omega) (by omega) (fun e => by rw [r_addr, if_neg (by omega), if_neg (show ¬ m < 3 by omega), e]) (fun b hb e => ?_); rw [show r_addr g to (m + 1) v k = r_addr g to m (v * 256 + b) (r_dg g to k).2 by rw [r_addr, if_neg (by omega), if_neg (show ¬ m < 3 by omega), e]]; have key := ih (mg_I s 141 9 (nI (r_dg g to k).2)) hg (v * 256 + b) (r_dg g to k).2 (i + 1) (some (.int (nI b))) (by omega) (r_dg_le (by omega)) (Nat.le_trans (by omega) r_dg_ge); simp only [mg_I_I] at key; exact key
      · refine wg_iload (d113_57 L xs) rfl ?_
        refine wg_iconst (d113_59 L xs) (x := 1) (by decide) ?_
        refine wg_iadd (d113_60 L xs) ?_
        refine wg_top (y := (nI (k + 1))) (nI_add k 1) ?_
        refine wg_goto (d113_61 L xs) (t := 66) (by decide) ?_
        refine wg_istore (d113_66 L xs) (ls' := [some (.ref 141), some (.ref q), some (.int (nI fr)), some (.int (nI to)), some (.int (nI v)), some (.int (nI (k + 1))), some (.int (nI i)), c5]) (Nat.le_of_ble_eq_true rfl) rfl ?_
        refine md_adr_sZ (m := m) (o := r_addr g to (m + 1) v k) Hq hg (by omega) hto hN (by omega) (by omega) (fun e => by rw [r_addr, if_neg (by omega), if_pos (show m < 3 by omega), e]) (fun b hb e => ?_); rw [show r_addr g to (m + 1) v k = r_addr g to m (v * 256 + b) (r_dg g to (k + 1)).2 by rw [r_addr, if_neg (by omega), if_pos (show m < 3 by omega), e]]; have key := ih (mg_I s 141 9 (nI (r_dg g to (k + 1)).2)) hg (v * 256 + b) (r_dg g to (k + 1)).2 (i + 1) (some (.int (nI b))) (by omega) (r_dg_le (by omega)) (Nat.le_trans (by omega) r_dg_ge); simp only [mg_I_I] at key; exact key
    · refine wg_iload (d113_20 L xs) rfl ?_
      refine wg_iload_n (d113_22 L xs) rfl ?_
      refine wn_icmp_ge (d113_23 L xs) (x := k) (y := to) (by omega) (by omega) (t := 45) (by decide) (fun h4 => ?_) (fun h4 => ?_)
      · refine wg_aload_n (d113_45 L xs) rfl ?_
        refine wg_iconst (d113_46 L xs) (x := (-1)) (by decide) ?_
        refine wg_puti (d113_47 L xs) (cj := 9) (k0 := 9) rfl (by decide) rfl (Nat.le_of_ble_eq_true rfl) rfl rfl rfl ?_
        refine wg_iconst (d113_50 L xs) (x := 0) (by decide) ?_
        exact wg_iret (d113_51 L xs) rfl rfl ⟨by rw [r_addr, if_pos (by omega)]; rfl, by rw [r_addr, if_pos (by omega)]; rfl⟩
      · refine wg_aload_n (d113_26 L xs) rfl ?_
        refine wg_iload (d113_27 L xs) rfl ?_
        refine wg_iload_n (d113_29 L xs) rfl ?_
        refine wn_icmp_ge (d113_30 L xs) (x := k) (y := to) (by omega) (by omega) (t := 38) (by decide) (fun h5 => by omega) (fun h5 => ?_)
        refine wg_iload (d113_33 L xs) rfl ?_
        refine wg_goto (d113_35 L xs) (t := 39) (by decide) ?_
        refine wg_iald (d113_39 L xs) Hq.1 (ar_d Hq) (vp_in_nI (n := k) (by omega) (by omega)) ?_
        refine wg_top (y := nI (g k)) (by rw [nI_nat (by omega)]; exact (hg k (by omega) (by omega)).1) ?_
        refine wg_bipush (d113_40 L xs) (x := 46) (by decide) ?_
        refine wn_icmp_eq (d113_42 L xs) (x := g k) (y := 46) (by omega) (by omega) (t := 52) (by decide) (fun h6 => ?_) (fun h6 => ?_)
        · refine wg_iload (d113_52 L xs) rfl ?_
          refine wn_if_le (d113_54 L xs) (x := i) (by omega) (t := 64) (by decide) (fun h7 => ?_) (fun h7 => ?_)
          · refine wg_iload (d113_64 L xs) rfl ?_
            refine wg_istore (d113_66 L xs) (ls' := [some (.ref 141), some (.ref q), some (.int (nI fr)), some (.int (nI to)), some (.int (nI v)), some (.int (nI k)), some (.int (nI i)), c5]) (Nat.le_of_ble_eq_true rfl) rfl ?_
            refine md_adr_sZ (m := m) (o := r_addr g to (m + 1) v k) Hq hg (by omega) hto hN (by omega) (by omega) (fun e => by rw [r_addr, if_neg (by omega), if_neg (show ¬ m < 3 by omega), e]) (fun b hb e => ?_); rw [show r_addr g to (m + 1) v k = r_addr g to m (v * 256 + b) (r_dg g to k).2 by rw [r_addr, if_neg (by omega), if_neg (show ¬ m < 3 by omega), e]]; have key := ih (mg_I s 141 9 (nI (r_dg g to k).2)) hg (v * 256 + b) (r_dg g to k).2 (i + 1) (some (.int (nI b))) (by omega) (r_dg_le (by omega)) (Nat.le_trans (by omega) r_dg_ge); simp only [mg_I_I] at key; exact key
          · refine wg_iload (d113_57 L xs) rfl ?_
            refine wg_iconst (d113_59 L xs) (x := 1) (by decide) ?_
            refine wg_iadd (d113_60 L xs) ?_
            refine wg_top (y := (nI (k + 1))) (nI_add k 1) ?_
            refine wg_goto (d113_61 L xs) (t := 66) (by decide) ?_
            refine wg_istore (d113_66 L xs) (ls' := [some (.ref 141), some (.ref q), some (.int (nI fr)), some (.int (nI to)), some (.int (nI v)), some (.int (nI (k + 1))), some (.int (nI i)), c5]) (Nat.le_of_ble_eq_true rfl) rfl ?_
            refine md_adr_sZ (m := m) (o := r_addr g to (m + 1) v k) Hq hg (by omega) hto hN (by omega) (by omega) (fun e => by rw [r_addr, if_neg (by omega), if_pos (show m < 3 by omega), e]) (fun b hb e => ?_); rw [show r_addr g to (m + 1) v k = r_addr g to m (v * 256 + b) (r_dg g to (k + 1)).2 by rw [r_addr, if_neg (by omega), if_pos (show m < 3 by omega), e]]; have key := ih (mg_I s 141 9 (nI (r_dg g to (k + 1)).2)) hg (v * 256 + b) (r_dg g to (k + 1)).2 (i + 1) (some (.int (nI b))) (by omega) (r_dg_le (by omega)) (Nat.le_trans (by omega) r_dg_ge); simp only [mg_I_I] at key; exact key
        · refine wg_aload_n (d113_45 L xs) rfl ?_
          refine wg_iconst (d113_46 L xs) (x := (-1)) (by decide) ?_
          refine wg_puti (d113_47 L xs) (cj := 9) (k0 := 9) rfl (by decide) rfl (Nat.le_of_ble_eq_true rfl) rfl rfl rfl ?_
          refine wg_iconst (d113_50 L xs) (x := 0) (by decide) ?_
          exact wg_iret (d113_51 L xs) rfl rfl ⟨by rw [r_addr, if_pos (by omega)]; rfl, by rw [r_addr, if_pos (by omega)]; rfl⟩
theorem md_readAddressZ {s : mg_s} {fr : Nat} (Hq : isA q N) {f0 : Nat} (hg : ∀ k, f0 ≤ k → k < to → s.2.1 q k = nI (g k) ∧ g k < 65536) (hf0 : f0 ≤ fr) (hto : to ≤ N) (hN : N < 2 ^ 20) (hf : fr ≤ to) : ca L xs (d + 3) 113 [.ref 141, .ref q, .int (nI fr), .int (nI to)] s (fun v2 s' => v2 = some (.int (aI (r_addr g to 4 0 fr))) ∧ mg_I s 141 9 (aR (r_addr g to 4 0 fr)) = s') := by
  refine wg_call (Nat.le_of_ble_eq_true rfl) ?_
  show wp L xs (d + 2) 113 0 [some (.ref 141), some (.ref q), some (.int (nI fr)), some (.int (nI to)), none, none, none, none] [] s _
  refine wg_iconst (d113_0 L xs) (x := 0) (by decide) ?_
  refine wg_istore (d113_1 L xs) (ls' := [some (.ref 141), some (.ref q), some (.int (nI fr)), some (.int (nI to)), some (.int 0), none, none, none]) (Nat.le_of_ble_eq_true rfl) rfl ?_
  refine wg_iload_n (d113_3 L xs) rfl ?_
  refine wg_istore (d113_4 L xs) (ls' := [some (.ref 141), some (.ref q), some (.int (nI fr)), some (.int (nI to)), some (.int 0), some (.int (nI fr)), none, none]) (Nat.le_of_ble_eq_true rfl) rfl ?_
  refine wg_iconst (d113_6 L xs) (x := 0) (by decide) ?_
  refine wg_istore (d113_7 L xs) (ls' := [some (.ref 141), some (.ref q), some (.int (nI fr)), some (.int (nI to)), some (.int 0), some (.int (nI fr)), some (.int 0), none]) (Nat.le_of_ble_eq_true rfl) rfl ?_
  exact md_adr_lZ Hq hto hN hf 4 s hg 0 fr 0 none (by omega) hf hf0
end MDZ
/-! the same read at a shifted place -/
def g_sh (h : Nat → Nat) (X k : Nat) : Nat := h (k - X)
theorem g_sh_at (h : Nat → Nat) (X i : Nat) : g_sh h X (X + i) = h i := by unfold g_sh; rw [Nat.add_sub_cancel_left]
theorem f_digs_sh (h : Nat → Nat) (X : Nat) : ∀ (m v i : Nat), f_digs (g_sh h X) v (X + i) m = ((f_digs h v i m).1, X + (f_digs h v i m).2) := by
  intro m
  induction m with
  | zero => intro v i; rfl
  | succ m ih =>
    intro v i
    rw [f_digs, f_digs, g_sh_at]
    split
    · rw [Nat.add_assoc, ih]
    · rfl
theorem r_dg_sh (h : Nat → Nat) (X to i : Nat) : r_dg (g_sh h X) (X + to) (X + i) = ((r_dg h to i).1, X + (r_dg h to i).2) := by
  unfold r_dg
  rw [show (if X + i + 3 ≤ X + to then X + i + 3 else X + to) - (X + i) = (if i + 3 ≤ to then i + 3 else to) - i by split <;> split <;> omega, f_digs_sh]
theorem r_num_sh (h : Nat → Nat) (X fr most : Nat) (p : Nat × Nat) : r_num (g_sh h X) (X + fr) most (p.1, X + p.2) = r_num h fr most p := by
  unfold r_num
  rw [g_sh_at]
  by_cases c : p.2 = fr ∨ most < p.1 ∨ (fr + 1 < p.2 ∧ h fr = 48)
  · rw [if_pos c, if_pos (by show X + p.2 = X + fr ∨ most < p.1 ∨ (X + fr + 1 < X + p.2 ∧ h fr = 48); omega)]
  · rw [if_neg c, if_neg (by show ¬ (X + p.2 = X + fr ∨ most < p.1 ∨ (X + fr + 1 < X + p.2 ∧ h fr = 48)); omega)]
theorem r_addr_sh (h : Nat → Nat) (X to : Nat) : ∀ (m v k : Nat), r_addr (g_sh h X) (X + to) m v (X + k) = (r_addr h to m v k).map (fun p => (p.1, X + p.2)) := by
  intro m
  induction m with
  | zero => intro v k; rfl
  | succ m ih =>
    intro v k
    rw [r_addr, r_addr, g_sh_at, show (if m < 3 then X + k + 1 else X + k) = X + (if m < 3 then k + 1 else k) by split <;> omega, r_dg_sh, r_num_sh]
    by_cases c : m < 3 ∧ (to ≤ k ∨ ¬ h k = 46)
    · rw [if_pos c, if_pos (by omega)]; rfl
    · rw [if_neg c, if_neg (by omega)]
      cases r_num h (if m < 3 then k + 1 else k) 255 (r_dg h to (if m < 3 then k + 1 else k)) with
      | none => rfl
      | some b => exact ih _ _
theorem num_eq {g : Nat → Nat} {fr to most : Nat} (h : fr ≤ to) : t_num g fr to most = if (r_dg g to fr).2 = to then r_num g fr most (r_dg g to fr) else none := by
  obtain ⟨m, hm, h1, h2⟩ := f_digs_ex (g := g) ((if fr + 3 ≤ to then fr + 3 else to) - fr) fr
  have hd : r_dg g to fr = (f_val g 0 fr m, fr + m) := f_digs_run _ m 0 fr h1 hm h2
  rw [hd]
  have hm3 : m ≤ 3 ∧ fr + m ≤ to := by revert hm; split <;> omega
  by_cases e : fr + m = to
  · rw [if_pos e]
    unfold t_num r_num
    have e2 : to - fr = m := by omega
    rw [e2]
    by_cases c : m < 1 ∨ 3 < m ∨ (1 < m ∧ g fr = 48)
    · rw [if_pos c, if_pos (by show fr + m = fr ∨ most < f_val g 0 fr m ∨ (fr + 1 < fr + m ∧ g fr = 48); omega)]
    · rw [if_neg c, f_num_val m 0 fr h1]
      by_cases c2 : f_val g 0 fr m ≤ most
      · rw [if_pos c2, if_neg (by show ¬ (fr + m = fr ∨ most < f_val g 0 fr m ∨ (fr + 1 < fr + m ∧ g fr = 48)); omega)]
      · rw [if_neg c2, if_pos (by show fr + m = fr ∨ most < f_val g 0 fr m ∨ (fr + 1 < fr + m ∧ g fr = 48); omega)]
  · rw [if_neg e]
    unfold t_num
    by_cases c : to - fr < 1 ∨ 3 < to - fr ∨ (1 < to - fr ∧ g fr = 48)
    · rw [if_pos c]
    · rw [if_neg c]
      refine f_num_no _ _ _ (fun hall => ?_)
      have hm4 : ¬ m = (if fr + 3 ≤ to then fr + 3 else to) - fr := by split <;> omega
      exact (h2.resolve_left hm4) (hall (fr + m) (by omega) (by omega))
