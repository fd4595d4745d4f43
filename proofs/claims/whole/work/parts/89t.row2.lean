/-! row once more: the name asked for last stays -/
section R2A
variable {L : Nat} {xs : Nat → Int32} {d : Nat} {s : mg_s} {p : Nat → Nat} {R : List rowT} {l m : List Nat}
theorem tb_append2 {kd e : Nat} (T : isTab s p R) (hR : R.length < 16) (hl : hold s 1 l) (hk4 : kd ≤ 4) (he : f_find (gl l) 32 0 (l.length - 0) = e) (he1 : 1 ≤ e) (he48 : e ≤ 48) : ca L xs (d + 5) 42 [.ref 3, .int (nI kd), .ref 1] s (fun v s' => v = none ∧ isTab s' p (R ++ [t_row l kd e]) ∧ onl s s' 3 87 ∧ s'.1 5 = s.1 5 ∧ s'.2.1 6 = s.2.1 6) := by
  refine wg_call (Nat.le_of_ble_eq_true rfl) ?_
  have hpl := rw_lt (T.2.2.1 R.length hR).2
  show wp L xs (d + 4) 42 0 [some (.ref 3), some (.int (nI kd)), some (.ref 1)] [] s _
  refine wg_aload_n (d42_0 L xs) rfl ?_
  refine wg_get (d42_1 L xs) (kd := 1) (cj := 3) (k0 := 1) rfl (Or.inl rfl) (by decide) rfl rfl ?_
  refine wg_top (y := (nI R.length)) T.1 ?_
  refine wg_bipush (d42_4 L xs) (x := 16) (by decide) ?_
  refine wn_icmp_ge (d42_6 L xs) (x := R.length) (y := 16) (by omega) (by omega) (t := 33) (by decide) (fun h1 => by omega) (fun h1 => ?_)
  refine wg_aload_n (d42_9 L xs) rfl ?_
  refine wg_get (d42_10 L xs) (kd := 1) (cj := 3) (k0 := 0) rfl (Or.inl rfl) (by decide) rfl rfl ?_
  refine wg_aload_n (d42_13 L xs) rfl ?_
  refine wg_get (d42_14 L xs) (kd := 1) (cj := 3) (k0 := 1) rfl (Or.inl rfl) (by decide) rfl rfl ?_
  refine wg_top (y := (nI R.length)) T.1 ?_
  refine wg_aald (d42_17 L xs) (n := 16) (by decide) rfl rfl (vp_in_nI (n := R.length) (by omega) (by omega)) (v := .ref (p R.length)) (by rw [nI_nat (n := R.length) (by omega), (T.2.2.1 R.length hR).1]; rfl) ?_
  refine wg_iload_n (d42_18 L xs) rfl ?_
  refine wg_aload_n (d42_19 L xs) rfl ?_
  refine wg_invv (d42_20 L xs) (kd := 7) (mj := 43) (n := 2) rfl (Or.inl rfl) (ys := [.ref 1, .int (nI kd)]) (r := []) rfl rfl (T.2.2.1 R.length hR).2.1 (rw_c (T.2.2.1 R.length hR).2) rfl (Nat.le_of_ble_eq_true rfl) (rw_fill (T.2.2.1 R.length hR).2 hl hk4 he he1 he48) ?_
  rintro _ s1 ⟨rfl, o1, q1⟩
  refine wg_aload_n (d42_23 L xs) rfl ?_
  refine wg_dup (d42_24 L xs) rfl ?_
  refine wg_get (d42_25 L xs) (kd := 1) (cj := 3) (k0 := 1) rfl (Or.inl rfl) (by decide) rfl rfl ?_
  refine wg_top (y := (nI R.length)) ((congrFun (o1.1 3 (by omega)).1 1).trans T.1) ?_
  refine wg_iconst (d42_28 L xs) (x := 1) (by decide) ?_
  refine wg_iadd (d42_29 L xs) ?_
  refine wg_top (y := (nI (R.length + 1))) (nI_add R.length 1) ?_
  refine wg_puti (d42_30 L xs) (cj := 3) (k0 := 1) rfl (by decide) rfl (Nat.le_of_ble_eq_true rfl) rfl rfl rfl ?_
  exact wg_vret (d42_33 L xs) rfl ⟨rfl, (tb_appended T hR o1 q1).1, (tb_appended T hR o1 q1).2, (mg_I_oth (by omega)).trans (o1.1 5 (by omega)).1, (o1.1 6 (by omega)).2⟩
end R2A
section R2B
variable {L : Nat} {xs : Nat → Int32} {d : Nat} {s : mg_s} {p : Nat → Nat} {R : List rowT} {l m : List Nat}
theorem gd_row2 {kd : Nat} (T : isTab s p R) (hR : R.length < 16) (hl : hold s 1 l) (hk4 : kd ≤ 4) (hok : t_ok l kd = true) : ca L xs (d + 6) 35 [.ref 0, .int (nI kd)] s (fun v s' => v = some (.int (nI (R ++ [t_row l kd (t_end l)]).length)) ∧ isTab s' p (R ++ [t_row l kd (t_end l)]) ∧ ∃ s1, onl s s1 3 87 ∧ s1.1 5 = s.1 5 ∧ s1.2.1 6 = s.2.1 6 ∧ tset s1 1 [] s') := by
  refine wg_call (Nat.le_of_ble_eq_true rfl) ?_
  have hnm : t_name (gl l) 0 (t_end l) = true := by unfold t_ok at hok; rw [Bool.and_eq_true] at hok; exact hok.1
  have he1 : 1 ≤ t_end l := by have := t_name_len hnm; omega
  have he48 : t_end l ≤ 48 := by have := t_name_len hnm; omega
  have hb1 : bI (t_ok l kd) = 1 := by rw [hok]; rfl
  show wp L xs (d + 5) 35 0 [some (.ref 0), some (.int (nI kd))] [] s _
  refine wg_aload_n (d35_0 L xs) rfl ?_
  refine wg_iload_n (d35_1 L xs) rfl ?_
  refine wg_invv (d35_2 L xs) (kd := 7) (mj := 36) (n := 1) rfl (Or.inl rfl) (ys := [.int (nI kd)]) (r := []) rfl rfl (by decide) rfl rfl (Nat.le_of_ble_eq_true rfl) (gd_tir hl hk4) ?_
  rintro _ _ ⟨rfl, rfl⟩
  refine wn_if_ne (d35_5 L xs) (x := bI (t_ok l kd)) (by omega) (t := 16) (by decide) (fun h1 => ?_) (fun h1 => by omega)
  refine wg_aload_n (d35_16 L xs) rfl ?_
  refine wg_get (d35_17 L xs) (kd := 1) (cj := 0) (k0 := 1) rfl (Or.inl rfl) (by decide) rfl rfl ?_
  refine wg_invv (d35_20 L xs) (kd := 7) (mj := 33) (n := 0) rfl (Or.inl rfl) (ys := []) (r := []) rfl rfl (by decide) rfl rfl (Nat.le_of_ble_eq_true rfl) tb_count ?_
  rintro _ _ ⟨rfl, rfl⟩
  refine wg_top (y := nI R.length) T.1 ?_
  refine wg_bipush (d35_23 L xs) (x := 16) (by decide) ?_
  refine wn_icmp_lt (d35_25 L xs) (x := R.length) (y := 16) (by omega) (by omega) (t := 36) (by decide) (fun h2 => ?_) (fun h2 => by omega)
  refine wg_aload_n (d35_36 L xs) rfl ?_
  refine wg_get (d35_37 L xs) (kd := 1) (cj := 0) (k0 := 1) rfl (Or.inl rfl) (by decide) rfl rfl ?_
  refine wg_iload_n (d35_40 L xs) rfl ?_
  refine wg_aload_n (d35_41 L xs) rfl ?_
  refine wg_get (d35_42 L xs) (kd := 1) (cj := 0) (k0 := 0) rfl (Or.inl rfl) (by decide) rfl rfl ?_
  refine wg_invv (d35_45 L xs) (kd := 7) (mj := 42) (n := 2) rfl (Or.inl rfl) (ys := [.ref 1, .int (nI kd)]) (r := []) rfl rfl (by decide) rfl rfl (Nat.le_of_ble_eq_true rfl) (tb_append2 T hR hl hk4 rfl he1 he48) ?_
  rintro _ s1 ⟨rfl, T1, o1, o5, o6⟩
  have hl1 : hold s1 1 l := hold_only o1 (Or.inl (by decide)) hl
  refine wg_aload_n (d35_48 L xs) rfl ?_
  refine wg_get (d35_49 L xs) (kd := 1) (cj := 0) (k0 := 0) rfl (Or.inl rfl) (by decide) rfl rfl ?_
  refine wg_invv (d35_52 L xs) (kd := 7) (mj := 18) (n := 0) rfl (Or.inl rfl) (ys := []) (r := []) rfl rfl (by decide) rfl rfl (Nat.le_of_ble_eq_true rfl) (ts_clear isT_all.1) ?_
  rintro _ s2 ⟨rfl, e2⟩
  have T2 := tset_tab e2 (Or.inl (by decide)) (by decide) T1
  refine wg_aload_n (d35_55 L xs) rfl ?_
  refine wg_get (d35_56 L xs) (kd := 1) (cj := 0) (k0 := 1) rfl (Or.inl rfl) (by decide) rfl rfl ?_
  refine wg_invv (d35_59 L xs) (kd := 7) (mj := 33) (n := 0) rfl (Or.inl rfl) (ys := []) (r := []) rfl rfl (by decide) rfl rfl (Nat.le_of_ble_eq_true rfl) tb_count ?_
  rintro _ _ ⟨rfl, rfl⟩
  exact wg_iret (d35_62 L xs) rfl rfl ⟨by rw [T2.1]; rfl, T2, s1, o1, o5, o6, e2⟩
end R2B
