/-! the table: a row is filled and appended -/
theorem d43_0 (L : Nat) (xs : Nat → Int32) : decode (ax_code (mgT L xs) 43) 0 = .ok (.aload_n 2, 1) := by
  show decode prog_6_method_2_code 0 = _
  decide +kernel
theorem d43_1 (L : Nat) (xs : Nat → Int32) : decode (ax_code (mgT L xs) 43) 1 = .ok (.bipush 32, 2) := by
  show decode prog_6_method_2_code 1 = _
  decide +kernel
theorem d43_3 (L : Nat) (xs : Nat → Int32) : decode (ax_code (mgT L xs) 43) 3 = .ok (.iconst 0, 1) := by
  show decode prog_6_method_2_code 3 = _
  decide +kernel
theorem d43_4 (L : Nat) (xs : Nat → Int32) : decode (ax_code (mgT L xs) 43) 4 = .ok (.aload_n 2, 1) := by
  show decode prog_6_method_2_code 4 = _
  decide +kernel
theorem d43_5 (L : Nat) (xs : Nat → Int32) : decode (ax_code (mgT L xs) 43) 5 = .ok (.invokevirtual 23, 3) := by
  show decode prog_6_method_2_code 5 = _
  decide +kernel
theorem d43_8 (L : Nat) (xs : Nat → Int32) : decode (ax_code (mgT L xs) 43) 8 = .ok (.invokevirtual 27, 3) := by
  show decode prog_6_method_2_code 8 = _
  decide +kernel
theorem d43_11 (L : Nat) (xs : Nat → Int32) : decode (ax_code (mgT L xs) 43) 11 = .ok (.istore_n 3, 1) := by
  show decode prog_6_method_2_code 11 = _
  decide +kernel
theorem d43_12 (L : Nat) (xs : Nat → Int32) : decode (ax_code (mgT L xs) 43) 12 = .ok (.aload_n 0, 1) := by
  show decode prog_6_method_2_code 12 = _
  decide +kernel
theorem d43_13 (L : Nat) (xs : Nat → Int32) : decode (ax_code (mgT L xs) 43) 13 = .ok (.iload_n 1, 1) := by
  show decode prog_6_method_2_code 13 = _
  decide +kernel
theorem d43_14 (L : Nat) (xs : Nat → Int32) : decode (ax_code (mgT L xs) 43) 14 = .ok (.putfield 31, 3) := by
  show decode prog_6_method_2_code 14 = _
  decide +kernel
theorem d43_17 (L : Nat) (xs : Nat → Int32) : decode (ax_code (mgT L xs) 43) 17 = .ok (.aload_n 0, 1) := by
  show decode prog_6_method_2_code 17 = _
  decide +kernel
theorem d43_18 (L : Nat) (xs : Nat → Int32) : decode (ax_code (mgT L xs) 43) 18 = .ok (.getfield 14, 3) := by
  show decode prog_6_method_2_code 18 = _
  decide +kernel
theorem d43_21 (L : Nat) (xs : Nat → Int32) : decode (ax_code (mgT L xs) 43) 21 = .ok (.invokevirtual 35, 3) := by
  show decode prog_6_method_2_code 21 = _
  decide +kernel
theorem d43_24 (L : Nat) (xs : Nat → Int32) : decode (ax_code (mgT L xs) 43) 24 = .ok (.aload_n 0, 1) := by
  show decode prog_6_method_2_code 24 = _
  decide +kernel
theorem d43_25 (L : Nat) (xs : Nat → Int32) : decode (ax_code (mgT L xs) 43) 25 = .ok (.getfield 14, 3) := by
  show decode prog_6_method_2_code 25 = _
  decide +kernel
theorem d43_28 (L : Nat) (xs : Nat → Int32) : decode (ax_code (mgT L xs) 43) 28 = .ok (.aload_n 2, 1) := by
  show decode prog_6_method_2_code 28 = _
  decide +kernel
theorem d43_29 (L : Nat) (xs : Nat → Int32) : decode (ax_code (mgT L xs) 43) 29 = .ok (.iconst 0, 1) := by
  show decode prog_6_method_2_code 29 = _
  decide +kernel
theorem d43_30 (L : Nat) (xs : Nat → Int32) : decode (ax_code (mgT L xs) 43) 30 = .ok (.iload_n 3, 1) := by
  show decode prog_6_method_2_code 30 = _
  decide +kernel
theorem d43_31 (L : Nat) (xs : Nat → Int32) : decode (ax_code (mgT L xs) 43) 31 = .ok (.invokevirtual 38, 3) := by
  show decode prog_6_method_2_code 31 = _
  decide +kernel
theorem d43_34 (L : Nat) (xs : Nat → Int32) : decode (ax_code (mgT L xs) 43) 34 = .ok (.aload_n 0, 1) := by
  show decode prog_6_method_2_code 34 = _
  decide +kernel
theorem d43_35 (L : Nat) (xs : Nat → Int32) : decode (ax_code (mgT L xs) 43) 35 = .ok (.getfield 20, 3) := by
  show decode prog_6_method_2_code 35 = _
  decide +kernel
theorem d43_38 (L : Nat) (xs : Nat → Int32) : decode (ax_code (mgT L xs) 43) 38 = .ok (.invokevirtual 35, 3) := by
  show decode prog_6_method_2_code 38 = _
  decide +kernel
theorem d43_41 (L : Nat) (xs : Nat → Int32) : decode (ax_code (mgT L xs) 43) 41 = .ok (.aload_n 0, 1) := by
  show decode prog_6_method_2_code 41 = _
  decide +kernel
theorem d43_42 (L : Nat) (xs : Nat → Int32) : decode (ax_code (mgT L xs) 43) 42 = .ok (.getfield 20, 3) := by
  show decode prog_6_method_2_code 42 = _
  decide +kernel
theorem d43_45 (L : Nat) (xs : Nat → Int32) : decode (ax_code (mgT L xs) 43) 45 = .ok (.aload_n 2, 1) := by
  show decode prog_6_method_2_code 45 = _
  decide +kernel
theorem d43_46 (L : Nat) (xs : Nat → Int32) : decode (ax_code (mgT L xs) 43) 46 = .ok (.iload_n 3, 1) := by
  show decode prog_6_method_2_code 46 = _
  decide +kernel
theorem d43_47 (L : Nat) (xs : Nat → Int32) : decode (ax_code (mgT L xs) 43) 47 = .ok (.iconst 1, 1) := by
  show decode prog_6_method_2_code 47 = _
  decide +kernel
theorem d43_48 (L : Nat) (xs : Nat → Int32) : decode (ax_code (mgT L xs) 43) 48 = .ok (.iadd, 1) := by
  show decode prog_6_method_2_code 48 = _
  decide +kernel
theorem d43_49 (L : Nat) (xs : Nat → Int32) : decode (ax_code (mgT L xs) 43) 49 = .ok (.aload_n 2, 1) := by
  show decode prog_6_method_2_code 49 = _
  decide +kernel
theorem d43_50 (L : Nat) (xs : Nat → Int32) : decode (ax_code (mgT L xs) 43) 50 = .ok (.invokevirtual 23, 3) := by
  show decode prog_6_method_2_code 50 = _
  decide +kernel
theorem d43_53 (L : Nat) (xs : Nat → Int32) : decode (ax_code (mgT L xs) 43) 53 = .ok (.invokevirtual 38, 3) := by
  show decode prog_6_method_2_code 53 = _
  decide +kernel
theorem d43_56 (L : Nat) (xs : Nat → Int32) : decode (ax_code (mgT L xs) 43) 56 = .ok (.aload_n 0, 1) := by
  show decode prog_6_method_2_code 56 = _
  decide +kernel
theorem d43_57 (L : Nat) (xs : Nat → Int32) : decode (ax_code (mgT L xs) 43) 57 = .ok (.iload_n 1, 1) := by
  show decode prog_6_method_2_code 57 = _
  decide +kernel
theorem d43_58 (L : Nat) (xs : Nat → Int32) : decode (ax_code (mgT L xs) 43) 58 = .ok (.ifCond .ne 18, 3) := by
  show decode prog_6_method_2_code 58 = _
  decide +kernel
theorem d43_61 (L : Nat) (xs : Nat → Int32) : decode (ax_code (mgT L xs) 43) 61 = .ok (.aload_n 2, 1) := by
  show decode prog_6_method_2_code 61 = _
  decide +kernel
theorem d43_62 (L : Nat) (xs : Nat → Int32) : decode (ax_code (mgT L xs) 43) 62 = .ok (.iload_n 3, 1) := by
  show decode prog_6_method_2_code 62 = _
  decide +kernel
theorem d43_63 (L : Nat) (xs : Nat → Int32) : decode (ax_code (mgT L xs) 43) 63 = .ok (.iconst 1, 1) := by
  show decode prog_6_method_2_code 63 = _
  decide +kernel
theorem d43_64 (L : Nat) (xs : Nat → Int32) : decode (ax_code (mgT L xs) 43) 64 = .ok (.iadd, 1) := by
  show decode prog_6_method_2_code 64 = _
  decide +kernel
theorem d43_65 (L : Nat) (xs : Nat → Int32) : decode (ax_code (mgT L xs) 43) 65 = .ok (.aload_n 2, 1) := by
  show decode prog_6_method_2_code 65 = _
  decide +kernel
theorem d43_66 (L : Nat) (xs : Nat → Int32) : decode (ax_code (mgT L xs) 43) 66 = .ok (.invokevirtual 23, 3) := by
  show decode prog_6_method_2_code 66 = _
  decide +kernel
theorem d43_69 (L : Nat) (xs : Nat → Int32) : decode (ax_code (mgT L xs) 43) 69 = .ok (.invokevirtual 42, 3) := by
  show decode prog_6_method_2_code 69 = _
  decide +kernel
theorem d43_72 (L : Nat) (xs : Nat → Int32) : decode (ax_code (mgT L xs) 43) 72 = .ok (.l2i, 1) := by
  show decode prog_6_method_2_code 72 = _
  decide +kernel
theorem d43_73 (L : Nat) (xs : Nat → Int32) : decode (ax_code (mgT L xs) 43) 73 = .ok (.goto 4, 3) := by
  show decode prog_6_method_2_code 73 = _
  decide +kernel
theorem d43_76 (L : Nat) (xs : Nat → Int32) : decode (ax_code (mgT L xs) 43) 76 = .ok (.iconst 0, 1) := by
  show decode prog_6_method_2_code 76 = _
  decide +kernel
theorem d43_77 (L : Nat) (xs : Nat → Int32) : decode (ax_code (mgT L xs) 43) 77 = .ok (.putfield 46, 3) := by
  show decode prog_6_method_2_code 77 = _
  decide +kernel
theorem d43_80 (L : Nat) (xs : Nat → Int32) : decode (ax_code (mgT L xs) 43) 80 = .ok (.return_, 1) := by
  show decode prog_6_method_2_code 80 = _
  decide +kernel
/-- onl cells from lo on and below hi have changed -/
def onl (s s' : mg_s) (lo hi : Nat) : Prop := (∀ a, a < lo ∨ hi ≤ a → s'.1 a = s.1 a ∧ s'.2.1 a = s.2.1 a) ∧ s'.2.2 = s.2.2
theorem onl.trans {s s1 s2 : mg_s} {lo hi : Nat} (h : onl s s1 lo hi) (k : onl s1 s2 lo hi) : onl s s2 lo hi :=
  ⟨fun a ha => ⟨((k.1 a ha).1).trans (h.1 a ha).1, ((k.1 a ha).2).trans (h.1 a ha).2⟩, k.2.trans h.2⟩
theorem tset.onl {s s' : mg_s} {a lo hi : Nat} {l : List Nat} (h : tset s a l s') (h1 : lo ≤ a) (h2 : a + 1 < hi) : onl s s' lo hi :=
  ⟨fun b hb => ⟨h.i (by omega), h.a (by omega)⟩, h.r⟩
theorem only_I (s : mg_s) {a k lo hi : Nat} {x : Int32} (h1 : lo ≤ a) (h2 : a < hi) : onl s (mg_I s a k x) lo hi :=
  ⟨fun b hb => ⟨mg_I_oth (by omega), rfl⟩, rfl⟩
theorem hold_I {s : mg_s} {a b k : Nat} {x : Int32} {l : List Nat} (h : hold s b l) (hb : ¬ b = a) : hold (mg_I s a k x) b l := hold_of h (mg_I_oth hb) rfl
theorem hold_only {s s' : mg_s} {lo hi b : Nat} {l : List Nat} (h : onl s s' lo hi) (hb : b + 1 < lo ∨ hi ≤ b) (k : hold s b l) : hold s' b l := hold_of k (h.1 b (by omega)).1 (h.1 (b + 1) (by omega)).2
/-- the row that a text says -/
def t_adr (l : List Nat) (kd e : Nat) : Int32 := if kd = 0 then (oL (f_addr (gl l) l.length (l.length + 1 - (e + 1)) 0 0 (e + 1) (e + 1))).toInt32 else 0
def t_row (l : List Nat) (kd e : Nat) : rowT := (kd, seg l 0 e, seg l (e + 1) l.length, t_adr l kd e)
section TBF
variable {L : Nat} {xs : Nat → Int32} {d a b r : Nat} {s : mg_s} {p : Nat → Nat} {R : List rowT} {l m : List Nat}
theorem rw_filled {s s2 s4 : mg_s} {kd e : Nat} {x : Int32} (Hr : isR r) (hk : kd ≤ 4) (en : tset (mg_I s r 0 (nI kd)) (r + 1) (seg l 0 e) s2) (ed : tset s2 (r + 3) (seg l (e + 1) l.length) s4) (hx : x = t_adr l kd e) : (none : Option Value) = none ∧ onl s (mg_I s4 r 3 x) r (r + 5) ∧ isRow (mg_I s4 r 3 x) r (t_row l kd e) := by
  refine ⟨rfl, ((only_I s (Nat.le_refl _) (by omega)).trans (en.onl (by omega) (by omega))).trans ((ed.onl (by omega) (by omega)).trans (only_I s4 (Nat.le_refl _) (by omega))), ?_, hk, hold_I (ed.other (by omega) en.has) (by omega), hold_I ed.has (by omega), ?_⟩
  · rw [mg_I_own]
    show s4.1 r 0 = nI kd
    rw [ed.i (by omega), en.i (by omega), mg_I_own]
    rfl
  · rw [mg_I_own, hx]
    rfl
theorem rw_fill {kd e : Nat} (Hr : isR r) (hl : hold s 1 l) (hk4 : kd ≤ 4) (he : f_find (gl l) 32 0 (l.length - 0) = e) (he1 : 1 ≤ e) (he48 : e ≤ 48) : ca L xs (d + 4) 43 [.ref r, .int (nI kd), .ref 1] s (fun v s' => v = none ∧ onl s s' r (r + 5) ∧ isRow s' r (t_row l kd e)) := by
  refine wg_call (Nat.le_of_ble_eq_true rfl) ?_
  have h100 := hl.1.2
  have h99 := isT_all.2.2.2.2.2.1
  have hrl := rw_lt Hr
  have hel : e ≤ l.length := by have := (f_find_s (g := gl l) (c := 32) (l.length - 0) 0).2.1; omega
  show wp L xs (d + 3) 43 0 [some (.ref r), some (.int (nI kd)), some (.ref 1), none] [] s _
  refine wg_aload_n (d43_0 L xs) rfl ?_
  refine wg_bipush (d43_1 L xs) (x := 32) (by decide) ?_
  refine wg_iconst (d43_3 L xs) (x := 0) (by decide) ?_
  refine wg_aload_n (d43_4 L xs) rfl ?_
  refine wg_invv (d43_5 L xs) (kd := 7) (mj := 15) (n := 0) rfl (Or.inl rfl) (ys := []) (r := [.int 0, .int 32, .ref 1]) rfl rfl (by decide) rfl rfl (Nat.le_of_ble_eq_true rfl) (ts_size isT_all.1 hl) ?_
  rintro _ _ ⟨rfl, rfl⟩
  refine wg_invv (d43_8 L xs) (kd := 7) (mj := 37) (n := 3) rfl (Or.inl rfl) (ys := [.int (nI l.length), .int 0, .int 32]) (r := []) rfl rfl (by decide) rfl rfl (Nat.le_of_ble_eq_true rfl) (ts_find (c := 32) (fr := 0) isT_all.1 hl (by decide) (by omega) (Nat.zero_le _) he) ?_
  rintro _ _ ⟨rfl, rfl⟩
  refine wg_istore_n (d43_11 L xs) (ls' := [some (.ref r), some (.int (nI kd)), some (.ref 1), some (.int (nI e))]) (Nat.le_of_ble_eq_true rfl) rfl ?_
  refine wg_aload_n (d43_12 L xs) rfl ?_
  refine wg_iload_n (d43_13 L xs) rfl ?_
  refine wg_puti (d43_14 L xs) (cj := 2) (k0 := 0) rfl Hr.1 (rw_c Hr) (Nat.le_of_ble_eq_true rfl) rfl rfl (rw_cI0 Hr) ?_
  refine wg_aload_n (d43_17 L xs) rfl ?_
  refine wg_get (d43_18 L xs) (kd := 1) (cj := 2) (k0 := 1) rfl (Or.inl rfl) Hr.1 (rw_c Hr) rfl ?_
  refine wg_invv (d43_21 L xs) (kd := 7) (mj := 18) (n := 0) rfl (Or.inl rfl) (ys := []) (r := []) rfl rfl (rw_n Hr).1 (tx_c (rw_n Hr)) rfl (Nat.le_of_ble_eq_true rfl) (ts_clear (rw_n Hr)) ?_
  rintro _ s1 ⟨rfl, e1⟩
  have hl1 : hold s1 1 l := e1.other (by omega) (hold_I hl (by omega))
  refine wg_aload_n (d43_24 L xs) rfl ?_
  refine wg_get (d43_25 L xs) (kd := 1) (cj := 2) (k0 := 1) rfl (Or.inl rfl) Hr.1 (rw_c Hr) rfl ?_
  refine wg_aload_n (d43_28 L xs) rfl ?_
  refine wg_iconst (d43_29 L xs) (x := 0) (by decide) ?_
  refine wg_iload_n (d43_30 L xs) rfl ?_
  refine wg_invv (d43_31 L xs) (kd := 7) (mj := 44) (n := 3) rfl (Or.inl rfl) (ys := [.int (nI e), .int 0, .ref 1]) (r := []) rfl rfl (rw_n Hr).1 (tx_c (rw_n Hr)) rfl (Nat.le_of_ble_eq_true rfl) (ts_addPart (fr := 0) (rw_n Hr) e1.has isT_all.1 hl1 (by omega) (by omega) (by omega)) ?_
  rintro _ s2 ⟨rfl, e2⟩
  have hl2 : hold s2 1 l := e2.other (by omega) hl1
  have en := e1.trans e2
  rw [List.nil_append, List.take_of_length_le (by rw [seg_len, rw_ln Hr]; omega)] at en
  refine wg_aload_n (d43_34 L xs) rfl ?_
  refine wg_get (d43_35 L xs) (kd := 1) (cj := 2) (k0 := 2) rfl (Or.inl rfl) Hr.1 (rw_c Hr) rfl ?_
  refine wg_invv (d43_38 L xs) (kd := 7) (mj := 18) (n := 0) rfl (Or.inl rfl) (ys := []) (r := []) rfl rfl (rw_d Hr).1 (tx_c (rw_d Hr)) rfl (Nat.le_of_ble_eq_true rfl) (ts_clear (rw_d Hr)) ?_
  rintro _ s3 ⟨rfl, e3⟩
  have hl3 : hold s3 1 l := e3.other (by omega) hl2
  refine wg_aload_n (d43_41 L xs) rfl ?_
  refine wg_get (d43_42 L xs) (kd := 1) (cj := 2) (k0 := 2) rfl (Or.inl rfl) Hr.1 (rw_c Hr) rfl ?_
  refine wg_aload_n (d43_45 L xs) rfl ?_
  refine wg_iload_n (d43_46 L xs) rfl ?_
  refine wg_iconst (d43_47 L xs) (x := 1) (by decide) ?_
  refine wg_iadd (d43_48 L xs) ?_
  refine wg_top (y := (nI (e + 1))) (nI_add e 1) ?_
  refine wg_aload_n (d43_49 L xs) rfl ?_
  refine wg_invv (d43_50 L xs) (kd := 7) (mj := 15) (n := 0) rfl (Or.inl rfl) (ys := []) (r := [.int (nI (e + 1)), .ref 1, .ref (r + 3)]) rfl rfl (by decide) rfl rfl (Nat.le_of_ble_eq_true rfl) (ts_size isT_all.1 hl3) ?_
  rintro _ _ ⟨rfl, rfl⟩
  refine wg_invv (d43_53 L xs) (kd := 7) (mj := 44) (n := 3) rfl (Or.inl rfl) (ys := [.int (nI l.length), .int (nI (e + 1)), .ref 1]) (r := []) rfl rfl (rw_d Hr).1 (tx_c (rw_d Hr)) rfl (Nat.le_of_ble_eq_true rfl) (ts_addPart (fr := e + 1) (rw_d Hr) e3.has isT_all.1 hl3 (by omega) (by omega) (by omega)) ?_
  rintro _ s4 ⟨rfl, e4⟩
  have hl4 : hold s4 1 l := e4.other (by omega) hl3
  have ed := e3.trans e4
  rw [List.nil_append, List.take_of_length_le (by rw [seg_len, rw_ld Hr]; omega)] at ed
  refine wg_aload_n (d43_56 L xs) rfl ?_
  refine wg_iload_n (d43_57 L xs) rfl ?_
  refine wn_if_ne (d43_58 L xs) (x := kd) (by omega) (t := 76) (by decide) (fun h1 => ?_) (fun h1 => ?_)
  · refine wg_iconst (d43_76 L xs) (x := 0) (by decide) ?_
    refine wg_puti (d43_77 L xs) (cj := 2) (k0 := 3) rfl Hr.1 (rw_c Hr) (Nat.le_of_ble_eq_true rfl) rfl rfl (rw_cI3 Hr) ?_
    exact wg_vret (d43_80 L xs) rfl (rw_filled Hr hk4 en ed (by unfold t_adr; rw [if_neg (by omega)]))
  · refine wg_aload_n (d43_61 L xs) rfl ?_
    refine wg_iload_n (d43_62 L xs) rfl ?_
    refine wg_iconst (d43_63 L xs) (x := 1) (by decide) ?_
    refine wg_iadd (d43_64 L xs) ?_
    refine wg_top (y := (nI (e + 1))) (nI_add e 1) ?_
    refine wg_aload_n (d43_65 L xs) rfl ?_
    refine wg_invv (d43_66 L xs) (kd := 7) (mj := 15) (n := 0) rfl (Or.inl rfl) (ys := []) (r := [.int (nI (e + 1)), .ref 1, .ref r]) rfl rfl (by decide) rfl rfl (Nat.le_of_ble_eq_true rfl) (ts_size isT_all.1 hl4) ?_
    rintro _ _ ⟨rfl, rfl⟩
    refine wg_invv (d43_69 L xs) (kd := 7) (mj := 40) (n := 2) rfl (Or.inl rfl) (ys := [.int (nI l.length), .int (nI (e + 1))]) (r := [.ref r]) rfl rfl (by decide) rfl rfl (Nat.le_of_ble_eq_true rfl) (ts_addr isT_all.1 hl4 (by omega) (by omega)) ?_
    rintro _ _ ⟨rfl, rfl⟩
    refine wg_l2i (d43_72 L xs) ?_
    refine wg_goto (d43_73 L xs) (t := 77) (by decide) ?_
    refine wg_puti (d43_77 L xs) (cj := 2) (k0 := 3) rfl Hr.1 (rw_c Hr) (Nat.le_of_ble_eq_true rfl) rfl rfl (rw_cI3 Hr) ?_
    exact wg_vret (d43_80 L xs) rfl (rw_filled Hr hk4 en ed (by unfold t_adr; rw [if_pos (by omega)]))
end TBF
