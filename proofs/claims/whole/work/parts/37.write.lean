/-! texts: what writes them -/
/-- the text at a is set -/
def mg_T (s : mg_s) (a : Nat) (f : Nat → Int32) (n : Nat) : mg_s := (fun b => if b = a then upd (s.1 b) 1 (nI n) else s.1 b, fun b => if b = a + 1 then f else s.2.1 b, s.2.2)
theorem mg_T_ext {s t : mg_s} (h1 : s.1 = t.1) (h2 : s.2.1 = t.2.1) (h3 : s.2.2 = t.2.2) : s = t := Prod.ext h1 (Prod.ext h2 h3)
theorem mg_T_add (s : mg_s) (a n m : Nat) (x : Int32) : mg_I (mg_A s (a + 1) n x) a 1 (nI m) = mg_T s a (upd (s.2.1 (a + 1)) n x) m := by
  refine mg_T_ext rfl ?_ rfl
  funext b
  show (if b = a + 1 then upd (s.2.1 b) n x else s.2.1 b) = (if b = a + 1 then upd (s.2.1 (a + 1)) n x else s.2.1 b)
  by_cases e : b = a + 1
  · subst e; rfl
  · rw [if_neg e, if_neg e]
theorem mg_T_clear (s : mg_s) (a m : Nat) : mg_I s a 1 (nI m) = mg_T s a (s.2.1 (a + 1)) m := by
  refine mg_T_ext rfl ?_ rfl
  funext b
  show s.2.1 b = (if b = a + 1 then s.2.1 (a + 1) else s.2.1 b)
  by_cases e : b = a + 1
  · subst e; rw [if_pos rfl]
  · rw [if_neg e]
theorem nar_nI {c : Nat} (h : c < 65536) : vp_nar .char (nI c) = nI c := Value.int.inj (pk_charN h).1
theorem tx_dA {s : mg_s} {a j : Nat} {x : Int32} (H : isT a) : mg_c (mg_A s (a + 1) j x) (a + 1) = .inl (1, tlim a, .inl (upd (s.2.1 (a + 1)) j x)) := by
  have e : (mg_A s (a + 1) j x).2.1 (a + 1) = upd (s.2.1 (a + 1)) j x := if_pos rfl
  rw [tx_d H, e]
theorem tx_cI {s : mg_s} {a : Nat} {x : Int32} (H : isT a) : mg_c (mg_I s a 1 x) a = .inr (1, List.set [.ref (a + 1), .int (s.1 a 1)] 1 (.int x)) := by
  have e : (mg_I s a 1 x).1 a 1 = x := by
    show (if a = a then upd (s.1 a) 1 x else s.1 a) 1 = x
    rw [if_pos rfl]; rfl
  rw [tx_c H, e]; rfl
/-- other texts stay -/
theorem mg_T_at {s : mg_s} {a b n m i : Nat} {f : Nat → Int32} (e : ¬ b = a) : t_at (mg_T s a f n) b m i = t_at s b m i := by
  unfold t_at
  show (if i < m then ((if b + 1 = a + 1 then f else s.2.1 (b + 1)) i).toNatClampNeg else 0) = _
  rw [if_neg (show ¬ b + 1 = a + 1 by omega)]
theorem mg_T_tx {s : mg_s} {a b n m : Nat} {f : Nat → Int32} (e : ¬ b = a) (h : isTx s b m) : isTx (mg_T s a f n) b m := by
  refine ⟨?_, h.2⟩
  show (if b = a then upd (s.1 b) 1 (nI n) else s.1 b) 1 = nI m
  rw [if_neg e]; exact h.1
theorem mg_T_own {s : mg_s} {a n : Nat} {f : Nat → Int32} (h : n ≤ tlim a) : isTx (mg_T s a f n) a n := by
  refine ⟨?_, h⟩
  show (if a = a then upd (s.1 a) 1 (nI n) else s.1 a) 1 = nI n
  rw [if_pos rfl]; rfl
/-- m chars of the text b from i on go behind the k of the text a -/
def s_app (a b n2 : Nat) : Nat → mg_s → Nat → Nat → mg_s
  | 0, s, _, _ => s
  | m + 1, s, k, i => s_app a b n2 m (mg_T s a (upd (s.2.1 (a + 1)) k (nI (t_at s b n2 i))) (k + 1)) (k + 1) (i + 1)
theorem d44_0 (L : Nat) (xs : Nat → Int32) : decode (ax_code (mgT L xs) 44) 0 = .ok (.iload_n 2, 1) := by
  show decode prog_9_method_6_code 0 = _
  decide +kernel
theorem d44_1 (L : Nat) (xs : Nat → Int32) : decode (ax_code (mgT L xs) 44) 1 = .ok (.istore 4, 2) := by
  show decode prog_9_method_6_code 1 = _
  decide +kernel
theorem d44_3 (L : Nat) (xs : Nat → Int32) : decode (ax_code (mgT L xs) 44) 3 = .ok (.iload 4, 2) := by
  show decode prog_9_method_6_code 3 = _
  decide +kernel
theorem d44_5 (L : Nat) (xs : Nat → Int32) : decode (ax_code (mgT L xs) 44) 5 = .ok (.iload_n 3, 1) := by
  show decode prog_9_method_6_code 5 = _
  decide +kernel
theorem d44_6 (L : Nat) (xs : Nat → Int32) : decode (ax_code (mgT L xs) 44) 6 = .ok (.if_icmp .ge 56, 3) := by
  show decode prog_9_method_6_code 6 = _
  decide +kernel
theorem d44_9 (L : Nat) (xs : Nat → Int32) : decode (ax_code (mgT L xs) 44) 9 = .ok (.iload 4, 2) := by
  show decode prog_9_method_6_code 9 = _
  decide +kernel
theorem d44_11 (L : Nat) (xs : Nat → Int32) : decode (ax_code (mgT L xs) 44) 11 = .ok (.aload_n 1, 1) := by
  show decode prog_9_method_6_code 11 = _
  decide +kernel
theorem d44_12 (L : Nat) (xs : Nat → Int32) : decode (ax_code (mgT L xs) 44) 12 = .ok (.getfield 15, 3) := by
  show decode prog_9_method_6_code 12 = _
  decide +kernel
theorem d44_15 (L : Nat) (xs : Nat → Int32) : decode (ax_code (mgT L xs) 44) 15 = .ok (.if_icmp .ge 47, 3) := by
  show decode prog_9_method_6_code 15 = _
  decide +kernel
theorem d44_18 (L : Nat) (xs : Nat → Int32) : decode (ax_code (mgT L xs) 44) 18 = .ok (.aload_n 0, 1) := by
  show decode prog_9_method_6_code 18 = _
  decide +kernel
theorem d44_19 (L : Nat) (xs : Nat → Int32) : decode (ax_code (mgT L xs) 44) 19 = .ok (.getfield 15, 3) := by
  show decode prog_9_method_6_code 19 = _
  decide +kernel
theorem d44_22 (L : Nat) (xs : Nat → Int32) : decode (ax_code (mgT L xs) 44) 22 = .ok (.aload_n 0, 1) := by
  show decode prog_9_method_6_code 22 = _
  decide +kernel
theorem d44_23 (L : Nat) (xs : Nat → Int32) : decode (ax_code (mgT L xs) 44) 23 = .ok (.getfield 9, 3) := by
  show decode prog_9_method_6_code 23 = _
  decide +kernel
theorem d44_26 (L : Nat) (xs : Nat → Int32) : decode (ax_code (mgT L xs) 44) 26 = .ok (.arraylength, 1) := by
  show decode prog_9_method_6_code 26 = _
  decide +kernel
theorem d44_27 (L : Nat) (xs : Nat → Int32) : decode (ax_code (mgT L xs) 44) 27 = .ok (.if_icmp .ge 35, 3) := by
  show decode prog_9_method_6_code 27 = _
  decide +kernel
theorem d44_30 (L : Nat) (xs : Nat → Int32) : decode (ax_code (mgT L xs) 44) 30 = .ok (.aload_n 0, 1) := by
  show decode prog_9_method_6_code 30 = _
  decide +kernel
theorem d44_31 (L : Nat) (xs : Nat → Int32) : decode (ax_code (mgT L xs) 44) 31 = .ok (.getfield 9, 3) := by
  show decode prog_9_method_6_code 31 = _
  decide +kernel
theorem d44_34 (L : Nat) (xs : Nat → Int32) : decode (ax_code (mgT L xs) 44) 34 = .ok (.aload_n 0, 1) := by
  show decode prog_9_method_6_code 34 = _
  decide +kernel
theorem d44_35 (L : Nat) (xs : Nat → Int32) : decode (ax_code (mgT L xs) 44) 35 = .ok (.getfield 15, 3) := by
  show decode prog_9_method_6_code 35 = _
  decide +kernel
theorem d44_38 (L : Nat) (xs : Nat → Int32) : decode (ax_code (mgT L xs) 44) 38 = .ok (.aload_n 1, 1) := by
  show decode prog_9_method_6_code 38 = _
  decide +kernel
theorem d44_39 (L : Nat) (xs : Nat → Int32) : decode (ax_code (mgT L xs) 44) 39 = .ok (.getfield 9, 3) := by
  show decode prog_9_method_6_code 39 = _
  decide +kernel
theorem d44_42 (L : Nat) (xs : Nat → Int32) : decode (ax_code (mgT L xs) 44) 42 = .ok (.iload 4, 2) := by
  show decode prog_9_method_6_code 42 = _
  decide +kernel
theorem d44_44 (L : Nat) (xs : Nat → Int32) : decode (ax_code (mgT L xs) 44) 44 = .ok (.caload, 1) := by
  show decode prog_9_method_6_code 44 = _
  decide +kernel
theorem d44_45 (L : Nat) (xs : Nat → Int32) : decode (ax_code (mgT L xs) 44) 45 = .ok (.castore, 1) := by
  show decode prog_9_method_6_code 45 = _
  decide +kernel
theorem d44_46 (L : Nat) (xs : Nat → Int32) : decode (ax_code (mgT L xs) 44) 46 = .ok (.aload_n 0, 1) := by
  show decode prog_9_method_6_code 46 = _
  decide +kernel
theorem d44_47 (L : Nat) (xs : Nat → Int32) : decode (ax_code (mgT L xs) 44) 47 = .ok (.dup, 1) := by
  show decode prog_9_method_6_code 47 = _
  decide +kernel
theorem d44_48 (L : Nat) (xs : Nat → Int32) : decode (ax_code (mgT L xs) 44) 48 = .ok (.getfield 15, 3) := by
  show decode prog_9_method_6_code 48 = _
  decide +kernel
theorem d44_51 (L : Nat) (xs : Nat → Int32) : decode (ax_code (mgT L xs) 44) 51 = .ok (.iconst 1, 1) := by
  show decode prog_9_method_6_code 51 = _
  decide +kernel
theorem d44_52 (L : Nat) (xs : Nat → Int32) : decode (ax_code (mgT L xs) 44) 52 = .ok (.iadd, 1) := by
  show decode prog_9_method_6_code 52 = _
  decide +kernel
theorem d44_53 (L : Nat) (xs : Nat → Int32) : decode (ax_code (mgT L xs) 44) 53 = .ok (.putfield 15, 3) := by
  show decode prog_9_method_6_code 53 = _
  decide +kernel
theorem d44_56 (L : Nat) (xs : Nat → Int32) : decode (ax_code (mgT L xs) 44) 56 = .ok (.iinc 4 1, 3) := by
  show decode prog_9_method_6_code 56 = _
  decide +kernel
theorem d44_59 (L : Nat) (xs : Nat → Int32) : decode (ax_code (mgT L xs) 44) 59 = .ok (.goto (-56), 3) := by
  show decode prog_9_method_6_code 59 = _
  decide +kernel
theorem d44_62 (L : Nat) (xs : Nat → Int32) : decode (ax_code (mgT L xs) 44) 62 = .ok (.return_, 1) := by
  show decode prog_9_method_6_code 62 = _
  decide +kernel
section TXE
variable {L : Nat} {xs : Nat → Int32} {d : Nat} {a b n2 : Nat}
theorem tx_clear {s : mg_s} (H : isT a) : ca L xs (d + 1) 18 [.ref a] s (fun v s' => v = none ∧ mg_T s a (s.2.1 (a + 1)) 0 = s') := by
  refine wg_call (Nat.le_of_ble_eq_true rfl) ?_
  show wp L xs d 18 0 [some (.ref a)] [] s _
  refine wg_aload_n (d18_0 L xs) rfl ?_
  refine wg_iconst (d18_1 L xs) (x := 0) (by decide) ?_
  refine wg_puti (d18_2 L xs) (cj := 1) (k0 := 1) rfl H.1 (tx_c H) (Nat.le_of_ble_eq_true rfl) rfl rfl (tx_cI H) ?_
  exact wg_vret (d18_5 L xs) rfl ⟨rfl, (mg_T_clear s a 0).symm⟩
theorem tx_add {s : mg_s} {n c : Nat} (H : isT a) (hn : isTx s a n) (hc : c < 65536) : ca L xs (d + 1) 16 [.ref a, .int (nI c)] s (fun v s' => v = none ∧ (if n < tlim a then mg_T s a (upd (s.2.1 (a + 1)) n (nI c)) (n + 1) else s) = s') := by
  refine wg_call (Nat.le_of_ble_eq_true rfl) ?_
  have hlim := tx_m H
  have hnn := hn.2
  show wp L xs d 16 0 [some (.ref a), some (.int (nI c))] [] s _
  refine wg_aload_n (d16_0 L xs) rfl ?_
  refine wg_get (d16_1 L xs) (kd := 1) (cj := 1) (k0 := 1) rfl (Or.inl rfl) H.1 (tx_c H) rfl ?_
  refine wg_top (y := (nI n)) hn.1 ?_
  refine wg_aload_n (d16_4 L xs) rfl ?_
  refine wg_get (d16_5 L xs) (kd := 1) (cj := 1) (k0 := 0) rfl (Or.inl rfl) H.1 (tx_c H) rfl ?_
  refine wg_alen (d16_8 L xs) (tx_l H) (tx_d H) (by decide) ?_
  refine wn_icmp_ge (d16_9 L xs) (x := n) (y := (tlim a)) (by omega) (by omega) (t := 32) (by decide) (fun h1 => ?_) (fun h1 => ?_)
  · exact wg_vret (d16_32 L xs) rfl ⟨rfl, if_neg (by omega)⟩
  · refine wg_aload_n (d16_12 L xs) rfl ?_
    refine wg_get (d16_13 L xs) (kd := 1) (cj := 1) (k0 := 0) rfl (Or.inl rfl) H.1 (tx_c H) rfl ?_
    refine wg_aload_n (d16_16 L xs) rfl ?_
    refine wg_get (d16_17 L xs) (kd := 1) (cj := 1) (k0 := 1) rfl (Or.inl rfl) H.1 (tx_c H) rfl ?_
    refine wg_top (y := (nI n)) hn.1 ?_
    refine wg_iload_n (d16_20 L xs) rfl ?_
    refine wg_cast (d16_21 L xs) (tx_l H) (tx_d H) (vp_in_nI (n := n) (by omega) (by omega)) (tx_dA H) ?_
    rw [nI_nat (n := n) (by omega), nar_nI (c := c) (by omega)]
    refine wg_aload_n (d16_22 L xs) rfl ?_
    refine wg_dup (d16_23 L xs) rfl ?_
    refine wg_get (d16_24 L xs) (kd := 1) (cj := 1) (k0 := 1) rfl (Or.inl rfl) H.1 (tx_c H) rfl ?_
    refine wg_top (y := (nI n)) hn.1 ?_
    refine wg_iconst (d16_27 L xs) (x := 1) (by decide) ?_
    refine wg_iadd (d16_28 L xs) ?_
    refine wg_top (y := (nI (n + 1))) (nI_add n 1) ?_
    refine wg_puti (d16_29 L xs) (cj := 1) (k0 := 1) rfl H.1 (tx_c H) (Nat.le_of_ble_eq_true rfl) rfl rfl (tx_cI H) ?_
    exact wg_vret (d16_32 L xs) rfl ⟨rfl, by rw [if_pos (by omega), mg_T_add]⟩
theorem tx_app_l {fr to : Nat} (H : isT a) (H2 : isT b) (hne : ¬ b = a) (hto : to < 2 ^ 30) : ∀ (m : Nat) (s : mg_s) (k i : Nat), isTx s a k → isTx s b n2 → i < 2 ^ 30 → m = min (min to n2 - i) (tlim a - k) → wp L xs d 44 3 [some (.ref a), some (.ref b), some (.int (nI fr)), some (.int (nI to)), some (.int (nI i))] [] s (fun v s' => v = none ∧ s_app a b n2 m s k i = s') := by
  have hlim := tx_m H
  have hlim2 := tx_m H2
  intro m
  induction m with
  | zero =>
    intro s k i hn hn2 hi hm
    have hnn := hn.2
    have hnn2 := hn2.2
    refine wg_iload (d44_3 L xs) rfl ?_
    refine wg_iload_n (d44_5 L xs) rfl ?_
    refine wn_icmp_ge (d44_6 L xs) (x := i) (y := to) (by omega) (by omega) (t := 62) (by decide) (fun h1 => ?_) (fun h1 => ?_)
    · exact wg_vret (d44_62 L xs) rfl ⟨rfl, rfl⟩
    · refine wg_iload (d44_9 L xs) rfl ?_
      refine wg_aload_n (d44_11 L xs) rfl ?_
      refine wg_get (d44_12 L xs) (kd := 1) (cj := 1) (k0 := 1) rfl (Or.inl rfl) H2.1 (tx_c H2) rfl ?_
      refine wg_top (y := (nI n2)) hn2.1 ?_
      refine wn_icmp_ge (d44_15 L xs) (x := i) (y := n2) (by omega) (by omega) (t := 62) (by decide) (fun h2 => ?_) (fun h2 => ?_)
      · exact wg_vret (d44_62 L xs) rfl ⟨rfl, rfl⟩
      · refine wg_aload_n (d44_18 L xs) rfl ?_
        refine wg_get (d44_19 L xs) (kd := 1) (cj := 1) (k0 := 1) rfl (Or.inl rfl) H.1 (tx_c H) rfl ?_
        refine wg_top (y := (nI k)) hn.1 ?_
        refine wg_aload_n (d44_22 L xs) rfl ?_
        refine wg_get (d44_23 L xs) (kd := 1) (cj := 1) (k0 := 0) rfl (Or.inl rfl) H.1 (tx_c H) rfl ?_
        refine wg_alen (d44_26 L xs) (tx_l H) (tx_d H) (by decide) ?_
        refine wn_icmp_ge (d44_27 L xs) (x := k) (y := (tlim a)) (by omega) (by omega) (t := 62) (by decide) (fun h3 => ?_) (fun h3 => by omega)
        exact wg_vret (d44_62 L xs) rfl ⟨rfl, rfl⟩
  | succ m ih =>
    intro s k i hn hn2 hi hm
    have hnn := hn.2
    have hnn2 := hn2.2
    refine wp_ch (fun hch => ?_)
    have hg0 : t_at s b n2 i < 65536 := t_at_lt H2 hn2 hch
    refine wg_iload (d44_3 L xs) rfl ?_
    refine wg_iload_n (d44_5 L xs) rfl ?_
    refine wn_icmp_ge (d44_6 L xs) (x := i) (y := to) (by omega) (by omega) (t := 62) (by decide) (fun h1 => by omega) (fun h1 => ?_)
    refine wg_iload (d44_9 L xs) rfl ?_
    refine wg_aload_n (d44_11 L xs) rfl ?_
    refine wg_get (d44_12 L xs) (kd := 1) (cj := 1) (k0 := 1) rfl (Or.inl rfl) H2.1 (tx_c H2) rfl ?_
    refine wg_top (y := (nI n2)) hn2.1 ?_
    refine wn_icmp_ge (d44_15 L xs) (x := i) (y := n2) (by omega) (by omega) (t := 62) (by decide) (fun h2 => by omega) (fun h2 => ?_)
    refine wg_aload_n (d44_18 L xs) rfl ?_
    refine wg_get (d44_19 L xs) (kd := 1) (cj := 1) (k0 := 1) rfl (Or.inl rfl) H.1 (tx_c H) rfl ?_
    refine wg_top (y := (nI k)) hn.1 ?_
    refine wg_aload_n (d44_22 L xs) rfl ?_
    refine wg_get (d44_23 L xs) (kd := 1) (cj := 1) (k0 := 0) rfl (Or.inl rfl) H.1 (tx_c H) rfl ?_
    refine wg_alen (d44_26 L xs) (tx_l H) (tx_d H) (by decide) ?_
    refine wn_icmp_ge (d44_27 L xs) (x := k) (y := (tlim a)) (by omega) (by omega) (t := 62) (by decide) (fun h3 => by omega) (fun h3 => ?_)
    refine wg_aload_n (d44_30 L xs) rfl ?_
    refine wg_get (d44_31 L xs) (kd := 1) (cj := 1) (k0 := 0) rfl (Or.inl rfl) H.1 (tx_c H) rfl ?_
    refine wg_aload_n (d44_34 L xs) rfl ?_
    refine wg_get (d44_35 L xs) (kd := 1) (cj := 1) (k0 := 1) rfl (Or.inl rfl) H.1 (tx_c H) rfl ?_
    refine wg_top (y := (nI k)) hn.1 ?_
    refine wg_aload_n (d44_38 L xs) rfl ?_
    refine wg_get (d44_39 L xs) (kd := 1) (cj := 1) (k0 := 0) rfl (Or.inl rfl) H2.1 (tx_c H2) rfl ?_
    refine wg_iload (d44_42 L xs) rfl ?_
    refine wg_cald (d44_44 L xs) (tx_l H2) (tx_d H2) (vp_in_nI (n := i) (by omega) (by omega)) ?_
    refine wg_top (y := nI (t_at s b n2 i)) (by rw [nI_nat (by omega)]; exact tx_ch H2 hn2 hch (by omega)) ?_
    refine wg_cast (d44_45 L xs) (tx_l H) (tx_d H) (vp_in_nI (n := k) (by omega) (by omega)) (tx_dA H) ?_
    rw [nI_nat (n := k) (by omega), nar_nI (c := t_at s b n2 i) (by omega)]
    refine wg_aload_n (d44_46 L xs) rfl ?_
    refine wg_dup (d44_47 L xs) rfl ?_
    refine wg_get (d44_48 L xs) (kd := 1) (cj := 1) (k0 := 1) rfl (Or.inl rfl) H.1 (tx_c H) rfl ?_
    refine wg_top (y := (nI k)) hn.1 ?_
    refine wg_iconst (d44_51 L xs) (x := 1) (by decide) ?_
    refine wg_iadd (d44_52 L xs) ?_
    refine wg_top (y := (nI (k + 1))) (nI_add k 1) ?_
    refine wg_puti (d44_53 L xs) (cj := 1) (k0 := 1) rfl H.1 (tx_c H) (Nat.le_of_ble_eq_true rfl) rfl rfl (tx_cI H) ?_
    refine wg_iinc (d44_56 L xs) (y := (nI (i + 1))) (ls' := [some (.ref a), some (.ref b), some (.int (nI fr)), some (.int (nI to)), some (.int (nI (i + 1)))]) rfl (nI_add i 1) rfl ?_
    refine wg_goto (d44_59 L xs) (t := 3) (by decide) ?_
    rw [mg_T_add]; exact ih _ (k + 1) (i + 1) (mg_T_own (by omega)) (mg_T_tx hne hn2) (by omega) (by omega)
theorem tx_addPart {s : mg_s} {k fr to : Nat} (H : isT a) (hn : isTx s a k) (H2 : isT b) (hn2 : isTx s b n2) (hne : ¬ b = a) (hto : to < 2 ^ 30) (hf : fr < 2 ^ 30) : ca L xs (d + 1) 44 [.ref a, .ref b, .int (nI fr), .int (nI to)] s (fun v s' => v = none ∧ s_app a b n2 (min (min to n2 - fr) (tlim a - k)) s k fr = s') := by
  refine wg_call (Nat.le_of_ble_eq_true rfl) ?_
  show wp L xs d 44 0 [some (.ref a), some (.ref b), some (.int (nI fr)), some (.int (nI to)), none] [] s _
  refine wg_iload_n (d44_0 L xs) rfl ?_
  refine wg_istore (d44_1 L xs) (ls' := [some (.ref a), some (.ref b), some (.int (nI fr)), some (.int (nI to)), some (.int (nI fr))]) (Nat.le_of_ble_eq_true rfl) rfl ?_
  exact tx_app_l H H2 hne hto _ s k fr hn hn2 hf rfl
end TXE
