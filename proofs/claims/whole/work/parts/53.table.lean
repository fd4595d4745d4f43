/-! the table: asking, filling a row, appending, removing -/
theorem d53_0 (L : Nat) (xs : Nat → Int32) : decode (ax_code (mgT L xs) 53) 0 = .ok (.aload_n 0, 1) := by
  show decode prog_7_method_8_code 0 = _
  decide +kernel
theorem d53_1 (L : Nat) (xs : Nat → Int32) : decode (ax_code (mgT L xs) 53) 1 = .ok (.getfield 22, 3) := by
  show decode prog_7_method_8_code 1 = _
  decide +kernel
theorem d53_4 (L : Nat) (xs : Nat → Int32) : decode (ax_code (mgT L xs) 53) 4 = .ok (.invokevirtual 31, 3) := by
  show decode prog_7_method_8_code 4 = _
  decide +kernel
theorem d53_7 (L : Nat) (xs : Nat → Int32) : decode (ax_code (mgT L xs) 53) 7 = .ok (.aload_n 0, 1) := by
  show decode prog_7_method_8_code 7 = _
  decide +kernel
theorem d53_8 (L : Nat) (xs : Nat → Int32) : decode (ax_code (mgT L xs) 53) 8 = .ok (.getfield 22, 3) := by
  show decode prog_7_method_8_code 8 = _
  decide +kernel
theorem d53_11 (L : Nat) (xs : Nat → Int32) : decode (ax_code (mgT L xs) 53) 11 = .ok (.aload_n 1, 1) := by
  show decode prog_7_method_8_code 11 = _
  decide +kernel
theorem d53_12 (L : Nat) (xs : Nat → Int32) : decode (ax_code (mgT L xs) 53) 12 = .ok (.iconst 0, 1) := by
  show decode prog_7_method_8_code 12 = _
  decide +kernel
theorem d53_13 (L : Nat) (xs : Nat → Int32) : decode (ax_code (mgT L xs) 53) 13 = .ok (.aload_n 1, 1) := by
  show decode prog_7_method_8_code 13 = _
  decide +kernel
theorem d53_14 (L : Nat) (xs : Nat → Int32) : decode (ax_code (mgT L xs) 53) 14 = .ok (.invokevirtual 38, 3) := by
  show decode prog_7_method_8_code 14 = _
  decide +kernel
theorem d53_17 (L : Nat) (xs : Nat → Int32) : decode (ax_code (mgT L xs) 53) 17 = .ok (.invokevirtual 42, 3) := by
  show decode prog_7_method_8_code 17 = _
  decide +kernel
theorem d53_20 (L : Nat) (xs : Nat → Int32) : decode (ax_code (mgT L xs) 53) 20 = .ok (.iconst 0, 1) := by
  show decode prog_7_method_8_code 20 = _
  decide +kernel
theorem d53_21 (L : Nat) (xs : Nat → Int32) : decode (ax_code (mgT L xs) 53) 21 = .ok (.istore_n 3, 1) := by
  show decode prog_7_method_8_code 21 = _
  decide +kernel
theorem d53_22 (L : Nat) (xs : Nat → Int32) : decode (ax_code (mgT L xs) 53) 22 = .ok (.iconst 0, 1) := by
  show decode prog_7_method_8_code 22 = _
  decide +kernel
theorem d53_23 (L : Nat) (xs : Nat → Int32) : decode (ax_code (mgT L xs) 53) 23 = .ok (.istore 4, 2) := by
  show decode prog_7_method_8_code 23 = _
  decide +kernel
theorem d53_25 (L : Nat) (xs : Nat → Int32) : decode (ax_code (mgT L xs) 53) 25 = .ok (.iload 4, 2) := by
  show decode prog_7_method_8_code 25 = _
  decide +kernel
theorem d53_27 (L : Nat) (xs : Nat → Int32) : decode (ax_code (mgT L xs) 53) 27 = .ok (.aload_n 0, 1) := by
  show decode prog_7_method_8_code 27 = _
  decide +kernel
theorem d53_28 (L : Nat) (xs : Nat → Int32) : decode (ax_code (mgT L xs) 53) 28 = .ok (.getfield 27, 3) := by
  show decode prog_7_method_8_code 28 = _
  decide +kernel
theorem d53_31 (L : Nat) (xs : Nat → Int32) : decode (ax_code (mgT L xs) 53) 31 = .ok (.if_icmp .ge 66, 3) := by
  show decode prog_7_method_8_code 31 = _
  decide +kernel
theorem d53_34 (L : Nat) (xs : Nat → Int32) : decode (ax_code (mgT L xs) 53) 34 = .ok (.aload_n 0, 1) := by
  show decode prog_7_method_8_code 34 = _
  decide +kernel
theorem d53_35 (L : Nat) (xs : Nat → Int32) : decode (ax_code (mgT L xs) 53) 35 = .ok (.getfield 11, 3) := by
  show decode prog_7_method_8_code 35 = _
  decide +kernel
theorem d53_38 (L : Nat) (xs : Nat → Int32) : decode (ax_code (mgT L xs) 53) 38 = .ok (.iload 4, 2) := by
  show decode prog_7_method_8_code 38 = _
  decide +kernel
theorem d53_40 (L : Nat) (xs : Nat → Int32) : decode (ax_code (mgT L xs) 53) 40 = .ok (.aaload, 1) := by
  show decode prog_7_method_8_code 40 = _
  decide +kernel
theorem d53_41 (L : Nat) (xs : Nat → Int32) : decode (ax_code (mgT L xs) 53) 41 = .ok (.getfield 46, 3) := by
  show decode prog_7_method_8_code 41 = _
  decide +kernel
theorem d53_44 (L : Nat) (xs : Nat → Int32) : decode (ax_code (mgT L xs) 53) 44 = .ok (.iconst 0, 1) := by
  show decode prog_7_method_8_code 44 = _
  decide +kernel
theorem d53_45 (L : Nat) (xs : Nat → Int32) : decode (ax_code (mgT L xs) 53) 45 = .ok (.aload_n 1, 1) := by
  show decode prog_7_method_8_code 45 = _
  decide +kernel
theorem d53_46 (L : Nat) (xs : Nat → Int32) : decode (ax_code (mgT L xs) 53) 46 = .ok (.iconst 0, 1) := by
  show decode prog_7_method_8_code 46 = _
  decide +kernel
theorem d53_47 (L : Nat) (xs : Nat → Int32) : decode (ax_code (mgT L xs) 53) 47 = .ok (.invokevirtual 49, 3) := by
  show decode prog_7_method_8_code 47 = _
  decide +kernel
theorem d53_50 (L : Nat) (xs : Nat → Int32) : decode (ax_code (mgT L xs) 53) 50 = .ok (.ifCond .eq 41, 3) := by
  show decode prog_7_method_8_code 50 = _
  decide +kernel
theorem d53_53 (L : Nat) (xs : Nat → Int32) : decode (ax_code (mgT L xs) 53) 53 = .ok (.aload_n 0, 1) := by
  show decode prog_7_method_8_code 53 = _
  decide +kernel
theorem d53_54 (L : Nat) (xs : Nat → Int32) : decode (ax_code (mgT L xs) 53) 54 = .ok (.getfield 11, 3) := by
  show decode prog_7_method_8_code 54 = _
  decide +kernel
theorem d53_57 (L : Nat) (xs : Nat → Int32) : decode (ax_code (mgT L xs) 53) 57 = .ok (.iload 4, 2) := by
  show decode prog_7_method_8_code 57 = _
  decide +kernel
theorem d53_59 (L : Nat) (xs : Nat → Int32) : decode (ax_code (mgT L xs) 53) 59 = .ok (.aaload, 1) := by
  show decode prog_7_method_8_code 59 = _
  decide +kernel
theorem d53_60 (L : Nat) (xs : Nat → Int32) : decode (ax_code (mgT L xs) 53) 60 = .ok (.getfield 53, 3) := by
  show decode prog_7_method_8_code 60 = _
  decide +kernel
theorem d53_63 (L : Nat) (xs : Nat → Int32) : decode (ax_code (mgT L xs) 53) 63 = .ok (.iconst 3, 1) := by
  show decode prog_7_method_8_code 63 = _
  decide +kernel
theorem d53_64 (L : Nat) (xs : Nat → Int32) : decode (ax_code (mgT L xs) 53) 64 = .ok (.if_icmp .ne 5, 3) := by
  show decode prog_7_method_8_code 64 = _
  decide +kernel
theorem d53_67 (L : Nat) (xs : Nat → Int32) : decode (ax_code (mgT L xs) 53) 67 = .ok (.iconst (-1), 1) := by
  show decode prog_7_method_8_code 67 = _
  decide +kernel
theorem d53_68 (L : Nat) (xs : Nat → Int32) : decode (ax_code (mgT L xs) 53) 68 = .ok (.ireturn, 1) := by
  show decode prog_7_method_8_code 68 = _
  decide +kernel
theorem d53_69 (L : Nat) (xs : Nat → Int32) : decode (ax_code (mgT L xs) 53) 69 = .ok (.iload_n 3, 1) := by
  show decode prog_7_method_8_code 69 = _
  decide +kernel
theorem d53_70 (L : Nat) (xs : Nat → Int32) : decode (ax_code (mgT L xs) 53) 70 = .ok (.aload_n 0, 1) := by
  show decode prog_7_method_8_code 70 = _
  decide +kernel
theorem d53_71 (L : Nat) (xs : Nat → Int32) : decode (ax_code (mgT L xs) 53) 71 = .ok (.getfield 11, 3) := by
  show decode prog_7_method_8_code 71 = _
  decide +kernel
theorem d53_74 (L : Nat) (xs : Nat → Int32) : decode (ax_code (mgT L xs) 53) 74 = .ok (.iload 4, 2) := by
  show decode prog_7_method_8_code 74 = _
  decide +kernel
theorem d53_76 (L : Nat) (xs : Nat → Int32) : decode (ax_code (mgT L xs) 53) 76 = .ok (.aaload, 1) := by
  show decode prog_7_method_8_code 76 = _
  decide +kernel
theorem d53_77 (L : Nat) (xs : Nat → Int32) : decode (ax_code (mgT L xs) 53) 77 = .ok (.getfield 53, 3) := by
  show decode prog_7_method_8_code 77 = _
  decide +kernel
theorem d53_80 (L : Nat) (xs : Nat → Int32) : decode (ax_code (mgT L xs) 53) 80 = .ok (.iload_n 2, 1) := by
  show decode prog_7_method_8_code 80 = _
  decide +kernel
theorem d53_81 (L : Nat) (xs : Nat → Int32) : decode (ax_code (mgT L xs) 53) 81 = .ok (.if_icmp .ne 7, 3) := by
  show decode prog_7_method_8_code 81 = _
  decide +kernel
theorem d53_84 (L : Nat) (xs : Nat → Int32) : decode (ax_code (mgT L xs) 53) 84 = .ok (.iconst 1, 1) := by
  show decode prog_7_method_8_code 84 = _
  decide +kernel
theorem d53_85 (L : Nat) (xs : Nat → Int32) : decode (ax_code (mgT L xs) 53) 85 = .ok (.goto 4, 3) := by
  show decode prog_7_method_8_code 85 = _
  decide +kernel
theorem d53_88 (L : Nat) (xs : Nat → Int32) : decode (ax_code (mgT L xs) 53) 88 = .ok (.iconst 0, 1) := by
  show decode prog_7_method_8_code 88 = _
  decide +kernel
theorem d53_89 (L : Nat) (xs : Nat → Int32) : decode (ax_code (mgT L xs) 53) 89 = .ok (.iadd, 1) := by
  show decode prog_7_method_8_code 89 = _
  decide +kernel
theorem d53_90 (L : Nat) (xs : Nat → Int32) : decode (ax_code (mgT L xs) 53) 90 = .ok (.istore_n 3, 1) := by
  show decode prog_7_method_8_code 90 = _
  decide +kernel
theorem d53_91 (L : Nat) (xs : Nat → Int32) : decode (ax_code (mgT L xs) 53) 91 = .ok (.iinc 4 1, 3) := by
  show decode prog_7_method_8_code 91 = _
  decide +kernel
theorem d53_94 (L : Nat) (xs : Nat → Int32) : decode (ax_code (mgT L xs) 53) 94 = .ok (.goto (-69), 3) := by
  show decode prog_7_method_8_code 94 = _
  decide +kernel
theorem d53_97 (L : Nat) (xs : Nat → Int32) : decode (ax_code (mgT L xs) 53) 97 = .ok (.iload_n 3, 1) := by
  show decode prog_7_method_8_code 97 = _
  decide +kernel
theorem d53_98 (L : Nat) (xs : Nat → Int32) : decode (ax_code (mgT L xs) 53) 98 = .ok (.ireturn, 1) := by
  show decode prog_7_method_8_code 98 = _
  decide +kernel
theorem d55_0 (L : Nat) (xs : Nat → Int32) : decode (ax_code (mgT L xs) 55) 0 = .ok (.aload_n 0, 1) := by
  show decode prog_6_method_3_code 0 = _
  decide +kernel
theorem d55_1 (L : Nat) (xs : Nat → Int32) : decode (ax_code (mgT L xs) 55) 1 = .ok (.getfield 31, 3) := by
  show decode prog_6_method_3_code 1 = _
  decide +kernel
theorem d55_4 (L : Nat) (xs : Nat → Int32) : decode (ax_code (mgT L xs) 55) 4 = .ok (.iload_n 1, 1) := by
  show decode prog_6_method_3_code 4 = _
  decide +kernel
theorem d55_5 (L : Nat) (xs : Nat → Int32) : decode (ax_code (mgT L xs) 55) 5 = .ok (.if_icmp .ne 20, 3) := by
  show decode prog_6_method_3_code 5 = _
  decide +kernel
theorem d55_8 (L : Nat) (xs : Nat → Int32) : decode (ax_code (mgT L xs) 55) 8 = .ok (.aload_n 0, 1) := by
  show decode prog_6_method_3_code 8 = _
  decide +kernel
theorem d55_9 (L : Nat) (xs : Nat → Int32) : decode (ax_code (mgT L xs) 55) 9 = .ok (.getfield 14, 3) := by
  show decode prog_6_method_3_code 9 = _
  decide +kernel
theorem d55_12 (L : Nat) (xs : Nat → Int32) : decode (ax_code (mgT L xs) 55) 12 = .ok (.iconst 0, 1) := by
  show decode prog_6_method_3_code 12 = _
  decide +kernel
theorem d55_13 (L : Nat) (xs : Nat → Int32) : decode (ax_code (mgT L xs) 55) 13 = .ok (.aload_n 2, 1) := by
  show decode prog_6_method_3_code 13 = _
  decide +kernel
theorem d55_14 (L : Nat) (xs : Nat → Int32) : decode (ax_code (mgT L xs) 55) 14 = .ok (.iconst 0, 1) := by
  show decode prog_6_method_3_code 14 = _
  decide +kernel
theorem d55_15 (L : Nat) (xs : Nat → Int32) : decode (ax_code (mgT L xs) 55) 15 = .ok (.invokevirtual 48, 3) := by
  show decode prog_6_method_3_code 15 = _
  decide +kernel
theorem d55_18 (L : Nat) (xs : Nat → Int32) : decode (ax_code (mgT L xs) 55) 18 = .ok (.ifCond .eq 7, 3) := by
  show decode prog_6_method_3_code 18 = _
  decide +kernel
theorem d55_21 (L : Nat) (xs : Nat → Int32) : decode (ax_code (mgT L xs) 55) 21 = .ok (.iconst 1, 1) := by
  show decode prog_6_method_3_code 21 = _
  decide +kernel
theorem d55_22 (L : Nat) (xs : Nat → Int32) : decode (ax_code (mgT L xs) 55) 22 = .ok (.goto 4, 3) := by
  show decode prog_6_method_3_code 22 = _
  decide +kernel
theorem d55_25 (L : Nat) (xs : Nat → Int32) : decode (ax_code (mgT L xs) 55) 25 = .ok (.iconst 0, 1) := by
  show decode prog_6_method_3_code 25 = _
  decide +kernel
theorem d55_26 (L : Nat) (xs : Nat → Int32) : decode (ax_code (mgT L xs) 55) 26 = .ok (.ireturn, 1) := by
  show decode prog_6_method_3_code 26 = _
  decide +kernel
section TB
variable {L : Nat} {xs : Nat → Int32} {d a b r : Nat} {s : mg_s} {p : Nat → Nat} {R : List rowT} {l m : List Nat}
theorem ts_same (H : isT a) (hl : hold s a l) (H2 : isT b) (hm : hold s b m) : ca L xs (d + 1) 54 [.ref a, .int 0, .ref b, .int 0] s (fun v s' => v = some (.int (nI (bI (decide (l = m))))) ∧ s = s') := by
  have h := tx_same (L := L) (xs := xs) (d := d) (fr := 0) (fr2 := 0) H hl.1 H2 hm.1 (Nat.zero_le _) (Nat.zero_le _)
  rw [hold_at hl, hold_at hm, t_same_eq] at h
  exact h
theorem ts_size (H : isT a) (hl : hold s a l) : ca L xs (d + 1) 15 [.ref a] s (fun v s' => v = some (.int (nI l.length)) ∧ s = s') := tx_size H hl.1
theorem ts_find {c fr to e : Nat} (H : isT a) (hl : hold s a l) (hc : c < 65536) (hto : to < 2 ^ 30) (hf : fr ≤ to) (he : f_find (gl l) c fr (to - fr) = e) : ca L xs (d + 2) 37 [.ref a, .int (nI c), .int (nI fr), .int (nI to)] s (fun v s' => v = some (.int (nI e)) ∧ s = s') := by
  have h := tx_find (L := L) (xs := xs) (d := d) H hl.1 hc hto hf
  rw [hold_at hl, he] at h
  exact h
theorem ts_addr {fr to : Nat} (H : isT a) (hl : hold s a l) (hto : to < 2 ^ 29) (hf : fr ≤ to + 1) : ca L xs (d + 3) 40 [.ref a, .int (nI fr), .int (nI to)] s (fun v s' => v = some (.long (oL (f_addr (gl l) to (to + 1 - fr) 0 0 fr fr))) ∧ s = s') := by
  have h := tx_address (L := L) (xs := xs) (d := d) H hl.1 hto hf
  rw [hold_at hl] at h
  exact h
theorem seg_all (m : List Nat) : seg m 0 m.length = m := by simp [seg]
theorem tset_tab {s s' : mg_s} (h : tset s a l s') (ha : a + 1 < 7 ∨ 87 ≤ a) (h3 : ¬ a = 3) (T : isTab s p R) : isTab s' p R :=
  isTab_of T (h.i (by omega)) (fun q h1 h2 => ⟨h.i (by omega), h.a (by omega)⟩) (by rw [h.r])
/-- rows that the name m has of the kind kd, none where it is broken -/
def f_ask (m : List Nat) (kd : Nat) : List rowT → Nat → Option Nat
  | [], acc => some acc
  | q :: R, acc => if q.2.1 = m then (if q.1 = 3 then none else f_ask m kd R (acc + if q.1 = kd then 1 else 0)) else f_ask m kd R acc
theorem drop_cons {α : Type} {R Rs : List α} {q : α} {k : Nat} (h : R.drop k = q :: Rs) : R[k]? = some q ∧ k < R.length ∧ R.drop (k + 1) = Rs := by
  have h1 : R[k]? = some q := by rw [← List.head?_drop, h]; rfl
  exact ⟨h1, (List.getElem?_eq_some_iff.mp h1).1, by rw [← List.tail_drop, h]; rfl⟩
theorem rw_is {kd : Nat} {q : rowT} (Hr : isR r) (hq : isRow s r q) (Hb : isT b) (hm : hold s b m) (hk : kd < 2 ^ 31) : ca L xs (d + 2) 55 [.ref r, .int (nI kd), .ref b] s (fun v s' => v = some (.int (nI (bI (decide (q.1 = kd) && decide (q.2.1 = m))))) ∧ s = s') := by
  refine wg_call (Nat.le_of_ble_eq_true rfl) ?_
  have h4 := hq.2.1
  have hbl := bI_lt (decide (q.2.1 = m))
  show wp L xs (d + 1) 55 0 [some (.ref r), some (.int (nI kd)), some (.ref b)] [] s _
  refine wg_aload_n (d55_0 L xs) rfl ?_
  refine wg_get (d55_1 L xs) (kd := 1) (cj := 2) (k0 := 0) rfl (Or.inl rfl) Hr.1 (rw_c Hr) rfl ?_
  refine wg_top (y := (nI q.1)) hq.1 ?_
  refine wg_iload_n (d55_4 L xs) rfl ?_
  refine wn_icmp_ne (d55_5 L xs) (x := q.1) (y := kd) (by omega) (by omega) (t := 25) (by decide) (fun h1 => ?_) (fun h1 => ?_)
  · refine wg_iconst (d55_25 L xs) (x := 0) (by decide) ?_
    exact wg_iret (d55_26 L xs) rfl rfl ⟨by rw [decide_eq_false (by omega)]; rfl, rfl⟩
  · refine wg_aload_n (d55_8 L xs) rfl ?_
    refine wg_get (d55_9 L xs) (kd := 1) (cj := 2) (k0 := 1) rfl (Or.inl rfl) Hr.1 (rw_c Hr) rfl ?_
    refine wg_iconst (d55_12 L xs) (x := 0) (by decide) ?_
    refine wg_aload_n (d55_13 L xs) rfl ?_
    refine wg_iconst (d55_14 L xs) (x := 0) (by decide) ?_
    refine wg_invv (d55_15 L xs) (kd := 7) (mj := 54) (n := 3) rfl (Or.inl rfl) (ys := [.int 0, .ref b, .int 0]) (r := []) rfl rfl (rw_n Hr).1 (tx_c (rw_n Hr)) rfl (Nat.le_of_ble_eq_true rfl) (ts_same (rw_n Hr) hq.2.2.1 Hb hm) ?_
    rintro _ _ ⟨rfl, rfl⟩
    refine wn_if_eq (d55_18 L xs) (x := bI (decide (q.2.1 = m))) (by omega) (t := 25) (by decide) (fun h2 => ?_) (fun h2 => ?_)
    · refine wg_iconst (d55_25 L xs) (x := 0) (by decide) ?_
      exact wg_iret (d55_26 L xs) rfl rfl ⟨by rw [bI_f (b := decide (q.2.1 = m)) (by omega), Bool.and_false]; rfl, rfl⟩
    · refine wg_iconst (d55_21 L xs) (x := 1) (by decide) ?_
      refine wg_goto (d55_22 L xs) (t := 26) (by decide) ?_
      exact wg_iret (d55_26 L xs) rfl rfl ⟨by rw [decide_eq_true (show q.1 = kd by omega), bI_t (b := decide (q.2.1 = m)) (by omega)]; rfl, rfl⟩
theorem tb_ask_l {kd : Nat} (T : isTab s p R) (Hb : isT b) (hm : hold s b m) (hkd : kd < 2 ^ 31) : ∀ (Rs : List rowT) (k acc : Nat), R.drop k = Rs → acc ≤ k → k ≤ R.length → wp L xs (d + 1) 53 25 [some (.ref 3), some (.ref b), some (.int (nI kd)), some (.int (nI acc)), some (.int (nI k))] [] s (fun v s' => v = some (.int (oI (f_ask m kd Rs acc))) ∧ s = s') := by
  have hR16 := T.2.1
  intro Rs
  induction Rs with
  | nil =>
    intro k acc hk ha hkl
    have hkl2 : R.length ≤ k := List.drop_eq_nil_iff.mp hk
    refine wg_iload (d53_25 L xs) rfl ?_
    refine wg_aload_n (d53_27 L xs) rfl ?_
    refine wg_get (d53_28 L xs) (kd := 1) (cj := 3) (k0 := 1) rfl (Or.inl rfl) (by decide) rfl rfl ?_
    refine wg_top (y := (nI R.length)) T.1 ?_
    refine wn_icmp_ge (d53_31 L xs) (x := k) (y := R.length) (by omega) (by omega) (t := 97) (by decide) (fun h1 => ?_) (fun h1 => by omega)
    refine wg_iload_n (d53_97 L xs) rfl ?_
    exact wg_iret (d53_98 L xs) rfl rfl ⟨rfl, rfl⟩
  | cons q Rs ih =>
    intro k acc hk ha hkl
    obtain ⟨hk1, hk2, hk3⟩ := drop_cons hk
    have hq := T.2.2.2.2 k q hk1
    have h4 := hq.2.1
    have hbl := bI_lt (decide (q.2.1 = m))
    rw [f_ask]
    refine wg_iload (d53_25 L xs) rfl ?_
    refine wg_aload_n (d53_27 L xs) rfl ?_
    refine wg_get (d53_28 L xs) (kd := 1) (cj := 3) (k0 := 1) rfl (Or.inl rfl) (by decide) rfl rfl ?_
    refine wg_top (y := (nI R.length)) T.1 ?_
    refine wn_icmp_ge (d53_31 L xs) (x := k) (y := R.length) (by omega) (by omega) (t := 97) (by decide) (fun h1 => by omega) (fun h1 => ?_)
    refine wg_aload_n (d53_34 L xs) rfl ?_
    refine wg_get (d53_35 L xs) (kd := 1) (cj := 3) (k0 := 0) rfl (Or.inl rfl) (by decide) rfl rfl ?_
    refine wg_iload (d53_38 L xs) rfl ?_
    refine wg_aald (d53_40 L xs) (n := 16) (by decide) rfl rfl (vp_in_nI (n := k) (by omega) (by omega)) (v := .ref (p k)) (by rw [nI_nat (n := k) (by omega), (T.2.2.1 k (by omega)).1]; rfl) ?_
    refine wg_get (d53_41 L xs) (kd := 2) (cj := 2) (k0 := 1) rfl (Or.inr rfl) (T.2.2.1 k (by omega)).2.1 (rw_c (T.2.2.1 k (by omega)).2) rfl ?_
    refine wg_iconst (d53_44 L xs) (x := 0) (by decide) ?_
    refine wg_aload_n (d53_45 L xs) rfl ?_
    refine wg_iconst (d53_46 L xs) (x := 0) (by decide) ?_
    refine wg_invv (d53_47 L xs) (kd := 7) (mj := 54) (n := 3) rfl (Or.inl rfl) (ys := [.int 0, .ref b, .int 0]) (r := []) rfl rfl (rw_n (T.2.2.1 k (by omega)).2).1 (tx_c (rw_n (T.2.2.1 k (by omega)).2)) rfl (Nat.le_of_ble_eq_true rfl) (ts_same (rw_n (T.2.2.1 k (by omega)).2) hq.2.2.1 Hb hm) ?_
    rintro _ _ ⟨rfl, rfl⟩
    refine wn_if_eq (d53_50 L xs) (x := bI (decide (q.2.1 = m))) (by omega) (t := 91) (by decide) (fun h2 => ?_) (fun h2 => ?_)
    · refine wg_iinc (d53_91 L xs) (y := (nI (k + 1))) (ls' := [some (.ref 3), some (.ref b), some (.int (nI kd)), some (.int (nI acc)), some (.int (nI (k + 1)))]) rfl (nI_add k 1) rfl ?_
      refine wg_goto (d53_94 L xs) (t := 25) (by decide) ?_
      rw [if_neg (of_decide_eq_false (bI_f (by omega)))]; exact ih (k + 1) acc hk3 (by omega) (by omega)
    · refine wg_aload_n (d53_53 L xs) rfl ?_
      refine wg_get (d53_54 L xs) (kd := 1) (cj := 3) (k0 := 0) rfl (Or.inl rfl) (by decide) rfl rfl ?_
      refine wg_iload (d53_57 L xs) rfl ?_
      refine wg_aald (d53_59 L xs) (n := 16) (by decide) rfl rfl (vp_in_nI (n := k) (by omega) (by omega)) (v := .ref (p k)) (by rw [nI_nat (n := k) (by omega), (T.2.2.1 k (by omega)).1]; rfl) ?_
      refine wg_get (d53_60 L xs) (kd := 2) (cj := 2) (k0 := 0) rfl (Or.inr rfl) (T.2.2.1 k (by omega)).2.1 (rw_c (T.2.2.1 k (by omega)).2) rfl ?_
      refine wg_top (y := (nI q.1)) hq.1 ?_
      refine wg_iconst (d53_63 L xs) (x := 3) (by decide) ?_
      refine wn_icmp_ne (d53_64 L xs) (x := q.1) (y := 3) (by omega) (by omega) (t := 69) (by decide) (fun h3 => ?_) (fun h3 => ?_)
      · refine wg_iload_n (d53_69 L xs) rfl ?_
        refine wg_aload_n (d53_70 L xs) rfl ?_
        refine wg_get (d53_71 L xs) (kd := 1) (cj := 3) (k0 := 0) rfl (Or.inl rfl) (by decide) rfl rfl ?_
        refine wg_iload (d53_74 L xs) rfl ?_
        refine wg_aald (d53_76 L xs) (n := 16) (by decide) rfl rfl (vp_in_nI (n := k) (by omega) (by omega)) (v := .ref (p k)) (by rw [nI_nat (n := k) (by omega), (T.2.2.1 k (by omega)).1]; rfl) ?_
        refine wg_get (d53_77 L xs) (kd := 2) (cj := 2) (k0 := 0) rfl (Or.inr rfl) (T.2.2.1 k (by omega)).2.1 (rw_c (T.2.2.1 k (by omega)).2) rfl ?_
        refine wg_top (y := (nI q.1)) hq.1 ?_
        refine wg_iload_n (d53_80 L xs) rfl ?_
        refine wn_icmp_ne (d53_81 L xs) (x := q.1) (y := kd) (by omega) (by omega) (t := 88) (by decide) (fun h4 => ?_) (fun h4 => ?_)
        · refine wg_iconst (d53_88 L xs) (x := 0) (by decide) ?_
          refine wg_iadd (d53_89 L xs) ?_
          refine wg_top (y := (nI (acc + 0))) (nI_add acc 0) ?_
          refine wg_istore_n (d53_90 L xs) (ls' := [some (.ref 3), some (.ref b), some (.int (nI kd)), some (.int (nI (acc + 0))), some (.int (nI k))]) (Nat.le_of_ble_eq_true rfl) rfl ?_
          refine wg_iinc (d53_91 L xs) (y := (nI (k + 1))) (ls' := [some (.ref 3), some (.ref b), some (.int (nI kd)), some (.int (nI (acc + 0))), some (.int (nI (k + 1)))]) rfl (nI_add k 1) rfl ?_
          refine wg_goto (d53_94 L xs) (t := 25) (by decide) ?_
          rw [if_pos (of_decide_eq_true (bI_t (by omega))), if_neg (by omega), if_neg (by omega)]; exact ih (k + 1) _ hk3 (by omega) (by omega)
        · refine wg_iconst (d53_84 L xs) (x := 1) (by decide) ?_
          refine wg_goto (d53_85 L xs) (t := 89) (by decide) ?_
          refine wg_iadd (d53_89 L xs) ?_
          refine wg_top (y := (nI (acc + 1))) (nI_add acc 1) ?_
          refine wg_istore_n (d53_90 L xs) (ls' := [some (.ref 3), some (.ref b), some (.int (nI kd)), some (.int (nI (acc + 1))), some (.int (nI k))]) (Nat.le_of_ble_eq_true rfl) rfl ?_
          refine wg_iinc (d53_91 L xs) (y := (nI (k + 1))) (ls' := [some (.ref 3), some (.ref b), some (.int (nI kd)), some (.int (nI (acc + 1))), some (.int (nI (k + 1)))]) rfl (nI_add k 1) rfl ?_
          refine wg_goto (d53_94 L xs) (t := 25) (by decide) ?_
          rw [if_pos (of_decide_eq_true (bI_t (by omega))), if_neg (by omega), if_pos (by omega)]; exact ih (k + 1) _ hk3 (by omega) (by omega)
      · refine wg_iconst (d53_67 L xs) (x := (-1)) (by decide) ?_
        exact wg_iret (d53_68 L xs) rfl rfl ⟨by rw [if_pos (of_decide_eq_true (bI_t (by omega))), if_pos (by omega)]; rfl, rfl⟩
theorem tb_ask {kd : Nat} (T : isTab s p R) (Hb : isT b) (hm : hold s b m) (hb5 : ¬ b = 5) (hml : m.length ≤ 55) (hkd : kd < 2 ^ 31) : ca L xs (d + 2) 53 [.ref 3, .ref b, .int (nI kd)] s (fun v s' => v = some (.int (oI (f_ask m kd R 0))) ∧ tset s 5 m s') := by
  refine wg_call (Nat.le_of_ble_eq_true rfl) ?_
  have h55 := isT_all.2.2.2.2.2.2.1
  show wp L xs (d + 1) 53 0 [some (.ref 3), some (.ref b), some (.int (nI kd)), none, none] [] s _
  refine wg_aload_n (d53_0 L xs) rfl ?_
  refine wg_get (d53_1 L xs) (kd := 1) (cj := 3) (k0 := 2) rfl (Or.inl rfl) (by decide) rfl rfl ?_
  refine wg_invv (d53_4 L xs) (kd := 7) (mj := 18) (n := 0) rfl (Or.inl rfl) (ys := []) (r := []) rfl rfl (by decide) rfl rfl (Nat.le_of_ble_eq_true rfl) (ts_clear isT_all.2.1) ?_
  rintro _ s1 ⟨rfl, e1⟩
  have hm1 : hold s1 b m := e1.other hb5 hm
  refine wg_aload_n (d53_7 L xs) rfl ?_
  refine wg_get (d53_8 L xs) (kd := 1) (cj := 3) (k0 := 2) rfl (Or.inl rfl) (by decide) rfl rfl ?_
  refine wg_aload_n (d53_11 L xs) rfl ?_
  refine wg_iconst (d53_12 L xs) (x := 0) (by decide) ?_
  refine wg_aload_n (d53_13 L xs) rfl ?_
  refine wg_invv (d53_14 L xs) (kd := 7) (mj := 15) (n := 0) rfl (Or.inl rfl) (ys := []) (r := [.int 0, .ref b, .ref 5]) rfl rfl Hb.1 (tx_c Hb) rfl (Nat.le_of_ble_eq_true rfl) (ts_size Hb hm1) ?_
  rintro _ _ ⟨rfl, rfl⟩
  refine wg_invv (d53_17 L xs) (kd := 7) (mj := 44) (n := 3) rfl (Or.inl rfl) (ys := [.int (nI m.length), .int 0, .ref b]) (r := []) rfl rfl (by decide) rfl rfl (Nat.le_of_ble_eq_true rfl) (ts_addPart (fr := 0) isT_all.2.1 e1.has Hb hm1 hb5 (by omega) (by omega)) ?_
  rintro _ s2 ⟨rfl, e2⟩
  have e3 : tset s 5 m s2 := by
    have h9 := e1.trans e2
    rw [seg_all, List.nil_append, List.take_of_length_le (by omega)] at h9
    exact h9
  refine wg_iconst (d53_20 L xs) (x := 0) (by decide) ?_
  refine wg_istore_n (d53_21 L xs) (ls' := [some (.ref 3), some (.ref b), some (.int (nI kd)), some (.int 0), none]) (Nat.le_of_ble_eq_true rfl) rfl ?_
  refine wg_iconst (d53_22 L xs) (x := 0) (by decide) ?_
  refine wg_istore (d53_23 L xs) (ls' := [some (.ref 3), some (.ref b), some (.int (nI kd)), some (.int 0), some (.int 0)]) (Nat.le_of_ble_eq_true rfl) rfl ?_
  exact wp_mono (tb_ask_l (tset_tab e3 (Or.inl (by decide)) (by decide) T) Hb (e3.other hb5 hm) hkd R 0 0 rfl (Nat.le_refl _) (Nat.zero_le _)) (fun v s' h => ⟨h.1, h.2 ▸ e3⟩)
end TB
