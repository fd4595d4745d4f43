/-! the reference asks: the whole method; the class: append, remove -/
theorem d21_25 (L : Nat) (xs : Nat → Int32) : decode (ax_code (mgT L xs) 21) 25 = .ok (.iload_n 3, 1) := by
  show decode prog_7_method_7_code 25 = _
  decide +kernel
theorem d21_26 (L : Nat) (xs : Nat → Int32) : decode (ax_code (mgT L xs) 21) 26 = .ok (.aload_n 0, 1) := by
  show decode prog_7_method_7_code 26 = _
  decide +kernel
theorem d21_27 (L : Nat) (xs : Nat → Int32) : decode (ax_code (mgT L xs) 21) 27 = .ok (.getfield 27, 3) := by
  show decode prog_7_method_7_code 27 = _
  decide +kernel
theorem d21_30 (L : Nat) (xs : Nat → Int32) : decode (ax_code (mgT L xs) 21) 30 = .ok (.if_icmp .ge 23, 3) := by
  show decode prog_7_method_7_code 30 = _
  decide +kernel
theorem d21_33 (L : Nat) (xs : Nat → Int32) : decode (ax_code (mgT L xs) 21) 33 = .ok (.aload_n 0, 1) := by
  show decode prog_7_method_7_code 33 = _
  decide +kernel
theorem d21_34 (L : Nat) (xs : Nat → Int32) : decode (ax_code (mgT L xs) 21) 34 = .ok (.getfield 11, 3) := by
  show decode prog_7_method_7_code 34 = _
  decide +kernel
theorem d21_37 (L : Nat) (xs : Nat → Int32) : decode (ax_code (mgT L xs) 21) 37 = .ok (.iload_n 3, 1) := by
  show decode prog_7_method_7_code 37 = _
  decide +kernel
theorem d21_38 (L : Nat) (xs : Nat → Int32) : decode (ax_code (mgT L xs) 21) 38 = .ok (.iconst 1, 1) := by
  show decode prog_7_method_7_code 38 = _
  decide +kernel
theorem d21_39 (L : Nat) (xs : Nat → Int32) : decode (ax_code (mgT L xs) 21) 39 = .ok (.isub, 1) := by
  show decode prog_7_method_7_code 39 = _
  decide +kernel
theorem d21_40 (L : Nat) (xs : Nat → Int32) : decode (ax_code (mgT L xs) 21) 40 = .ok (.aload_n 0, 1) := by
  show decode prog_7_method_7_code 40 = _
  decide +kernel
theorem d21_41 (L : Nat) (xs : Nat → Int32) : decode (ax_code (mgT L xs) 21) 41 = .ok (.getfield 11, 3) := by
  show decode prog_7_method_7_code 41 = _
  decide +kernel
theorem d21_44 (L : Nat) (xs : Nat → Int32) : decode (ax_code (mgT L xs) 21) 44 = .ok (.iload_n 3, 1) := by
  show decode prog_7_method_7_code 44 = _
  decide +kernel
theorem d21_45 (L : Nat) (xs : Nat → Int32) : decode (ax_code (mgT L xs) 21) 45 = .ok (.aaload, 1) := by
  show decode prog_7_method_7_code 45 = _
  decide +kernel
theorem d21_46 (L : Nat) (xs : Nat → Int32) : decode (ax_code (mgT L xs) 21) 46 = .ok (.aastore, 1) := by
  show decode prog_7_method_7_code 46 = _
  decide +kernel
theorem d21_47 (L : Nat) (xs : Nat → Int32) : decode (ax_code (mgT L xs) 21) 47 = .ok (.iinc 3 1, 3) := by
  show decode prog_7_method_7_code 47 = _
  decide +kernel
theorem d21_50 (L : Nat) (xs : Nat → Int32) : decode (ax_code (mgT L xs) 21) 50 = .ok (.goto (-25), 3) := by
  show decode prog_7_method_7_code 50 = _
  decide +kernel
theorem d42_0 (L : Nat) (xs : Nat → Int32) : decode (ax_code (mgT L xs) 42) 0 = .ok (.aload_n 0, 1) := by
  show decode prog_7_method_6_code 0 = _
  decide +kernel
theorem d42_1 (L : Nat) (xs : Nat → Int32) : decode (ax_code (mgT L xs) 42) 1 = .ok (.getfield 27, 3) := by
  show decode prog_7_method_6_code 1 = _
  decide +kernel
theorem d42_4 (L : Nat) (xs : Nat → Int32) : decode (ax_code (mgT L xs) 42) 4 = .ok (.bipush 16, 2) := by
  show decode prog_7_method_6_code 4 = _
  decide +kernel
theorem d42_6 (L : Nat) (xs : Nat → Int32) : decode (ax_code (mgT L xs) 42) 6 = .ok (.if_icmp .ge 27, 3) := by
  show decode prog_7_method_6_code 6 = _
  decide +kernel
theorem d42_9 (L : Nat) (xs : Nat → Int32) : decode (ax_code (mgT L xs) 42) 9 = .ok (.aload_n 0, 1) := by
  show decode prog_7_method_6_code 9 = _
  decide +kernel
theorem d42_10 (L : Nat) (xs : Nat → Int32) : decode (ax_code (mgT L xs) 42) 10 = .ok (.getfield 11, 3) := by
  show decode prog_7_method_6_code 10 = _
  decide +kernel
theorem d42_13 (L : Nat) (xs : Nat → Int32) : decode (ax_code (mgT L xs) 42) 13 = .ok (.aload_n 0, 1) := by
  show decode prog_7_method_6_code 13 = _
  decide +kernel
theorem d42_14 (L : Nat) (xs : Nat → Int32) : decode (ax_code (mgT L xs) 42) 14 = .ok (.getfield 27, 3) := by
  show decode prog_7_method_6_code 14 = _
  decide +kernel
theorem d42_17 (L : Nat) (xs : Nat → Int32) : decode (ax_code (mgT L xs) 42) 17 = .ok (.aaload, 1) := by
  show decode prog_7_method_6_code 17 = _
  decide +kernel
theorem d42_18 (L : Nat) (xs : Nat → Int32) : decode (ax_code (mgT L xs) 42) 18 = .ok (.iload_n 1, 1) := by
  show decode prog_7_method_6_code 18 = _
  decide +kernel
theorem d42_19 (L : Nat) (xs : Nat → Int32) : decode (ax_code (mgT L xs) 42) 19 = .ok (.aload_n 2, 1) := by
  show decode prog_7_method_6_code 19 = _
  decide +kernel
theorem d42_20 (L : Nat) (xs : Nat → Int32) : decode (ax_code (mgT L xs) 42) 20 = .ok (.invokevirtual 34, 3) := by
  show decode prog_7_method_6_code 20 = _
  decide +kernel
theorem d42_23 (L : Nat) (xs : Nat → Int32) : decode (ax_code (mgT L xs) 42) 23 = .ok (.aload_n 0, 1) := by
  show decode prog_7_method_6_code 23 = _
  decide +kernel
theorem d42_24 (L : Nat) (xs : Nat → Int32) : decode (ax_code (mgT L xs) 42) 24 = .ok (.dup, 1) := by
  show decode prog_7_method_6_code 24 = _
  decide +kernel
theorem d42_25 (L : Nat) (xs : Nat → Int32) : decode (ax_code (mgT L xs) 42) 25 = .ok (.getfield 27, 3) := by
  show decode prog_7_method_6_code 25 = _
  decide +kernel
theorem d42_28 (L : Nat) (xs : Nat → Int32) : decode (ax_code (mgT L xs) 42) 28 = .ok (.iconst 1, 1) := by
  show decode prog_7_method_6_code 28 = _
  decide +kernel
theorem d42_29 (L : Nat) (xs : Nat → Int32) : decode (ax_code (mgT L xs) 42) 29 = .ok (.iadd, 1) := by
  show decode prog_7_method_6_code 29 = _
  decide +kernel
theorem d42_30 (L : Nat) (xs : Nat → Int32) : decode (ax_code (mgT L xs) 42) 30 = .ok (.putfield 27, 3) := by
  show decode prog_7_method_6_code 30 = _
  decide +kernel
theorem d42_33 (L : Nat) (xs : Nat → Int32) : decode (ax_code (mgT L xs) 42) 33 = .ok (.return_, 1) := by
  show decode prog_7_method_6_code 33 = _
  decide +kernel
theorem d121_0 (L : Nat) (xs : Nat → Int32) : decode (ax_code (mgT L xs) 121) 0 = .ok (.aload_n 0, 1) := by
  show decode prog_11_method_14_code 0 = _
  decide +kernel
theorem d121_1 (L : Nat) (xs : Nat → Int32) : decode (ax_code (mgT L xs) 121) 1 = .ok (.iconst 1, 1) := by
  show decode prog_11_method_14_code 1 = _
  decide +kernel
theorem d121_2 (L : Nat) (xs : Nat → Int32) : decode (ax_code (mgT L xs) 121) 2 = .ok (.putfield 117, 3) := by
  show decode prog_11_method_14_code 2 = _
  decide +kernel
theorem d121_5 (L : Nat) (xs : Nat → Int32) : decode (ax_code (mgT L xs) 121) 5 = .ok (.aload_n 0, 1) := by
  show decode prog_11_method_14_code 5 = _
  decide +kernel
theorem d121_6 (L : Nat) (xs : Nat → Int32) : decode (ax_code (mgT L xs) 121) 6 = .ok (.aload_n 0, 1) := by
  show decode prog_11_method_14_code 6 = _
  decide +kernel
theorem d121_7 (L : Nat) (xs : Nat → Int32) : decode (ax_code (mgT L xs) 121) 7 = .ok (.getfield 114, 3) := by
  show decode prog_11_method_14_code 7 = _
  decide +kernel
theorem d121_10 (L : Nat) (xs : Nat → Int32) : decode (ax_code (mgT L xs) 121) 10 = .ok (.putfield 121, 3) := by
  show decode prog_11_method_14_code 10 = _
  decide +kernel
theorem d121_13 (L : Nat) (xs : Nat → Int32) : decode (ax_code (mgT L xs) 121) 13 = .ok (.iconst 0, 1) := by
  show decode prog_11_method_14_code 13 = _
  decide +kernel
theorem d121_14 (L : Nat) (xs : Nat → Int32) : decode (ax_code (mgT L xs) 121) 14 = .ok (.istore_n 2, 1) := by
  show decode prog_11_method_14_code 14 = _
  decide +kernel
theorem d121_41 (L : Nat) (xs : Nat → Int32) : decode (ax_code (mgT L xs) 121) 41 = .ok (.aload_n 0, 1) := by
  show decode prog_11_method_14_code 41 = _
  decide +kernel
theorem d121_42 (L : Nat) (xs : Nat → Int32) : decode (ax_code (mgT L xs) 121) 42 = .ok (.iconst 0, 1) := by
  show decode prog_11_method_14_code 42 = _
  decide +kernel
theorem d121_43 (L : Nat) (xs : Nat → Int32) : decode (ax_code (mgT L xs) 121) 43 = .ok (.putfield 124, 3) := by
  show decode prog_11_method_14_code 43 = _
  decide +kernel
theorem d121_46 (L : Nat) (xs : Nat → Int32) : decode (ax_code (mgT L xs) 121) 46 = .ok (.iconst 1, 1) := by
  show decode prog_11_method_14_code 46 = _
  decide +kernel
theorem d121_47 (L : Nat) (xs : Nat → Int32) : decode (ax_code (mgT L xs) 121) 47 = .ok (.istore_n 2, 1) := by
  show decode prog_11_method_14_code 47 = _
  decide +kernel
theorem d121_48 (L : Nat) (xs : Nat → Int32) : decode (ax_code (mgT L xs) 121) 48 = .ok (.iconst 0, 1) := by
  show decode prog_11_method_14_code 48 = _
  decide +kernel
theorem d121_49 (L : Nat) (xs : Nat → Int32) : decode (ax_code (mgT L xs) 121) 49 = .ok (.istore_n 3, 1) := by
  show decode prog_11_method_14_code 49 = _
  decide +kernel
section MA2
variable {L : Nat} {xs : Nat → Int32} {d : Nat} {s : mg_s} {p : Nat → Nat} {R : List rowT} {l m : List Nat}
theorem md_ask {kd : Nat} (T : isTabM s R) (hn : s.1 141 10 = nI m.length) (hm : holdA s 148 0 m) (hm60 : m.length ≤ 60) (hkd : kd < 2 ^ 31) : ca L xs (d + 2) 121 [.ref 141, .int (nI kd)] s (fun v s' => v = some (.int (nI (bI (f_fine m R)))) ∧ mfr s s' [12, 14, 15] [149, 150] ∧ s'.1 141 14 = 1 ∧ s'.1 141 12 = nI m.length ∧ holdA s' 149 0 m ∧ isHit s' (f_hits m kd R 0)) := by
  refine wg_call (Nat.le_of_ble_eq_true rfl) ?_
  show wp L xs (d + 1) 121 0 [some (.ref 141), some (.int (nI kd)), none, none] [] s _
  refine wg_aload_n (d121_0 L xs) rfl ?_
  refine wg_iconst (d121_1 L xs) (x := 1) (by decide) ?_
  refine wg_putz (d121_2 L xs) (cj := 9) (k0 := 14) rfl (by decide) rfl (Nat.le_of_ble_eq_true rfl) rfl (by decide) rfl rfl ?_
  refine wg_aload_n (d121_5 L xs) rfl ?_
  refine wg_aload_n (d121_6 L xs) rfl ?_
  refine wg_get (d121_7 L xs) (kd := 1) (cj := 9) (k0 := 10) rfl (Or.inl rfl) (by decide) rfl rfl ?_
  refine wg_top (y := (nI m.length)) hn ?_
  refine wg_puti (d121_10 L xs) (cj := 9) (k0 := 12) rfl (by decide) rfl (Nat.le_of_ble_eq_true rfl) rfl rfl rfl ?_
  refine wg_iconst (d121_13 L xs) (x := 0) (by decide) ?_
  refine wg_istore_n (d121_14 L xs) (ls' := [some (.ref 141), some (.int (nI kd)), some (.int 0), none]) (Nat.le_of_ble_eq_true rfl) rfl ?_
  refine md_ask_c (m := m) hm60 m.length 0 _ (by omega) hn (holdA_of hm rfl) (fun j hj => absurd hj (Nat.not_lt_zero j)) (fun s1 g1 g2 => ?_)
  have f0 : mfr s (mg_I (mg_I s 141 14 1) 141 12 (nI m.length)) [12, 14, 15] [149, 150] := (mfr_I s (by decide)).trans (mfr_I _ (by decide))
  have f1 : mfr s s1 [12, 14, 15] [149, 150] := f0.trans (g1.more (by decide) (by decide))
  have f2 : mfr s (mg_I s1 141 15 0) [12, 14, 15] [149, 150] := f1.trans (mfr_I s1 (by decide))
  refine wg_aload_n (d121_41 L xs) rfl ?_
  refine wg_iconst (d121_42 L xs) (x := 0) (by decide) ?_
  refine wg_puti (d121_43 L xs) (cj := 9) (k0 := 15) rfl (by decide) rfl (Nat.le_of_ble_eq_true rfl) rfl rfl rfl ?_
  refine wg_iconst (d121_46 L xs) (x := 1) (by decide) ?_
  refine wg_istore_n (d121_47 L xs) (ls' := [some (.ref 141), some (.int (nI kd)), some (.int 1), none]) (Nat.le_of_ble_eq_true rfl) rfl ?_
  refine wg_iconst (d121_48 L xs) (x := 0) (by decide) ?_
  refine wg_istore_n (d121_49 L xs) (ls' := [some (.ref 141), some (.int (nI kd)), some (.int 1), some (.int 0)]) (Nat.le_of_ble_eq_true rfl) rfl ?_
  refine wp_mono (md_ask_r (m := m) hm60 hkd R 0 true [] _ rfl (Nat.zero_le _) (Nat.le_refl _) (f2.tab (by decide) (fun a h1 h2 => by simp; omega) T) ((f2.2.1 10 (by decide)).trans hn) (f2.hold (by decide) hm) ⟨rfl, fun j hj => absurd hj (Nat.not_lt_zero j)⟩) (fun v s' h => ?_)
  have f3 : mfr s s' [12, 14, 15] [149, 150] := f2.trans (h.2.1.more (by decide) (by decide))
  refine ⟨by rw [h.1, Bool.true_and], f3, ?_, ?_, h.2.1.hold (by decide) (holdA_of g2 rfl), by have := h.2.2; rwa [List.nil_append] at this⟩
  · rw [h.2.1.2.1 14 (by decide)]
    show s1.1 141 14 = 1
    rw [g1.2.1 14 (by decide)]
    rfl
  · rw [h.2.1.2.1 12 (by decide)]
    show s1.1 141 12 = nI m.length
    rw [g1.2.1 12 (by decide)]
    rfl
theorem tb_appended {s s1 : mg_s} {q : rowT} (T : isTab s p R) (hR : R.length < 16) (o : onl s s1 (p R.length) (p R.length + 5)) (hq : isRow s1 (p R.length) q) : isTab (mg_I s1 3 1 (nI (R.length + 1))) p (R ++ [q]) ∧ onl s (mg_I s1 3 1 (nI (R.length + 1))) 3 87 := by
  obtain ⟨t1, t2, t3, t4, t5⟩ := T
  have hp := rw_lt (t3 R.length hR).2
  refine ⟨⟨?_, by rw [List.length_append, List.length_singleton]; omega, ?_, t4, fun k q' hk => ?_⟩, ?_⟩
  · rw [mg_I_own, List.length_append]; rfl
  · intro k hk
    show s1.2.2.1 k = _ ∧ _
    rw [o.2]
    exact t3 k hk
  · by_cases e : k < R.length
    · rw [List.getElem?_append_left e] at hk
      have hne : ¬ p k = p R.length := fun h => by have := t4 k R.length (by omega) hR h; omega
      have hap := rw_apart (t3 k (by omega)).2 (t3 R.length hR).2 hne
      have hpk := rw_lt (t3 k (by omega)).2
      refine isRow_of (t5 k q' hk) (fun a h1 h2 => ?_)
      have := o.1 a (by omega)
      exact ⟨(mg_I_oth (by omega)).trans this.1, this.2⟩
    · have hk2 : k < (R ++ [q]).length := (List.getElem?_eq_some_iff.mp hk).1
      rw [List.length_append, List.length_singleton] at hk2
      obtain rfl : k = R.length := by omega
      rw [List.getElem?_append_right (Nat.le_refl _), Nat.sub_self] at hk
      cases hk
      refine isRow_of hq (fun a h1 h2 => ⟨mg_I_oth (by omega), rfl⟩)
  · refine ⟨fun a ha => ?_, ?_⟩
    · have := o.1 a (by omega)
      exact ⟨(mg_I_oth (by omega)).trans this.1, this.2⟩
    · show s1.2.2 = s.2.2
      exact o.2
theorem tb_append {kd e : Nat} (T : isTab s p R) (hR : R.length < 16) (hl : hold s 1 l) (hk4 : kd ≤ 4) (he : f_find (gl l) 32 0 (l.length - 0) = e) (he1 : 1 ≤ e) (he48 : e ≤ 48) : ca L xs (d + 5) 42 [.ref 3, .int (nI kd), .ref 1] s (fun v s' => v = none ∧ isTab s' p (R ++ [t_row l kd e]) ∧ onl s s' 3 87) := by
  refine wg_call (Nat.le_of_ble_eq_true rfl) ?_
  have hpl := rw_lt (T.2.2.1 R.length hR).2
  show wp L xs (d + 4) 42 0 [some (.ref 3), some (.int (nI kd)), some (.ref 1)] [] s _
  refine wg_aload_n (d42_0 L xs) rfl ?_
  refine wg_get (d42_1 L xs) (kd := 1) (cj := 3) (k0 := 1) rfl (Or.inl rfl) (by decide) rfl rfl ?_
  refine wg_top (y := (nI R.length)) T.1 ?_
  refine wg_bipush (d42_4 L xs) (x := 16) (by decide) ?_
  refine wn_icmp_ge (d42_6 L xs) (x := R.length) (y := 16) (by omega) (by omega) (t := 33) (by decide) (fun h1 => by omega) (fun h1 => ?_)
  refine wg_aload_n (d42_9 L xs) rfl ?_
  refine wg_get (d42_10 L xs) (kd := 1) (cj := 3) (k0 := 0) rfl (Or.inl rfl) (by decide) rfl rfl ?_
  refine wg_aload_n (d42_13 L xs) rfl ?_
  refine wg_get (d42_14 L xs) (kd := 1) (cj := 3) (k0 := 1) rfl (Or.inl rfl) (by decide) rfl rfl ?_
  refine wg_top (y := (nI R.length)) T.1 ?_
  refine wg_aald (d42_17 L xs) (n := 16) (by decide) rfl rfl (vp_in_nI (n := R.length) (by omega) (by omega)) (v := .ref (p R.length)) (by rw [nI_nat (n := R.length) (by omega), (T.2.2.1 R.length hR).1]; rfl) ?_
  refine wg_iload_n (d42_18 L xs) rfl ?_
  refine wg_aload_n (d42_19 L xs) rfl ?_
  refine wg_invv (d42_20 L xs) (kd := 7) (mj := 43) (n := 2) rfl (Or.inl rfl) (ys := [.ref 1, .int (nI kd)]) (r := []) rfl rfl (T.2.2.1 R.length hR).2.1 (rw_c (T.2.2.1 R.length hR).2) rfl (Nat.le_of_ble_eq_true rfl) (rw_fill (T.2.2.1 R.length hR).2 hl hk4 he he1 he48) ?_
  rintro _ s1 ⟨rfl, o1, q1⟩
  refine wg_aload_n (d42_23 L xs) rfl ?_
  refine wg_dup (d42_24 L xs) rfl ?_
  refine wg_get (d42_25 L xs) (kd := 1) (cj := 3) (k0 := 1) rfl (Or.inl rfl) (by decide) rfl rfl ?_
  refine wg_top (y := (nI R.length)) ((congrFun (o1.1 3 (by omega)).1 1).trans T.1) ?_
  refine wg_iconst (d42_28 L xs) (x := 1) (by decide) ?_
  refine wg_iadd (d42_29 L xs) ?_
  refine wg_top (y := (nI (R.length + 1))) (nI_add R.length 1) ?_
  refine wg_puti (d42_30 L xs) (cj := 3) (k0 := 1) rfl (by decide) rfl (Nat.le_of_ble_eq_true rfl) rfl rfl rfl ?_
  exact wg_vret (d42_33 L xs) rfl ⟨rfl, (tb_appended T hR o1 q1).1, (tb_appended T hR o1 q1).2⟩
/-- the rows' places while one is taken out -/
def p_sh (p : Nat → Nat) (k i j : Nat) : Nat := if k ≤ j ∧ j + 1 < i then p (j + 1) else p j
def isP (s s1 : mg_s) (q : Nat → Nat) : Prop := s1.1 = s.1 ∧ s1.2.1 = s.2.1 ∧ s1.2.2.2 = s.2.2.2 ∧ ∀ j, j < 16 → s1.2.2.1 j = some (q j)
theorem isP_sh {s s1 : mg_s} {k i : Nat} (h : isP s s1 (p_sh p k i)) (hi : 1 ≤ i) (hk : k < i) : isP s (mg_Rw s1 (i - 1) (p i)) (p_sh p k (i + 1)) := by
  refine ⟨h.1, h.2.1, h.2.2.1, fun j hj => ?_⟩
  show va_up s1.2.2.1 (i - 1) (some (p i)) j = _
  unfold va_up
  by_cases e : j = i - 1
  · rw [if_pos e]
    unfold p_sh
    rw [if_pos (by omega), show j + 1 = i by omega]
  · rw [if_neg e, h.2.2.2 j hj]
    unfold p_sh
    by_cases c : k ≤ j ∧ j + 1 < i
    · rw [if_pos c, if_pos (by omega)]
    · rw [if_neg c, if_neg (by omega)]
theorem tb_rem_l {Q : Option Value → mg_s → Prop} {k : Nat} (T : isTab s p R) (hk : k < R.length) : ∀ (q i : Nat) (s1 : mg_s), i + q = R.length → k < i → isP s s1 (p_sh p k i) → (∀ s2, isP s s2 (p_sh p k R.length) → wp L xs d 21 53 [some (.ref 3), some (.int (nI k)), some (.ref (p k)), some (.int (nI R.length))] [] s2 Q) → wp L xs d 21 25 [some (.ref 3), some (.int (nI k)), some (.ref (p k)), some (.int (nI i))] [] s1 Q := by
  have hR16 := T.2.1
  intro q
  induction q with
  | zero =>
    intro i s1 hi hki hP kk
    obtain rfl : i = R.length := by omega
    refine wg_iload_n (d21_25 L xs) rfl ?_
    refine wg_aload_n (d21_26 L xs) rfl ?_
    refine wg_get (d21_27 L xs) (kd := 1) (cj := 3) (k0 := 1) rfl (Or.inl rfl) (by decide) rfl rfl ?_
    refine wg_top (y := (nI R.length)) ((congrFun (congrFun hP.1 3) 1).trans T.1) ?_
    refine wn_icmp_ge (d21_30 L xs) (x := R.length) (y := R.length) (by omega) (by omega) (t := 53) (by decide) (fun h1 => ?_) (fun h1 => by omega)
    exact kk s1 hP
  | succ q ih =>
    intro i s1 hi hki hP kk
    refine wg_iload_n (d21_25 L xs) rfl ?_
    refine wg_aload_n (d21_26 L xs) rfl ?_
    refine wg_get (d21_27 L xs) (kd := 1) (cj := 3) (k0 := 1) rfl (Or.inl rfl) (by decide) rfl rfl ?_
    refine wg_top (y := (nI R.length)) ((congrFun (congrFun hP.1 3) 1).trans T.1) ?_
    refine wn_icmp_ge (d21_30 L xs) (x := i) (y := R.length) (by omega) (by omega) (t := 53) (by decide) (fun h1 => by omega) (fun h1 => ?_)
    refine wg_aload_n (d21_33 L xs) rfl ?_
    refine wg_get (d21_34 L xs) (kd := 1) (cj := 3) (k0 := 0) rfl (Or.inl rfl) (by decide) rfl rfl ?_
    refine wg_iload_n (d21_37 L xs) rfl ?_
    refine wg_iconst (d21_38 L xs) (x := 1) (by decide) ?_
    refine wg_isub (d21_39 L xs) ?_
    refine wg_top (y := (nI (i - 1))) (pk_sub (a := i) (b := 1) (by omega)) ?_
    refine wg_aload_n (d21_40 L xs) rfl ?_
    refine wg_get (d21_41 L xs) (kd := 1) (cj := 3) (k0 := 0) rfl (Or.inl rfl) (by decide) rfl rfl ?_
    refine wg_iload_n (d21_44 L xs) rfl ?_
    refine wg_aald (d21_45 L xs) (n := 16) (by decide) rfl rfl (vp_in_nI (n := i) (by omega) (by omega)) (v := .ref (p i)) (by rw [nI_nat (n := i) (by omega), (hP.2.2.2 i (by omega)), show p_sh p k i i = p i from if_neg (by omega)]; rfl) ?_
    refine wg_aastR (d21_46 L xs) (vp_in_nI (n := i - 1) (by omega) (by omega)) (T.2.2.1 i (by omega)).2.1 (rw_c (T.2.2.1 i (by omega)).2) ?_
    rw [nI_nat (n := i - 1) (by omega)]
    refine wg_iinc (d21_47 L xs) (y := (nI (i + 1))) (ls' := [some (.ref 3), some (.int (nI k)), some (.ref (p k)), some (.int (nI (i + 1)))]) rfl (nI_add i 1) rfl ?_
    refine wg_goto (d21_50 L xs) (t := 25) (by decide) ?_
    exact ih (i + 1) _ (by omega) (by omega) (isP_sh hP (by omega) hki) kk
end MA2
