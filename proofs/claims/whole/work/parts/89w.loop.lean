/-! the law: every run of calls -/
theorem d0_214 (L : Nat) (xs : Nat → Int32) : decode (ax_code (mgT L xs) 0) 214 = .ok (.aload_n 3, 1) := by
  show decode code 214 = _
  decide +kernel
theorem d0_215 (L : Nat) (xs : Nat → Int32) : decode (ax_code (mgT L xs) 0) 215 = .ok (.iconst 0, 1) := by
  show decode code 215 = _
  decide +kernel
theorem d0_216 (L : Nat) (xs : Nat → Int32) : decode (ax_code (mgT L xs) 0) 216 = .ok (.laload, 1) := by
  show decode code 216 = _
  decide +kernel
theorem d0_217 (L : Nat) (xs : Nat → Int32) : decode (ax_code (mgT L xs) 0) 217 = .ok (.iload 6, 2) := by
  show decode code 217 = _
  decide +kernel
theorem d0_219 (L : Nat) (xs : Nat → Int32) : decode (ax_code (mgT L xs) 0) 219 = .ok (.i2l, 1) := by
  show decode code 219 = _
  decide +kernel
theorem d0_220 (L : Nat) (xs : Nat → Int32) : decode (ax_code (mgT L xs) 0) 220 = .ok (.lcmp, 1) := by
  show decode code 220 = _
  decide +kernel
theorem d0_221 (L : Nat) (xs : Nat → Int32) : decode (ax_code (mgT L xs) 0) 221 = .ok (.ifCond .eq 5, 3) := by
  show decode code 221 = _
  decide +kernel
theorem d0_295 (L : Nat) (xs : Nat → Int32) : decode (ax_code (mgT L xs) 0) 295 = .ok (.aload_n 3, 1) := by
  show decode code 295 = _
  decide +kernel
theorem d0_296 (L : Nat) (xs : Nat → Int32) : decode (ax_code (mgT L xs) 0) 296 = .ok (.iconst 0, 1) := by
  show decode code 296 = _
  decide +kernel
theorem d0_297 (L : Nat) (xs : Nat → Int32) : decode (ax_code (mgT L xs) 0) 297 = .ok (.laload, 1) := by
  show decode code 297 = _
  decide +kernel
theorem d0_298 (L : Nat) (xs : Nat → Int32) : decode (ax_code (mgT L xs) 0) 298 = .ok (.iload 6, 2) := by
  show decode code 298 = _
  decide +kernel
theorem d0_300 (L : Nat) (xs : Nat → Int32) : decode (ax_code (mgT L xs) 0) 300 = .ok (.i2l, 1) := by
  show decode code 300 = _
  decide +kernel
theorem d0_301 (L : Nat) (xs : Nat → Int32) : decode (ax_code (mgT L xs) 0) 301 = .ok (.lcmp, 1) := by
  show decode code 301 = _
  decide +kernel
theorem d0_302 (L : Nat) (xs : Nat → Int32) : decode (ax_code (mgT L xs) 0) 302 = .ok (.ifCond .eq 5, 3) := by
  show decode code 302 = _
  decide +kernel
theorem d0_401 (L : Nat) (xs : Nat → Int32) : decode (ax_code (mgT L xs) 0) 401 = .ok (.aload_n 3, 1) := by
  show decode code 401 = _
  decide +kernel
theorem d0_402 (L : Nat) (xs : Nat → Int32) : decode (ax_code (mgT L xs) 0) 402 = .ok (.iconst 0, 1) := by
  show decode code 402 = _
  decide +kernel
theorem d0_403 (L : Nat) (xs : Nat → Int32) : decode (ax_code (mgT L xs) 0) 403 = .ok (.laload, 1) := by
  show decode code 403 = _
  decide +kernel
theorem d0_404 (L : Nat) (xs : Nat → Int32) : decode (ax_code (mgT L xs) 0) 404 = .ok (.iload 6, 2) := by
  show decode code 404 = _
  decide +kernel
theorem d0_406 (L : Nat) (xs : Nat → Int32) : decode (ax_code (mgT L xs) 0) 406 = .ok (.i2l, 1) := by
  show decode code 406 = _
  decide +kernel
theorem d0_407 (L : Nat) (xs : Nat → Int32) : decode (ax_code (mgT L xs) 0) 407 = .ok (.lcmp, 1) := by
  show decode code 407 = _
  decide +kernel
theorem d0_408 (L : Nat) (xs : Nat → Int32) : decode (ax_code (mgT L xs) 0) 408 = .ok (.ifCond .eq 5, 3) := by
  show decode code 408 = _
  decide +kernel
def RA (s : mg_s) (p : Nat → Nat) (l : List Nat) (R : List rowT) (A : List Nat) (K : kT) : Prop := RC s p l R A K ∧ RM s l R A K ∧ RO l K
theorem RA_60 {s : mg_s} {p : Nat → Nat} {l : List Nat} {R : List rowT} {A : List Nat} {K : kT} (h : RC s p l R A K) : A.length ≤ 60 := by
  have := h.2.2.1.1.2
  rw [isT_all.2.2.2.2.2.2.1] at this
  omega
theorem cmp3 {L i : Nat} (hL : L ≤ 1536) (hi : i ≤ 1600) : (Int32.ofNat L - 3 < nI i) ↔ L < i + 3 := by
  have e : (Int32.ofNat L - 3) = nI L - nI 3 := rfl
  rw [e, Int32.lt_iff_toInt_lt, pk_sub_toInt (by omega) (by omega), nI_toInt (by omega)]
  omega
theorem lg_self (x : Int64) : lg_cmp x x = 0 := by
  unfold lg_cmp
  simp
theorem nI_o {o : Nat} (h : o ≤ 2) (h1 : 1 ≤ o) : ¬ nI o = 0 := by
  rcases (show o = 1 ∨ o = 2 by omega) with e | e <;> (subst e; decide)
section LW
variable {L : Nat} {xs : Nat → Int32} {d : Nat}
theorem lw_1 {s : mg_s} {p : Nat → Nat} {l : List Nat} {R : List rowT} {A : List Nat} {K : kT} {x : Int32} (h : RA s p l R A K) : ∃ (o : Nat) (V : Int32) (l' : List Nat) (R' : List rowT) (A' : List Nat) (K' : kT), o ≤ 2 ∧ RO l' K' ∧ cq L xs (d + 66) 1 [.ref 0, .int x, .ref 166] s (fun v s' => v = some (.int (nI o)) ∧ (o = 0 → s'.2.2.2.2 0 = V.toInt64) ∧ RC s' p l' R' A' K' ∧ RM s' l R A K) ∧ ∀ s1, RC s1 p l' R' A' K' → RM s1 l R A K → ca L xs (d + 66) 109 [.ref 141, .int x] s1 (fun v s' => (∃ V2, v = some (.int V2) ∧ (o = 0 → V2 = V)) ∧ s'.1 141 0 = nI o ∧ s'.2.2 = s1.2.2 ∧ RC s' p l' R' A' K' ∧ RM s' l' R' A' K') := by
  obtain ⟨o, V, l', R', A', K', ho, hO, hc, hm⟩ := op_row (L := L) (xs := xs) (d := d) x h.2.2 h.1 h.2.1
  refine ⟨o, V, l', R', A', K', by omega, hO, ?_, fun s1 c1 m1 => ca_deep (by omega) (hm s1 c1 m1)⟩
  rcases hc with ⟨e0, hc⟩ | ⟨h1, e1, e2, e3, e4, ht⟩
  · subst e0
    intro hp S hb
    obtain ⟨v, s', h', g, S', f1, f2, q1, s1, ⟨q2, q3⟩, q4⟩ := lw_ok1 hc hp S hb
    subst q4
    exact ⟨v, _, h', g, S', f1, f2, q1, fun _ => rfl, q2, q3⟩
  · subst e1; subst e2; subst e3; subst e4
    rcases (show o = 1 ∨ o = 2 by omega) with e | e
    · subst e
      intro hp S hb
      obtain ⟨v, s', h', g, S', f1, f2, q1, q2⟩ := lw_th1_1 ht hp S hb
      subst q2
      exact ⟨v, s, h', g, S', f1, f2, q1, fun z => absurd z (by decide), h.1, h.2.1⟩
    · subst e
      intro hp S hb
      obtain ⟨v, s', h', g, S', f1, f2, q1, q2⟩ := lw_th1_2 ht hp S hb
      subst q2
      exact ⟨v, s, h', g, S', f1, f2, q1, fun z => absurd z (by decide), h.1, h.2.1⟩
theorem lw_2 {s : mg_s} {p : Nat → Nat} {l : List Nat} {R : List rowT} {A : List Nat} {K : kT} {x : Int32} (h : RA s p l R A K) : ∃ (o : Nat) (V : Int32) (l' : List Nat) (R' : List rowT) (A' : List Nat) (K' : kT), o ≤ 2 ∧ RO l' K' ∧ cq L xs (d + 66) 2 [.ref 0, .int x, .ref 166] s (fun v s' => v = some (.int (nI o)) ∧ (o = 0 → s'.2.2.2.2 0 = V.toInt64) ∧ RC s' p l' R' A' K' ∧ RM s' l R A K) ∧ ∀ s1, RC s1 p l' R' A' K' → RM s1 l R A K → ca L xs (d + 66) 116 [.ref 141, .int x] s1 (fun v s' => (∃ V2, v = some (.int V2) ∧ (o = 0 → V2 = V)) ∧ s'.1 141 0 = nI o ∧ s'.2.2 = s1.2.2 ∧ RC s' p l' R' A' K' ∧ RM s' l' R' A' K') := by
  obtain ⟨o, V, l', R', A', K', ho, hO, hc, hm⟩ := op_check (L := L) (xs := xs) (d := d) x h.2.2 h.1 h.2.1
  refine ⟨o, V, l', R', A', K', by omega, hO, ?_, fun s1 c1 m1 => ca_deep (by omega) (hm s1 c1 m1)⟩
  rcases hc with ⟨e0, hc⟩ | ⟨h1, e1, e2, e3, e4, ht⟩
  · subst e0
    intro hp S hb
    obtain ⟨v, s', h', g, S', f1, f2, q1, s1, ⟨q2, q3⟩, q4⟩ := lw_ok2 hc hp S hb
    subst q4
    exact ⟨v, _, h', g, S', f1, f2, q1, fun _ => rfl, q2, q3⟩
  · subst e1; subst e2; subst e3; subst e4
    have e : o = 1 := by omega
    subst e
    intro hp S hb
    obtain ⟨v, s', h', g, S', f1, f2, q1, q2⟩ := lw_th2_1 ht hp S hb
    subst q2
    exact ⟨v, s, h', g, S', f1, f2, q1, fun z => absurd z (by decide), h.1, h.2.1⟩
theorem lw_3 {s : mg_s} {p : Nat → Nat} {l : List Nat} {R : List rowT} {A : List Nat} {K : kT} {x : Int32} (h : RA s p l R A K) : ∃ (o : Nat) (V : Int32) (l' : List Nat) (R' : List rowT) (A' : List Nat) (K' : kT), o ≤ 2 ∧ RO l' K' ∧ cq L xs (d + 66) 3 [.ref 0, .int x, .ref 166] s (fun v s' => v = some (.int (nI o)) ∧ (o = 0 → s'.2.2.2.2 0 = V.toInt64) ∧ RC s' p l' R' A' K' ∧ RM s' l R A K) ∧ ∀ s1, RC s1 p l' R' A' K' → RM s1 l R A K → ca L xs (d + 66) 155 [.ref 141, .int x] s1 (fun v s' => (∃ V2, v = some (.int V2) ∧ (o = 0 → V2 = V)) ∧ s'.1 141 0 = nI o ∧ s'.2.2 = s1.2.2 ∧ RC s' p l' R' A' K' ∧ RM s' l' R' A' K') := by
  obtain ⟨o, V, l', R', A', K', ho, hO, hc, hm⟩ := op_policy (L := L) (xs := xs) (d := d) x h.2.2 h.1 h.2.1
  refine ⟨o, V, l', R', A', K', by omega, hO, ?_, fun s1 c1 m1 => ca_deep (by omega) (hm s1 c1 m1)⟩
  rcases hc with ⟨e0, hc⟩ | ⟨h1, e1, e2, e3, e4, ht⟩
  · subst e0
    intro hp S hb
    obtain ⟨v, s', h', g, S', f1, f2, q1, s1, ⟨q2, q3⟩, q4⟩ := lw_ok3 hc hp S hb
    subst q4
    exact ⟨v, _, h', g, S', f1, f2, q1, fun _ => rfl, q2, q3⟩
  · subst e1; subst e2; subst e3; subst e4
    rcases (show o = 1 ∨ o = 2 by omega) with e | e
    · subst e
      intro hp S hb
      obtain ⟨v, s', h', g, S', f1, f2, q1, q2⟩ := lw_th3_1 ht hp S hb
      subst q2
      exact ⟨v, s, h', g, S', f1, f2, q1, fun z => absurd z (by decide), h.1, h.2.1⟩
    · subst e
      intro hp S hb
      obtain ⟨v, s', h', g, S', f1, f2, q1, q2⟩ := lw_th3_2 ht hp S hb
      subst q2
      exact ⟨v, s, h', g, S', f1, f2, q1, fun z => absurd z (by decide), h.1, h.2.1⟩
theorem lw_loop (hL : L ≤ 1536) : ∀ (m i : Nat) (s : mg_s) (p : Nat → Nat) (l : List Nat) (R : List rowT) (A : List Nat) (K : kT) (c5 c6 : Option Value), L ≤ i + 3 * m + 2 → i ≤ L + 2 → RA s p l R A K → wq m L xs (d + 66) 0 23 [some (.ref ax_big), some (.ref 0), some (.ref 141), some (.ref 166), some (.int (nI i)), c5, c6] [] s (fun v _ => v = some (.int 1)) := by
  intro m
  induction m with
  | zero =>
    intro i s p l R A K c5 c6 h1 h2 hA
    refine wq_iload (d0_23 L xs) rfl ?_
    refine wq_aload_n (d0_25 L xs) rfl ?_
    refine wq_slen (d0_26 L xs) ?_
    refine wq_iconst (d0_27 L xs) (x := 3) (by decide) ?_
    refine wq_isub (d0_28 L xs) ?_
    refine wq_icmp_gt (d0_29 L xs) (t := 447) (by decide) (fun _ => ?_) (fun z => absurd ((cmp3 hL (by omega)).mpr (by omega)) z)
    refine wq_iconst (d0_447 L xs) (x := 1) (by decide) ?_
    exact wq_iret (d0_448 L xs) rfl rfl rfl
  | succ m ih =>
    intro i s p l R A K c5 c6 h1 h2 hA
    refine wq_iload (d0_23 L xs) rfl ?_
    refine wq_aload_n (d0_25 L xs) rfl ?_
    refine wq_slen (d0_26 L xs) ?_
    refine wq_iconst (d0_27 L xs) (x := 3) (by decide) ?_
    refine wq_isub (d0_28 L xs) ?_
    refine wq_icmp_gt (d0_29 L xs) (t := 447) (by decide) (fun _ => ?_) (fun z => ?_)
    · refine wq_iconst (d0_447 L xs) (x := 1) (by decide) ?_
      exact wq_iret (d0_448 L xs) rfl rfl rfl
    · have hi3 : i + 3 ≤ L := by
        rcases Nat.lt_or_ge L (i + 3) with y | y
        · exact absurd ((cmp3 hL (by omega)).mpr y) z
        · exact y
      have tl : ∀ (s' : mg_s) (p' : Nat → Nat) (l' : List Nat) (R' : List rowT) (A' : List Nat) (K' : kT) (c5 c6 : Option Value), RA s' p' l' R' A' K' → wq m L xs (d + 66) 0 441 [some (.ref ax_big), some (.ref 0), some (.ref 141), some (.ref 166), some (.int (nI i)), c5, c6] [] s' (fun v _ => v = some (.int 1)) := fun s' p' l' R' A' K' c5 c6 hA' => by
        refine wq_iinc (d0_441 L xs) (y := nI (i + 3)) (ls' := [some (.ref ax_big), some (.ref 0), some (.ref 141), some (.ref 166), some (.int (nI (i + 3))), c5, c6]) rfl (nI_add i 3) rfl ?_
        refine wq_goto (d0_444 L xs) (t := 23) (by decide) ?_
        exact ih (i + 3) s' p' l' R' A' K' c5 c6 (by omega) (by omega) hA'
      have tm : ∀ (s' : mg_s) (p' : Nat → Nat) (l' : List Nat) (R' : List rowT) (A' : List Nat) (K' : kT) (c5 c6 : Option Value), RA s' p' l' R' A' K' → wq (m + 1) L xs (d + 66) 0 441 [some (.ref ax_big), some (.ref 0), some (.ref 141), some (.ref 166), some (.int (nI i)), c5, c6] [] s' (fun v _ => v = some (.int 1)) := fun s' p' l' R' A' K' c5 c6 hA' => wq_more (by omega) (tl s' p' l' R' A' K' c5 c6 hA')
      refine wq_aload_n (d0_32 L xs) rfl ?_
      refine wq_iload (d0_33 L xs) rfl ?_
      refine wq_sald (d0_35 L xs) (x := xs i) (vp_in_nI (by omega) (by omega)) (by rw [nI_nat (by omega)]) ?_
      refine wq_bipush (d0_36 L xs) (x := 15) (by decide) ?_
      refine wq_iand (d0_38 L xs) ?_
      obtain ⟨j, hj, ej⟩ := pk_andE (xs i) (m := 15) 4 (by decide)
      refine wq_top (y := nI j) ej ?_
      have hj16 : j < 16 := hj
      obtain ⟨hC, hM, hO⟩ := hA
      rcases (show j = 0 ∨ j = 1 ∨ j = 2 ∨ j = 3 ∨ j = 4 ∨ j = 5 ∨ j = 6 ∨ j = 7 ∨ j = 8 ∨ j = 9 ∨ j = 10 ∨ j = 11 ∨ j = 12 ∨ j = 13 ∨ j = 14 ∨ j = 15 by omega) with e | e | e | e | e | e | e | e | e | e | e | e | e | e | e | e
      · subst e
        refine wq_tswIn (d0_39 L xs) (of := 53) (t := 92) (by decide) (by decide) (by decide) ?_
        refine wq_aload_n (d0_92 L xs) rfl ?_
        refine wq_aload_n (d0_93 L xs) rfl ?_
        refine wq_iload (d0_94 L xs) rfl ?_
        refine wq_iconst (d0_96 L xs) (x := 1) (by decide) ?_
        refine wq_iadd (d0_97 L xs) ?_
        refine wq_top (y := nI (i + 1)) (nI_add i 1) ?_
        refine wq_sald (d0_98 L xs) (x := xs (i + 1)) (vp_in_nI (by omega) (by omega)) (by rw [nI_nat (by omega)]) ?_
        refine wq_i2l (d0_99 L xs) ?_
        refine wq_bipush (d0_100 L xs) (x := 32) (by decide) ?_
        refine wq_lshl (d0_102 L xs) ?_
        refine wq_aload_n (d0_103 L xs) rfl ?_
        refine wq_iload (d0_104 L xs) rfl ?_
        refine wq_iconst (d0_106 L xs) (x := 2) (by decide) ?_
        refine wq_iadd (d0_107 L xs) ?_
        refine wq_top (y := nI (i + 2)) (nI_add i 2) ?_
        refine wq_sald (d0_108 L xs) (x := xs (i + 2)) (vp_in_nI (by omega) (by omega)) (by rw [nI_nat (by omega)]) ?_
        refine wq_i2l (d0_109 L xs) ?_
        refine wq_ldc2 (d0_110 L xs) (v := 4294967295) rfl ?_
        refine wq_land (d0_113 L xs) ?_
        refine wq_lor (d0_114 L xs) ?_
        refine wq_invv (d0_115 L xs) (kd := 7) (mj := 13) (n := 1) rfl (Or.inl rfl) (ys := [.long (((xs (i + 1)).toInt64 <<< ((32 : Int32).toInt64 &&& 63)) ||| ((xs (i + 2)).toInt64 &&& (Int64.ofNat 4294967295)))]) (r := []) rfl rfl (by decide) rfl rfl (Nat.le_of_ble_eq_true rfl) (ca_deep (d := d + 3) (by omega) (cl_type hC hM)) ?_
        rintro _ s1 ⟨rfl, hC1, hM1⟩
        refine wq_aload_n (d0_118 L xs) rfl ?_
        refine wq_aload_n (d0_119 L xs) rfl ?_
        refine wq_iload (d0_120 L xs) rfl ?_
        refine wq_iconst (d0_122 L xs) (x := 1) (by decide) ?_
        refine wq_iadd (d0_123 L xs) ?_
        refine wq_top (y := nI (i + 1)) (nI_add i 1) ?_
        refine wq_sald (d0_124 L xs) (x := xs (i + 1)) (vp_in_nI (by omega) (by omega)) (by rw [nI_nat (by omega)]) ?_
        refine wq_i2l (d0_125 L xs) ?_
        refine wq_bipush (d0_126 L xs) (x := 32) (by decide) ?_
        refine wq_lshl (d0_128 L xs) ?_
        refine wq_aload_n (d0_129 L xs) rfl ?_
        refine wq_iload (d0_130 L xs) rfl ?_
        refine wq_iconst (d0_132 L xs) (x := 2) (by decide) ?_
        refine wq_iadd (d0_133 L xs) ?_
        refine wq_top (y := nI (i + 2)) (nI_add i 2) ?_
        refine wq_sald (d0_134 L xs) (x := xs (i + 2)) (vp_in_nI (by omega) (by omega)) (by rw [nI_nat (by omega)]) ?_
        refine wq_i2l (d0_135 L xs) ?_
        refine wq_ldc2 (d0_136 L xs) (v := 4294967295) rfl ?_
        refine wq_land (d0_139 L xs) ?_
        refine wq_lor (d0_140 L xs) ?_
        refine wq_invv (d0_141 L xs) (kd := 7) (mj := 106) (n := 1) rfl (Or.inl rfl) (ys := [.long (((xs (i + 1)).toInt64 <<< ((32 : Int32).toInt64 &&& 63)) ||| ((xs (i + 2)).toInt64 &&& (Int64.ofNat 4294967295)))]) (r := [.int (b_ty l (((xs (i + 1)).toInt64 <<< ((32 : Int32).toInt64 &&& 63)) ||| ((xs (i + 2)).toInt64 &&& (Int64.ofNat 4294967295))))]) rfl rfl (by decide) rfl rfl (Nat.le_of_ble_eq_true rfl) (ca_deep (d := d + 1) (by omega) (ml_type hO.1 hC1 hM1)) ?_
        rintro _ s2 ⟨rfl, hC2, hM2⟩
        refine wq_icmp_eq (d0_144 L xs) (t := 441) (by decide) (fun _ => ?_) (fun z => absurd rfl z)
        exact tm s2 p _ R A K c5 c6 ⟨hC2, hM2, ro_type hO⟩
      · subst e
        refine wq_tswIn (d0_39 L xs) (of := 110) (t := 149) (by decide) (by decide) (by decide) ?_
        refine wq_aload_n (d0_149 L xs) rfl ?_
        refine wq_invv (d0_150 L xs) (kd := 7) (mj := 17) (n := 0) rfl (Or.inl rfl) (ys := []) (r := []) rfl rfl (by decide) rfl rfl (Nat.le_of_ble_eq_true rfl) (ca_deep (d := d + 2) (by omega) (cl_wipe hC hM)) ?_
        rintro _ s1 ⟨rfl, hC1, hM1⟩
        refine wq_aload_n (d0_153 L xs) rfl ?_
        refine wq_invv (d0_154 L xs) (kd := 7) (mj := 107) (n := 0) rfl (Or.inl rfl) (ys := []) (r := []) rfl rfl (by decide) rfl rfl (Nat.le_of_ble_eq_true rfl) (ca_deep (d := d + 1) (by omega) (ml_wipe hC1 hM1)) ?_
        rintro _ s2 ⟨rfl, hC2, hM2⟩
        refine wq_goto (d0_157 L xs) (t := 441) (by decide) ?_
        exact tm s2 p _ R A K c5 c6 ⟨hC2, hM2, ro_nil hO⟩
      · subst e
        refine wq_tswIn (d0_39 L xs) (of := 121) (t := 160) (by decide) (by decide) (by decide) ?_
        refine wq_aload_n (d0_160 L xs) rfl ?_
        refine wq_invv (d0_161 L xs) (kd := 7) (mj := 19) (n := 0) rfl (Or.inl rfl) (ys := []) (r := []) rfl rfl (by decide) rfl rfl (Nat.le_of_ble_eq_true rfl) (ca_deep (d := d + 2) (by omega) (cl_length hC)) ?_
        rintro _ _ ⟨rfl, rfl⟩
        refine wq_aload_n (d0_164 L xs) rfl ?_
        refine wq_invv (d0_165 L xs) (kd := 7) (mj := 108) (n := 0) rfl (Or.inl rfl) (ys := []) (r := [.int (nI l.length)]) rfl rfl (by decide) rfl rfl (Nat.le_of_ble_eq_true rfl) (ca_deep (d := d + 1) (by omega) (ml_length hC hM)) ?_
        rintro _ s2 ⟨rfl, hC2, hM2⟩
        refine wq_icmp_eq (d0_168 L xs) (t := 441) (by decide) (fun _ => ?_) (fun z => absurd rfl z)
        exact tm s2 p l R A K c5 c6 ⟨hC2, hM2, hO⟩
      · subst e
        refine wq_tswIn (d0_39 L xs) (of := 134) (t := 173) (by decide) (by decide) (by decide) ?_
        obtain ⟨o, V, l', R', A', K', ho, hO', hc, hm⟩ := lw_1 (L := L) (xs := xs) (d := d) (x := xs (i + 1)) (show RA s p l R A K from ⟨hC, hM, hO⟩)
        have hc' : cq L xs (d + 66) 1 [.ref 0, .int (xs (i + 1)), .ref 166] s _ := hc
        refine wq_aload_n (d0_173 L xs) rfl ?_
        refine wq_aload_n (d0_174 L xs) rfl ?_
        refine wq_iload (d0_175 L xs) rfl ?_
        refine wq_iconst (d0_177 L xs) (x := 1) (by decide) ?_
        refine wq_iadd (d0_178 L xs) ?_
        refine wq_top (y := nI (i + 1)) (nI_add i 1) ?_
        refine wq_sald (d0_179 L xs) (x := xs (i + 1)) (vp_in_nI (by omega) (by omega)) (by rw [nI_nat (by omega)]) ?_
        refine wq_aload_n (d0_180 L xs) rfl ?_
        refine wq_invs (d0_181 L xs) (kd := 26) (mj := 1) (n := 3) rfl (Or.inr (Or.inr rfl)) (ys := [.ref 166, .int (xs (i + 1)), .ref 0]) (r := []) rfl rfl (Nat.le_of_ble_eq_true rfl) hc' ?_
        rintro _ s1 ⟨rfl, hv1, hC1, hM1⟩
        refine wq_istore (d0_184 L xs) (ls' := [some (.ref ax_big), some (.ref 0), some (.ref 141), some (.ref 166), some (.int (nI i)), some (.int (nI o)), c6]) (Nat.le_of_ble_eq_true rfl) rfl ?_
        refine wq_aload_n (d0_186 L xs) rfl ?_
        refine wq_aload_n (d0_187 L xs) rfl ?_
        refine wq_iload (d0_188 L xs) rfl ?_
        refine wq_iconst (d0_190 L xs) (x := 1) (by decide) ?_
        refine wq_iadd (d0_191 L xs) ?_
        refine wq_top (y := nI (i + 1)) (nI_add i 1) ?_
        refine wq_sald (d0_192 L xs) (x := xs (i + 1)) (vp_in_nI (by omega) (by omega)) (by rw [nI_nat (by omega)]) ?_
        refine wq_invv (d0_193 L xs) (kd := 7) (mj := 109) (n := 1) rfl (Or.inl rfl) (ys := [.int (xs (i + 1))]) (r := []) rfl rfl (by decide) rfl rfl (Nat.le_of_ble_eq_true rfl) (hm s1 hC1 hM1) ?_
        rintro _ s2 ⟨⟨V2, rfl, hV⟩, ht, h22, hC2, hM2⟩
        refine wq_istore (d0_196 L xs) (ls' := [some (.ref ax_big), some (.ref 0), some (.ref 141), some (.ref 166), some (.int (nI i)), some (.int (nI o)), some (.int V2)]) (Nat.le_of_ble_eq_true rfl) rfl ?_
        refine wq_aload_n (d0_198 L xs) rfl ?_
        refine wq_invv (d0_199 L xs) (kd := 7) (mj := 105) (n := 0) rfl (Or.inl rfl) (ys := []) (r := []) rfl rfl (by decide) rfl rfl (Nat.le_of_ble_eq_true rfl) (ca_deep (d := d + 1) (by omega) md_thrown) ?_
        rintro _ _ ⟨rfl, rfl⟩
        refine wq_iload (d0_202 L xs) rfl ?_
        refine wq_icmp_eq (d0_204 L xs) (t := 209) (by decide) (fun _ => ?_) (fun z => absurd ht z)
        refine wq_iload (d0_209 L xs) rfl ?_
        refine wq_if_ne (d0_211 L xs) (t := 226) (by decide) (fun _ => ?_) (fun z => ?_)
        · refine wq_goto (d0_226 L xs) (t := 441) (by decide) ?_
          exact tl s2 p l' R' A' K' _ _ ⟨hC2, hM2, hO'⟩
        · have ho0 : o = 0 := Decidable.byContradiction (fun y => z (nI_o ho (by omega)))
          have hVV := hV ho0
          subst hVV
          refine wq_aload_n (d0_214 L xs) rfl ?_
          refine wq_iconst (d0_215 L xs) (x := 0) (by decide) ?_
          refine wq_lald (d0_216 L xs) ?_
          refine wq_iload (d0_217 L xs) rfl ?_
          refine wq_i2l (d0_219 L xs) ?_
          refine wq_lcmp (d0_220 L xs) ?_
          have h0 : s2.2.2.2.2 0 = V2.toInt64 := by rw [h22]; exact hv1 ho0
          refine wq_top (y := 0) (by rw [h0]; exact lg_self _) ?_
          refine wq_if_eq (d0_221 L xs) (t := 226) (by decide) (fun _ => ?_) (fun z => absurd rfl z)
          refine wq_goto (d0_226 L xs) (t := 441) (by decide) ?_
          exact tl s2 p l' R' A' K' _ _ ⟨hC2, hM2, hO'⟩
      · subst e
        refine wq_tswIn (d0_39 L xs) (of := 190) (t := 229) (by decide) (by decide) (by decide) ?_
        refine wq_aload_n (d0_229 L xs) rfl ?_
        refine wq_aload_n (d0_230 L xs) rfl ?_
        refine wq_iload (d0_231 L xs) rfl ?_
        refine wq_iconst (d0_233 L xs) (x := 1) (by decide) ?_
        refine wq_iadd (d0_234 L xs) ?_
        refine wq_top (y := nI (i + 1)) (nI_add i 1) ?_
        refine wq_sald (d0_235 L xs) (x := xs (i + 1)) (vp_in_nI (by omega) (by omega)) (by rw [nI_nat (by omega)]) ?_
        refine wq_invv (d0_236 L xs) (kd := 7) (mj := 20) (n := 1) rfl (Or.inl rfl) (ys := [.int (xs (i + 1))]) (r := []) rfl rfl (by decide) rfl rfl (Nat.le_of_ble_eq_true rfl) (ca_deep (d := d + 2) (by omega) (cl_drop hC hM)) ?_
        rintro _ s1 ⟨rfl, ⟨p', hC1⟩, hM1⟩
        refine wq_aload_n (d0_239 L xs) rfl ?_
        refine wq_aload_n (d0_240 L xs) rfl ?_
        refine wq_iload (d0_241 L xs) rfl ?_
        refine wq_iconst (d0_243 L xs) (x := 1) (by decide) ?_
        refine wq_iadd (d0_244 L xs) ?_
        refine wq_top (y := nI (i + 1)) (nI_add i 1) ?_
        refine wq_sald (d0_245 L xs) (x := xs (i + 1)) (vp_in_nI (by omega) (by omega)) (by rw [nI_nat (by omega)]) ?_
        refine wq_invv (d0_246 L xs) (kd := 7) (mj := 115) (n := 1) rfl (Or.inl rfl) (ys := [.int (xs (i + 1))]) (r := [.int (b_dr R (xs (i + 1)))]) rfl rfl (by decide) rfl rfl (Nat.le_of_ble_eq_true rfl) (ca_deep (d := d + 1) (by omega) (ml_drop hC1 hM1)) ?_
        rintro _ s2 ⟨rfl, hC2, hM2⟩
        refine wq_icmp_eq (d0_249 L xs) (t := 441) (by decide) (fun _ => ?_) (fun z => absurd rfl z)
        exact tm s2 p' l _ A K c5 c6 ⟨hC2, hM2, hO⟩
      · subst e
        refine wq_tswIn (d0_39 L xs) (of := 215) (t := 254) (by decide) (by decide) (by decide) ?_
        obtain ⟨o, V, l', R', A', K', ho, hO', hc, hm⟩ := lw_2 (L := L) (xs := xs) (d := d) (x := xs (i + 1)) (show RA s p l R A K from ⟨hC, hM, hO⟩)
        have hc' : cq L xs (d + 66) 2 [.ref 0, .int (xs (i + 1)), .ref 166] s _ := hc
        refine wq_aload_n (d0_254 L xs) rfl ?_
        refine wq_aload_n (d0_255 L xs) rfl ?_
        refine wq_iload (d0_256 L xs) rfl ?_
        refine wq_iconst (d0_258 L xs) (x := 1) (by decide) ?_
        refine wq_iadd (d0_259 L xs) ?_
        refine wq_top (y := nI (i + 1)) (nI_add i 1) ?_
        refine wq_sald (d0_260 L xs) (x := xs (i + 1)) (vp_in_nI (by omega) (by omega)) (by rw [nI_nat (by omega)]) ?_
        refine wq_aload_n (d0_261 L xs) rfl ?_
        refine wq_invs (d0_262 L xs) (kd := 26) (mj := 2) (n := 3) rfl (Or.inr (Or.inr rfl)) (ys := [.ref 166, .int (xs (i + 1)), .ref 0]) (r := []) rfl rfl (Nat.le_of_ble_eq_true rfl) hc' ?_
        rintro _ s1 ⟨rfl, hv1, hC1, hM1⟩
        refine wq_istore (d0_265 L xs) (ls' := [some (.ref ax_big), some (.ref 0), some (.ref 141), some (.ref 166), some (.int (nI i)), some (.int (nI o)), c6]) (Nat.le_of_ble_eq_true rfl) rfl ?_
        refine wq_aload_n (d0_267 L xs) rfl ?_
        refine wq_aload_n (d0_268 L xs) rfl ?_
        refine wq_iload (d0_269 L xs) rfl ?_
        refine wq_iconst (d0_271 L xs) (x := 1) (by decide) ?_
        refine wq_iadd (d0_272 L xs) ?_
        refine wq_top (y := nI (i + 1)) (nI_add i 1) ?_
        refine wq_sald (d0_273 L xs) (x := xs (i + 1)) (vp_in_nI (by omega) (by omega)) (by rw [nI_nat (by omega)]) ?_
        refine wq_invv (d0_274 L xs) (kd := 7) (mj := 116) (n := 1) rfl (Or.inl rfl) (ys := [.int (xs (i + 1))]) (r := []) rfl rfl (by decide) rfl rfl (Nat.le_of_ble_eq_true rfl) (hm s1 hC1 hM1) ?_
        rintro _ s2 ⟨⟨V2, rfl, hV⟩, ht, h22, hC2, hM2⟩
        refine wq_istore (d0_277 L xs) (ls' := [some (.ref ax_big), some (.ref 0), some (.ref 141), some (.ref 166), some (.int (nI i)), some (.int (nI o)), some (.int V2)]) (Nat.le_of_ble_eq_true rfl) rfl ?_
        refine wq_aload_n (d0_279 L xs) rfl ?_
        refine wq_invv (d0_280 L xs) (kd := 7) (mj := 105) (n := 0) rfl (Or.inl rfl) (ys := []) (r := []) rfl rfl (by decide) rfl rfl (Nat.le_of_ble_eq_true rfl) (ca_deep (d := d + 1) (by omega) md_thrown) ?_
        rintro _ _ ⟨rfl, rfl⟩
        refine wq_iload (d0_283 L xs) rfl ?_
        refine wq_icmp_eq (d0_285 L xs) (t := 290) (by decide) (fun _ => ?_) (fun z => absurd ht z)
        refine wq_iload (d0_290 L xs) rfl ?_
        refine wq_if_ne (d0_292 L xs) (t := 307) (by decide) (fun _ => ?_) (fun z => ?_)
        · refine wq_goto (d0_307 L xs) (t := 441) (by decide) ?_
          exact tl s2 p l' R' A' K' _ _ ⟨hC2, hM2, hO'⟩
        · have ho0 : o = 0 := Decidable.byContradiction (fun y => z (nI_o ho (by omega)))
          have hVV := hV ho0
          subst hVV
          refine wq_aload_n (d0_295 L xs) rfl ?_
          refine wq_iconst (d0_296 L xs) (x := 0) (by decide) ?_
          refine wq_lald (d0_297 L xs) ?_
          refine wq_iload (d0_298 L xs) rfl ?_
          refine wq_i2l (d0_300 L xs) ?_
          refine wq_lcmp (d0_301 L xs) ?_
          have h0 : s2.2.2.2.2 0 = V2.toInt64 := by rw [h22]; exact hv1 ho0
          refine wq_top (y := 0) (by rw [h0]; exact lg_self _) ?_
          refine wq_if_eq (d0_302 L xs) (t := 307) (by decide) (fun _ => ?_) (fun z => absurd rfl z)
          refine wq_goto (d0_307 L xs) (t := 441) (by decide) ?_
          exact tl s2 p l' R' A' K' _ _ ⟨hC2, hM2, hO'⟩
      · subst e
        refine wq_tswIn (d0_39 L xs) (of := 271) (t := 310) (by decide) (by decide) (by decide) ?_
        refine wq_aload_n (d0_310 L xs) rfl ?_
        refine wq_aload_n (d0_311 L xs) rfl ?_
        refine wq_iload (d0_312 L xs) rfl ?_
        refine wq_iconst (d0_314 L xs) (x := 1) (by decide) ?_
        refine wq_iadd (d0_315 L xs) ?_
        refine wq_top (y := nI (i + 1)) (nI_add i 1) ?_
        refine wq_sald (d0_316 L xs) (x := xs (i + 1)) (vp_in_nI (by omega) (by omega)) (by rw [nI_nat (by omega)]) ?_
        refine wq_invv (d0_317 L xs) (kd := 7) (mj := 22) (n := 1) rfl (Or.inl rfl) (ys := [.int (xs (i + 1))]) (r := []) rfl rfl (by decide) rfl rfl (Nat.le_of_ble_eq_true rfl) (ca_deep (d := d + 2) (by omega) (cl_latest hO hC)) ?_
        rintro _ _ ⟨rfl, rfl⟩
        refine wq_aload_n (d0_320 L xs) rfl ?_
        refine wq_aload_n (d0_321 L xs) rfl ?_
        refine wq_iload (d0_322 L xs) rfl ?_
        refine wq_iconst (d0_324 L xs) (x := 1) (by decide) ?_
        refine wq_iadd (d0_325 L xs) ?_
        refine wq_top (y := nI (i + 1)) (nI_add i 1) ?_
        refine wq_sald (d0_326 L xs) (x := xs (i + 1)) (vp_in_nI (by omega) (by omega)) (by rw [nI_nat (by omega)]) ?_
        refine wq_invv (d0_327 L xs) (kd := 7) (mj := 153) (n := 1) rfl (Or.inl rfl) (ys := [.int (xs (i + 1))]) (r := [.int (v_la K (xs (i + 1)))]) rfl rfl (by decide) rfl rfl (Nat.le_of_ble_eq_true rfl) (ca_deep (d := d + 1) (by omega) (ml_latest hC hM)) ?_
        rintro _ s2 ⟨rfl, hC2, hM2⟩
        refine wq_icmp_eq (d0_330 L xs) (t := 441) (by decide) (fun _ => ?_) (fun z => absurd rfl z)
        exact tm s2 p l R A K c5 c6 ⟨hC2, hM2, hO⟩
      · subst e
        refine wq_tswIn (d0_39 L xs) (of := 296) (t := 335) (by decide) (by decide) (by decide) ?_
        refine wq_aload_n (d0_335 L xs) rfl ?_
        refine wq_aload_n (d0_336 L xs) rfl ?_
        refine wq_iload (d0_337 L xs) rfl ?_
        refine wq_iconst (d0_339 L xs) (x := 1) (by decide) ?_
        refine wq_iadd (d0_340 L xs) ?_
        refine wq_top (y := nI (i + 1)) (nI_add i 1) ?_
        refine wq_sald (d0_341 L xs) (x := xs (i + 1)) (vp_in_nI (by omega) (by omega)) (by rw [nI_nat (by omega)]) ?_
        refine wq_invv (d0_342 L xs) (kd := 7) (mj := 29) (n := 1) rfl (Or.inl rfl) (ys := [.int (xs (i + 1))]) (r := []) rfl rfl (by decide) rfl rfl (Nat.le_of_ble_eq_true rfl) (ca_deep (d := d + 2) (by omega) (cl_asked hC)) ?_
        rintro _ _ ⟨rfl, rfl⟩
        refine wq_aload_n (d0_345 L xs) rfl ?_
        refine wq_aload_n (d0_346 L xs) rfl ?_
        refine wq_iload (d0_347 L xs) rfl ?_
        refine wq_iconst (d0_349 L xs) (x := 1) (by decide) ?_
        refine wq_iadd (d0_350 L xs) ?_
        refine wq_top (y := nI (i + 1)) (nI_add i 1) ?_
        refine wq_sald (d0_351 L xs) (x := xs (i + 1)) (vp_in_nI (by omega) (by omega)) (by rw [nI_nat (by omega)]) ?_
        refine wq_invv (d0_352 L xs) (kd := 7) (mj := 154) (n := 1) rfl (Or.inl rfl) (ys := [.int (xs (i + 1))]) (r := [.int (v_as A (xs (i + 1)))]) rfl rfl (by decide) rfl rfl (Nat.le_of_ble_eq_true rfl) (ca_deep (d := d + 1) (by omega) (ml_asked (RA_60 hC) hC hM)) ?_
        rintro _ s2 ⟨rfl, hC2, hM2⟩
        refine wq_icmp_eq (d0_355 L xs) (t := 441) (by decide) (fun _ => ?_) (fun z => absurd rfl z)
        exact tm s2 p l R A K c5 c6 ⟨hC2, hM2, hO⟩
      · subst e
        refine wq_tswIn (d0_39 L xs) (of := 321) (t := 360) (by decide) (by decide) (by decide) ?_
        obtain ⟨o, V, l', R', A', K', ho, hO', hc, hm⟩ := lw_3 (L := L) (xs := xs) (d := d) (x := xs (i + 1)) (show RA s p l R A K from ⟨hC, hM, hO⟩)
        have hc' : cq L xs (d + 66) 3 [.ref 0, .int (xs (i + 1)), .ref 166] s _ := hc
        refine wq_aload_n (d0_360 L xs) rfl ?_
        refine wq_aload_n (d0_361 L xs) rfl ?_
        refine wq_iload (d0_362 L xs) rfl ?_
        refine wq_iconst (d0_364 L xs) (x := 1) (by decide) ?_
        refine wq_iadd (d0_365 L xs) ?_
        refine wq_top (y := nI (i + 1)) (nI_add i 1) ?_
        refine wq_sald (d0_366 L xs) (x := xs (i + 1)) (vp_in_nI (by omega) (by omega)) (by rw [nI_nat (by omega)]) ?_
        refine wq_aload_n (d0_367 L xs) rfl ?_
        refine wq_invs (d0_368 L xs) (kd := 26) (mj := 3) (n := 3) rfl (Or.inr (Or.inr rfl)) (ys := [.ref 166, .int (xs (i + 1)), .ref 0]) (r := []) rfl rfl (Nat.le_of_ble_eq_true rfl) hc' ?_
        rintro _ s1 ⟨rfl, hv1, hC1, hM1⟩
        refine wq_istore (d0_371 L xs) (ls' := [some (.ref ax_big), some (.ref 0), some (.ref 141), some (.ref 166), some (.int (nI i)), some (.int (nI o)), c6]) (Nat.le_of_ble_eq_true rfl) rfl ?_
        refine wq_aload_n (d0_373 L xs) rfl ?_
        refine wq_aload_n (d0_374 L xs) rfl ?_
        refine wq_iload (d0_375 L xs) rfl ?_
        refine wq_iconst (d0_377 L xs) (x := 1) (by decide) ?_
        refine wq_iadd (d0_378 L xs) ?_
        refine wq_top (y := nI (i + 1)) (nI_add i 1) ?_
        refine wq_sald (d0_379 L xs) (x := xs (i + 1)) (vp_in_nI (by omega) (by omega)) (by rw [nI_nat (by omega)]) ?_
        refine wq_invv (d0_380 L xs) (kd := 7) (mj := 155) (n := 1) rfl (Or.inl rfl) (ys := [.int (xs (i + 1))]) (r := []) rfl rfl (by decide) rfl rfl (Nat.le_of_ble_eq_true rfl) (hm s1 hC1 hM1) ?_
        rintro _ s2 ⟨⟨V2, rfl, hV⟩, ht, h22, hC2, hM2⟩
        refine wq_istore (d0_383 L xs) (ls' := [some (.ref ax_big), some (.ref 0), some (.ref 141), some (.ref 166), some (.int (nI i)), some (.int (nI o)), some (.int V2)]) (Nat.le_of_ble_eq_true rfl) rfl ?_
        refine wq_aload_n (d0_385 L xs) rfl ?_
        refine wq_invv (d0_386 L xs) (kd := 7) (mj := 105) (n := 0) rfl (Or.inl rfl) (ys := []) (r := []) rfl rfl (by decide) rfl rfl (Nat.le_of_ble_eq_true rfl) (ca_deep (d := d + 1) (by omega) md_thrown) ?_
        rintro _ _ ⟨rfl, rfl⟩
        refine wq_iload (d0_389 L xs) rfl ?_
        refine wq_icmp_eq (d0_391 L xs) (t := 396) (by decide) (fun _ => ?_) (fun z => absurd ht z)
        refine wq_iload (d0_396 L xs) rfl ?_
        refine wq_if_ne (d0_398 L xs) (t := 413) (by decide) (fun _ => ?_) (fun z => ?_)
        · refine wq_goto (d0_413 L xs) (t := 441) (by decide) ?_
          exact tl s2 p l' R' A' K' _ _ ⟨hC2, hM2, hO'⟩
        · have ho0 : o = 0 := Decidable.byContradiction (fun y => z (nI_o ho (by omega)))
          have hVV := hV ho0
          subst hVV
          refine wq_aload_n (d0_401 L xs) rfl ?_
          refine wq_iconst (d0_402 L xs) (x := 0) (by decide) ?_
          refine wq_lald (d0_403 L xs) ?_
          refine wq_iload (d0_404 L xs) rfl ?_
          refine wq_i2l (d0_406 L xs) ?_
          refine wq_lcmp (d0_407 L xs) ?_
          have h0 : s2.2.2.2.2 0 = V2.toInt64 := by rw [h22]; exact hv1 ho0
          refine wq_top (y := 0) (by rw [h0]; exact lg_self _) ?_
          refine wq_if_eq (d0_408 L xs) (t := 413) (by decide) (fun _ => ?_) (fun z => absurd rfl z)
          refine wq_goto (d0_413 L xs) (t := 441) (by decide) ?_
          exact tl s2 p l' R' A' K' _ _ ⟨hC2, hM2, hO'⟩
      · subst e
        refine wq_tswIn (d0_39 L xs) (of := 377) (t := 416) (by decide) (by decide) (by decide) ?_
        refine wq_aload_n (d0_416 L xs) rfl ?_
        refine wq_aload_n (d0_417 L xs) rfl ?_
        refine wq_iload (d0_418 L xs) rfl ?_
        refine wq_iconst (d0_420 L xs) (x := 1) (by decide) ?_
        refine wq_iadd (d0_421 L xs) ?_
        refine wq_top (y := nI (i + 1)) (nI_add i 1) ?_
        refine wq_sald (d0_422 L xs) (x := xs (i + 1)) (vp_in_nI (by omega) (by omega)) (by rw [nI_nat (by omega)]) ?_
        refine wq_invv (d0_423 L xs) (kd := 7) (mj := 32) (n := 1) rfl (Or.inl rfl) (ys := [.int (xs (i + 1))]) (r := []) rfl rfl (by decide) rfl rfl (Nat.le_of_ble_eq_true rfl) (ca_deep (d := d + 2) (by omega) (cl_rows hC)) ?_
        rintro _ _ ⟨rfl, rfl⟩
        refine wq_aload_n (d0_426 L xs) rfl ?_
        refine wq_aload_n (d0_427 L xs) rfl ?_
        refine wq_iload (d0_428 L xs) rfl ?_
        refine wq_iconst (d0_430 L xs) (x := 1) (by decide) ?_
        refine wq_iadd (d0_431 L xs) ?_
        refine wq_top (y := nI (i + 1)) (nI_add i 1) ?_
        refine wq_sald (d0_432 L xs) (x := xs (i + 1)) (vp_in_nI (by omega) (by omega)) (by rw [nI_nat (by omega)]) ?_
        refine wq_invv (d0_433 L xs) (kd := 7) (mj := 163) (n := 1) rfl (Or.inl rfl) (ys := [.int (xs (i + 1))]) (r := [.int (v_rw R (xs (i + 1)))]) rfl rfl (by decide) rfl rfl (Nat.le_of_ble_eq_true rfl) (ca_deep (d := d + 1) (by omega) (ml_rows hC hM)) ?_
        rintro _ s2 ⟨rfl, hC2, hM2⟩
        refine wq_icmp_eq (d0_436 L xs) (t := 441) (by decide) (fun _ => ?_) (fun z => absurd rfl z)
        exact tm s2 p l R A K c5 c6 ⟨hC2, hM2, hO⟩
      · subst e
        refine wq_tswOut (d0_39 L xs) (t := 441) (by decide) (by decide) ?_
        exact tm s p l R A K c5 c6 ⟨hC, hM, hO⟩
      · subst e
        refine wq_tswOut (d0_39 L xs) (t := 441) (by decide) (by decide) ?_
        exact tm s p l R A K c5 c6 ⟨hC, hM, hO⟩
      · subst e
        refine wq_tswOut (d0_39 L xs) (t := 441) (by decide) (by decide) ?_
        exact tm s p l R A K c5 c6 ⟨hC, hM, hO⟩
      · subst e
        refine wq_tswOut (d0_39 L xs) (t := 441) (by decide) (by decide) ?_
        exact tm s p l R A K c5 c6 ⟨hC, hM, hO⟩
      · subst e
        refine wq_tswOut (d0_39 L xs) (t := 441) (by decide) (by decide) ?_
        exact tm s p l R A K c5 c6 ⟨hC, hM, hO⟩
      · subst e
        refine wq_tswOut (d0_39 L xs) (t := 441) (by decide) (by decide) ?_
        exact tm s p l R A K c5 c6 ⟨hC, hM, hO⟩
end LW
