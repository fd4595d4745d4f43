/-! the class: remove, drop, row where it is taken -/
theorem d21_14 (L : Nat) (xs : Nat → Int32) : decode (ax_code (mgT L xs) 21) 14 = .ok (.aload_n 0, 1) := by
  show decode prog_7_method_7_code 14 = _
  decide +kernel
theorem d21_15 (L : Nat) (xs : Nat → Int32) : decode (ax_code (mgT L xs) 21) 15 = .ok (.getfield 11, 3) := by
  show decode prog_7_method_7_code 15 = _
  decide +kernel
theorem d21_18 (L : Nat) (xs : Nat → Int32) : decode (ax_code (mgT L xs) 21) 18 = .ok (.iload_n 1, 1) := by
  show decode prog_7_method_7_code 18 = _
  decide +kernel
theorem d21_19 (L : Nat) (xs : Nat → Int32) : decode (ax_code (mgT L xs) 21) 19 = .ok (.aaload, 1) := by
  show decode prog_7_method_7_code 19 = _
  decide +kernel
theorem d21_20 (L : Nat) (xs : Nat → Int32) : decode (ax_code (mgT L xs) 21) 20 = .ok (.astore_n 2, 1) := by
  show decode prog_7_method_7_code 20 = _
  decide +kernel
theorem d21_21 (L : Nat) (xs : Nat → Int32) : decode (ax_code (mgT L xs) 21) 21 = .ok (.iload_n 1, 1) := by
  show decode prog_7_method_7_code 21 = _
  decide +kernel
theorem d21_22 (L : Nat) (xs : Nat → Int32) : decode (ax_code (mgT L xs) 21) 22 = .ok (.iconst 1, 1) := by
  show decode prog_7_method_7_code 22 = _
  decide +kernel
theorem d21_23 (L : Nat) (xs : Nat → Int32) : decode (ax_code (mgT L xs) 21) 23 = .ok (.iadd, 1) := by
  show decode prog_7_method_7_code 23 = _
  decide +kernel
theorem d21_24 (L : Nat) (xs : Nat → Int32) : decode (ax_code (mgT L xs) 21) 24 = .ok (.istore_n 3, 1) := by
  show decode prog_7_method_7_code 24 = _
  decide +kernel
theorem d21_53 (L : Nat) (xs : Nat → Int32) : decode (ax_code (mgT L xs) 21) 53 = .ok (.aload_n 0, 1) := by
  show decode prog_7_method_7_code 53 = _
  decide +kernel
theorem d21_54 (L : Nat) (xs : Nat → Int32) : decode (ax_code (mgT L xs) 21) 54 = .ok (.dup, 1) := by
  show decode prog_7_method_7_code 54 = _
  decide +kernel
theorem d21_55 (L : Nat) (xs : Nat → Int32) : decode (ax_code (mgT L xs) 21) 55 = .ok (.getfield 27, 3) := by
  show decode prog_7_method_7_code 55 = _
  decide +kernel
theorem d21_58 (L : Nat) (xs : Nat → Int32) : decode (ax_code (mgT L xs) 21) 58 = .ok (.iconst 1, 1) := by
  show decode prog_7_method_7_code 58 = _
  decide +kernel
theorem d21_59 (L : Nat) (xs : Nat → Int32) : decode (ax_code (mgT L xs) 21) 59 = .ok (.isub, 1) := by
  show decode prog_7_method_7_code 59 = _
  decide +kernel
theorem d21_60 (L : Nat) (xs : Nat → Int32) : decode (ax_code (mgT L xs) 21) 60 = .ok (.putfield 27, 3) := by
  show decode prog_7_method_7_code 60 = _
  decide +kernel
theorem d21_63 (L : Nat) (xs : Nat → Int32) : decode (ax_code (mgT L xs) 21) 63 = .ok (.aload_n 0, 1) := by
  show decode prog_7_method_7_code 63 = _
  decide +kernel
theorem d21_64 (L : Nat) (xs : Nat → Int32) : decode (ax_code (mgT L xs) 21) 64 = .ok (.getfield 11, 3) := by
  show decode prog_7_method_7_code 64 = _
  decide +kernel
theorem d21_67 (L : Nat) (xs : Nat → Int32) : decode (ax_code (mgT L xs) 21) 67 = .ok (.aload_n 0, 1) := by
  show decode prog_7_method_7_code 67 = _
  decide +kernel
theorem d21_68 (L : Nat) (xs : Nat → Int32) : decode (ax_code (mgT L xs) 21) 68 = .ok (.getfield 27, 3) := by
  show decode prog_7_method_7_code 68 = _
  decide +kernel
theorem d21_71 (L : Nat) (xs : Nat → Int32) : decode (ax_code (mgT L xs) 21) 71 = .ok (.aload_n 2, 1) := by
  show decode prog_7_method_7_code 71 = _
  decide +kernel
theorem d21_72 (L : Nat) (xs : Nat → Int32) : decode (ax_code (mgT L xs) 21) 72 = .ok (.aastore, 1) := by
  show decode prog_7_method_7_code 72 = _
  decide +kernel
theorem d21_73 (L : Nat) (xs : Nat → Int32) : decode (ax_code (mgT L xs) 21) 73 = .ok (.iconst 1, 1) := by
  show decode prog_7_method_7_code 73 = _
  decide +kernel
theorem d21_74 (L : Nat) (xs : Nat → Int32) : decode (ax_code (mgT L xs) 21) 74 = .ok (.ireturn, 1) := by
  show decode prog_7_method_7_code 74 = _
  decide +kernel
theorem d35_16 (L : Nat) (xs : Nat → Int32) : decode (ax_code (mgT L xs) 35) 16 = .ok (.aload_n 0, 1) := by
  show decode prog_1_method_5_code 16 = _
  decide +kernel
theorem d35_17 (L : Nat) (xs : Nat → Int32) : decode (ax_code (mgT L xs) 35) 17 = .ok (.getfield 21, 3) := by
  show decode prog_1_method_5_code 17 = _
  decide +kernel
theorem d35_20 (L : Nat) (xs : Nat → Int32) : decode (ax_code (mgT L xs) 35) 20 = .ok (.invokevirtual 65, 3) := by
  show decode prog_1_method_5_code 20 = _
  decide +kernel
theorem d35_23 (L : Nat) (xs : Nat → Int32) : decode (ax_code (mgT L xs) 35) 23 = .ok (.bipush 16, 2) := by
  show decode prog_1_method_5_code 23 = _
  decide +kernel
theorem d35_25 (L : Nat) (xs : Nat → Int32) : decode (ax_code (mgT L xs) 35) 25 = .ok (.if_icmp .lt 11, 3) := by
  show decode prog_1_method_5_code 25 = _
  decide +kernel
theorem d35_36 (L : Nat) (xs : Nat → Int32) : decode (ax_code (mgT L xs) 35) 36 = .ok (.aload_n 0, 1) := by
  show decode prog_1_method_5_code 36 = _
  decide +kernel
theorem d35_37 (L : Nat) (xs : Nat → Int32) : decode (ax_code (mgT L xs) 35) 37 = .ok (.getfield 21, 3) := by
  show decode prog_1_method_5_code 37 = _
  decide +kernel
theorem d35_40 (L : Nat) (xs : Nat → Int32) : decode (ax_code (mgT L xs) 35) 40 = .ok (.iload_n 1, 1) := by
  show decode prog_1_method_5_code 40 = _
  decide +kernel
theorem d35_41 (L : Nat) (xs : Nat → Int32) : decode (ax_code (mgT L xs) 35) 41 = .ok (.aload_n 0, 1) := by
  show decode prog_1_method_5_code 41 = _
  decide +kernel
theorem d35_42 (L : Nat) (xs : Nat → Int32) : decode (ax_code (mgT L xs) 35) 42 = .ok (.getfield 14, 3) := by
  show decode prog_1_method_5_code 42 = _
  decide +kernel
theorem d35_45 (L : Nat) (xs : Nat → Int32) : decode (ax_code (mgT L xs) 35) 45 = .ok (.invokevirtual 71, 3) := by
  show decode prog_1_method_5_code 45 = _
  decide +kernel
theorem d35_48 (L : Nat) (xs : Nat → Int32) : decode (ax_code (mgT L xs) 35) 48 = .ok (.aload_n 0, 1) := by
  show decode prog_1_method_5_code 48 = _
  decide +kernel
theorem d35_49 (L : Nat) (xs : Nat → Int32) : decode (ax_code (mgT L xs) 35) 49 = .ok (.getfield 14, 3) := by
  show decode prog_1_method_5_code 49 = _
  decide +kernel
theorem d35_52 (L : Nat) (xs : Nat → Int32) : decode (ax_code (mgT L xs) 35) 52 = .ok (.invokevirtual 55, 3) := by
  show decode prog_1_method_5_code 52 = _
  decide +kernel
theorem d35_55 (L : Nat) (xs : Nat → Int32) : decode (ax_code (mgT L xs) 35) 55 = .ok (.aload_n 0, 1) := by
  show decode prog_1_method_5_code 55 = _
  decide +kernel
theorem d35_56 (L : Nat) (xs : Nat → Int32) : decode (ax_code (mgT L xs) 35) 56 = .ok (.getfield 21, 3) := by
  show decode prog_1_method_5_code 56 = _
  decide +kernel
theorem d35_59 (L : Nat) (xs : Nat → Int32) : decode (ax_code (mgT L xs) 35) 59 = .ok (.invokevirtual 65, 3) := by
  show decode prog_1_method_5_code 59 = _
  decide +kernel
theorem d35_62 (L : Nat) (xs : Nat → Int32) : decode (ax_code (mgT L xs) 35) 62 = .ok (.ireturn, 1) := by
  show decode prog_1_method_5_code 62 = _
  decide +kernel
def p_sg (k n j : Nat) : Nat := if j + 1 = n then k else if k ≤ j ∧ j + 1 < n then j + 1 else j
theorem p_sg_lt {k n j : Nat} (hk : k < n) (hn : n ≤ 16) (hj : j < 16) : p_sg k n j < 16 := by
  unfold p_sg
  split
  · omega
  · split <;> omega
theorem p_sg_inj {k n i j : Nat} (hk : k < n) (h : p_sg k n i = p_sg k n j) : i = j := by
  unfold p_sg at h
  split at h <;> split at h <;> (try split at h) <;> (try split at h) <;> omega
theorem tb_removed {s s2 : mg_s} {p : Nat → Nat} {R : List rowT} {k : Nat} (T : isTab s p R) (hk : k < R.length) (h : isP s s2 (p_sh p k R.length)) : isTab (mg_Rw (mg_I s2 3 1 (nI (R.length - 1))) (R.length - 1) (p k)) (fun j => p (p_sg k R.length j)) (R.eraseIdx k) ∧ (∀ a, ¬ a = 3 → (mg_Rw (mg_I s2 3 1 (nI (R.length - 1))) (R.length - 1) (p k)).1 a = s.1 a) ∧ (mg_Rw (mg_I s2 3 1 (nI (R.length - 1))) (R.length - 1) (p k)).2.1 = s.2.1 ∧ (mg_Rw (mg_I s2 3 1 (nI (R.length - 1))) (R.length - 1) (p k)).2.2.2 = s.2.2.2 := by
  obtain ⟨t1, t2, t3, t4, t5⟩ := T
  have hA : (mg_Rw (mg_I s2 3 1 (nI (R.length - 1))) (R.length - 1) (p k)).2.1 = s.2.1 := h.2.1
  have hI : ∀ a, ¬ a = 3 → (mg_Rw (mg_I s2 3 1 (nI (R.length - 1))) (R.length - 1) (p k)).1 a = s.1 a := fun a ha => (mg_I_oth (s := s2) ha).trans (congrFun h.1 a)
  refine ⟨⟨?_, ?_, fun j hj => ⟨?_, (t3 _ (p_sg_lt hk t2 hj)).2⟩, fun i j hi hj hij => p_sg_inj hk (t4 _ _ (p_sg_lt hk t2 hi) (p_sg_lt hk t2 hj) hij), fun j q hj => ?_⟩, hI, hA, h.2.2.1⟩
  · rw [List.length_eraseIdx_of_lt hk]
    show (mg_I s2 3 1 (nI (R.length - 1))).1 3 1 = _
    rw [mg_I_own]; rfl
  · rw [List.length_eraseIdx_of_lt hk]; omega
  · show va_up s2.2.2.1 (R.length - 1) (some (p k)) j = some (p (p_sg k R.length j))
    unfold va_up p_sg
    by_cases e : j = R.length - 1
    · rw [if_pos e, if_pos (by omega)]
    · rw [if_neg e, if_neg (by omega), h.2.2.2 j hj]
      unfold p_sh
      by_cases c : k ≤ j ∧ j + 1 < R.length
      · rw [if_pos c, if_pos c]
      · rw [if_neg c, if_neg c]
  · have hjl : j < (R.eraseIdx k).length := (List.getElem?_eq_some_iff.mp hj).1
    rw [List.length_eraseIdx_of_lt hk] at hjl
    rw [List.getElem?_eraseIdx] at hj
    have hq : R[p_sg k R.length j]? = some q := by
      unfold p_sg
      rw [if_neg (by omega)]
      by_cases c : j < k
      · rw [if_pos c] at hj
        rw [if_neg (by omega)]; exact hj
      · rw [if_neg c] at hj
        rw [if_pos (by omega)]; exact hj
    have hp := rw_lt (t3 _ (p_sg_lt hk t2 (show j < 16 by omega))).2
    exact isRow_of (t5 _ q hq) (fun a h1 h2 => ⟨hI a (by have h3 : p (p_sg k R.length j) ≤ a := h1; omega), by rw [hA]⟩)
section RM
variable {L : Nat} {xs : Nat → Int32} {d : Nat} {s : mg_s} {p : Nat → Nat} {R : List rowT} {l m : List Nat}
theorem tb_remove {k : Nat} (T : isTab s p R) (hk : k < R.length) : ca L xs (d + 1) 21 [.ref 3, .int (nI k)] s (fun v s' => v = some (.int 1) ∧ isTab s' (fun j => p (p_sg k R.length j)) (R.eraseIdx k) ∧ (∀ a, ¬ a = 3 → s'.1 a = s.1 a) ∧ s'.2.1 = s.2.1 ∧ s'.2.2.2 = s.2.2.2) := by
  refine wg_call (Nat.le_of_ble_eq_true rfl) ?_
  have hR16 := T.2.1
  show wp L xs d 21 0 [some (.ref 3), some (.int (nI k)), none, none] [] s _
  refine wg_iload_n (d21_0 L xs) rfl ?_
  refine wn_if_lt (d21_1 L xs) (x := k) (by omega) (t := 12) (by decide) (fun h1 => by omega) (fun h1 => ?_)
  refine wg_iload_n (d21_4 L xs) rfl ?_
  refine wg_aload_n (d21_5 L xs) rfl ?_
  refine wg_get (d21_6 L xs) (kd := 1) (cj := 3) (k0 := 1) rfl (Or.inl rfl) (by decide) rfl rfl ?_
  refine wg_top (y := (nI R.length)) T.1 ?_
  refine wn_icmp_lt (d21_9 L xs) (x := k) (y := R.length) (by omega) (by omega) (t := 14) (by decide) (fun h2 => ?_) (fun h2 => by omega)
  refine wg_aload_n (d21_14 L xs) rfl ?_
  refine wg_get (d21_15 L xs) (kd := 1) (cj := 3) (k0 := 0) rfl (Or.inl rfl) (by decide) rfl rfl ?_
  refine wg_iload_n (d21_18 L xs) rfl ?_
  refine wg_aald (d21_19 L xs) (n := 16) (by decide) rfl rfl (vp_in_nI (n := k) (by omega) (by omega)) (v := .ref (p k)) (by rw [nI_nat (n := k) (by omega), (T.2.2.1 k (by omega)).1]; rfl) ?_
  refine wg_astore_n (d21_20 L xs) (ls' := [some (.ref 3), some (.int (nI k)), some (.ref (p k)), none]) (Nat.le_of_ble_eq_true rfl) rfl ?_
  refine wg_iload_n (d21_21 L xs) rfl ?_
  refine wg_iconst (d21_22 L xs) (x := 1) (by decide) ?_
  refine wg_iadd (d21_23 L xs) ?_
  refine wg_top (y := (nI (k + 1))) (nI_add k 1) ?_
  refine wg_istore_n (d21_24 L xs) (ls' := [some (.ref 3), some (.int (nI k)), some (.ref (p k)), some (.int (nI (k + 1)))]) (Nat.le_of_ble_eq_true rfl) rfl ?_
  refine tb_rem_l T hk (R.length - (k + 1)) (k + 1) s (by omega) (by omega) ⟨rfl, rfl, rfl, fun j hj => by rw [(T.2.2.1 j hj).1]; unfold p_sh; rw [if_neg (by omega)]⟩ (fun s2 hP => ?_)
  refine wg_aload_n (d21_53 L xs) rfl ?_
  refine wg_dup (d21_54 L xs) rfl ?_
  refine wg_get (d21_55 L xs) (kd := 1) (cj := 3) (k0 := 1) rfl (Or.inl rfl) (by decide) rfl rfl ?_
  refine wg_top (y := (nI R.length)) ((congrFun (congrFun hP.1 3) 1).trans T.1) ?_
  refine wg_iconst (d21_58 L xs) (x := 1) (by decide) ?_
  refine wg_isub (d21_59 L xs) ?_
  refine wg_top (y := (nI (R.length - 1))) (pk_sub (a := R.length) (b := 1) (by omega)) ?_
  refine wg_puti (d21_60 L xs) (cj := 3) (k0 := 1) rfl (by decide) rfl (Nat.le_of_ble_eq_true rfl) rfl rfl rfl ?_
  refine wg_aload_n (d21_63 L xs) rfl ?_
  refine wg_get (d21_64 L xs) (kd := 1) (cj := 3) (k0 := 0) rfl (Or.inl rfl) (by decide) rfl rfl ?_
  refine wg_aload_n (d21_67 L xs) rfl ?_
  refine wg_get (d21_68 L xs) (kd := 1) (cj := 3) (k0 := 1) rfl (Or.inl rfl) (by decide) rfl rfl ?_
  refine wg_top (y := (nI (R.length - 1))) rfl ?_
  refine wg_aload_n (d21_71 L xs) rfl ?_
  refine wg_aastR (d21_72 L xs) (vp_in_nI (n := R.length - 1) (by omega) (by omega)) (T.2.2.1 k (by omega)).2.1 (rw_c (T.2.2.1 k (by omega)).2) ?_
  rw [nI_nat (n := R.length - 1) (by omega)]
  refine wg_iconst (d21_73 L xs) (x := 1) (by decide) ?_
  exact wg_iret (d21_74 L xs) rfl rfl ⟨rfl, tb_removed T hk hP⟩
theorem tb_removeN {x : Int32} (T : isTab s p R) (hx : x < 0 ∨ nI R.length ≤ x) : ca L xs (d + 1) 21 [.ref 3, .int x] s (fun v s' => v = some (.int 0) ∧ s = s') := by
  refine wg_call (Nat.le_of_ble_eq_true rfl) ?_
  show wp L xs d 21 0 [some (.ref 3), some (.int x), none, none] [] s _
  refine wg_iload_n (d21_0 L xs) rfl ?_
  refine wg_if_lt (d21_1 L xs) (t := 12) (by decide) (fun h1 => ?_) (fun h1 => ?_)
  · refine wg_iconst (d21_12 L xs) (x := 0) (by decide) ?_
    exact wg_iret (d21_13 L xs) rfl rfl ⟨rfl, rfl⟩
  · refine wg_iload_n (d21_4 L xs) rfl ?_
    refine wg_aload_n (d21_5 L xs) rfl ?_
    refine wg_get (d21_6 L xs) (kd := 1) (cj := 3) (k0 := 1) rfl (Or.inl rfl) (by decide) rfl rfl ?_
    refine wg_top (y := (nI R.length)) T.1 ?_
    refine wg_icmp_lt (d21_9 L xs) (t := 14) (by decide) (fun h2 => absurd h2 (Int32.not_lt.mpr (hx.resolve_left (by assumption)))) (fun h2 => ?_)
    refine wg_iconst (d21_12 L xs) (x := 0) (by decide) ?_
    exact wg_iret (d21_13 L xs) rfl rfl ⟨rfl, rfl⟩
theorem gd_drop {k : Nat} (T : isTab s p R) (hk : k < R.length) : ca L xs (d + 2) 20 [.ref 0, .int (nI k)] s (fun v s' => v = some (.int 1) ∧ isTab s' (fun j => p (p_sg k R.length j)) (R.eraseIdx k) ∧ (∀ a, ¬ a = 3 → s'.1 a = s.1 a) ∧ s'.2.1 = s.2.1 ∧ s'.2.2.2 = s.2.2.2) := by
  refine wg_call (Nat.le_of_ble_eq_true rfl) ?_
  show wp L xs (d + 1) 20 0 [some (.ref 0), some (.int (nI k))] [] s _
  refine wg_aload_n (d20_0 L xs) rfl ?_
  refine wg_get (d20_1 L xs) (kd := 1) (cj := 0) (k0 := 1) rfl (Or.inl rfl) (by decide) rfl rfl ?_
  refine wg_iload_n (d20_4 L xs) rfl ?_
  refine wg_invv (d20_5 L xs) (kd := 7) (mj := 21) (n := 1) rfl (Or.inl rfl) (ys := [.int (nI k)]) (r := []) rfl rfl (by decide) rfl rfl (Nat.le_of_ble_eq_true rfl) (tb_remove T hk) ?_
  rintro _ s1 ⟨rfl, g1⟩
  exact wg_iret (d20_8 L xs) rfl rfl ⟨rfl, g1⟩
theorem gd_dropN {x : Int32} (T : isTab s p R) (hx : x < 0 ∨ nI R.length ≤ x) : ca L xs (d + 2) 20 [.ref 0, .int x] s (fun v s' => v = some (.int 0) ∧ s = s') := by
  refine wg_call (Nat.le_of_ble_eq_true rfl) ?_
  show wp L xs (d + 1) 20 0 [some (.ref 0), some (.int x)] [] s _
  refine wg_aload_n (d20_0 L xs) rfl ?_
  refine wg_get (d20_1 L xs) (kd := 1) (cj := 0) (k0 := 1) rfl (Or.inl rfl) (by decide) rfl rfl ?_
  refine wg_iload_n (d20_4 L xs) rfl ?_
  refine wg_invv (d20_5 L xs) (kd := 7) (mj := 21) (n := 1) rfl (Or.inl rfl) (ys := [.int x]) (r := []) rfl rfl (by decide) rfl rfl (Nat.le_of_ble_eq_true rfl) (tb_removeN T hx) ?_
  rintro _ _ ⟨rfl, rfl⟩
  exact wg_iret (d20_8 L xs) rfl rfl ⟨rfl, rfl⟩
/-- is the text a row of the kind kd -/
def t_end (l : List Nat) : Nat := f_find (gl l) 32 0 (l.length - 0)
def t_ok (l : List Nat) (kd : Nat) : Bool := t_name (gl l) 0 (t_end l) && (if kd = 0 then (f_addr (gl l) l.length (l.length + 1 - (t_end l + 1)) 0 0 (t_end l + 1) (t_end l + 1)).isSome else if kd = 1 then t_name (gl l) (t_end l + 1) l.length else if kd = 2 then decide (t_end l + 1 < l.length) else decide (t_end l = l.length))
theorem t_name_X (g : Nat → Nat) (n : Nat) : t_name g (n + 1) n = false := by
  unfold t_name
  rw [show n - (n + 1) = 0 by omega, f_run]
  simp
theorem gd_tir {kd : Nat} (hl : hold s 1 l) (hk : kd ≤ 4) : ca L xs (d + 4) 36 [.ref 0, .int (nI kd)] s (fun v s' => v = some (.int (nI (bI (t_ok l kd)))) ∧ s = s') := by
  have hel : t_end l ≤ l.length := by have := (f_find_s (g := gl l) (c := 32) (l.length - 0) 0).2.1; unfold t_end; omega
  match kd, hk with
  | 0, _ =>
    unfold t_ok
    rw [if_pos rfl]
    cases ha : f_addr (gl l) l.length (l.length + 1 - (t_end l + 1)) 0 0 (t_end l + 1) (t_end l + 1) with
    | none => exact gd_tir0n hl rfl ha
    | some v => exact gd_tir0s hl rfl ha
  | 1, _ =>
    unfold t_ok
    rw [if_neg (by decide), if_pos rfl]
    by_cases e : t_end l < l.length
    · exact gd_tir1a hl rfl e
    · have e2 : l.length = t_end l := by omega
      have hx : t_name (gl l) (t_end l + 1) l.length = false := by rw [show t_end l + 1 = l.length + 1 by omega]; exact t_name_X _ _
      rw [hx]
      exact gd_tir1b hl rfl e2
  | 2, _ => exact gd_tir2 hl rfl
  | 3, _ => exact gd_tir3 hl rfl
  | 4, _ => exact gd_tir4 hl rfl
theorem gd_row {kd : Nat} (T : isTab s p R) (hR : R.length < 16) (hl : hold s 1 l) (hk4 : kd ≤ 4) (hok : t_ok l kd = true) : ca L xs (d + 6) 35 [.ref 0, .int (nI kd)] s (fun v s' => v = some (.int (nI (R ++ [t_row l kd (t_end l)]).length)) ∧ isTab s' p (R ++ [t_row l kd (t_end l)]) ∧ ∃ s1, onl s s1 3 87 ∧ tset s1 1 [] s') := by
  refine wg_call (Nat.le_of_ble_eq_true rfl) ?_
  have hnm : t_name (gl l) 0 (t_end l) = true := by unfold t_ok at hok; rw [Bool.and_eq_true] at hok; exact hok.1
  have he1 : 1 ≤ t_end l := by have := t_name_len hnm; omega
  have he48 : t_end l ≤ 48 := by have := t_name_len hnm; omega
  have hb1 : bI (t_ok l kd) = 1 := by rw [hok]; rfl
  show wp L xs (d + 5) 35 0 [some (.ref 0), some (.int (nI kd))] [] s _
  refine wg_aload_n (d35_0 L xs) rfl ?_
  refine wg_iload_n (d35_1 L xs) rfl ?_
  refine wg_invv (d35_2 L xs) (kd := 7) (mj := 36) (n := 1) rfl (Or.inl rfl) (ys := [.int (nI kd)]) (r := []) rfl rfl (by decide) rfl rfl (Nat.le_of_ble_eq_true rfl) (gd_tir hl hk4) ?_
  rintro _ _ ⟨rfl, rfl⟩
  refine wn_if_ne (d35_5 L xs) (x := bI (t_ok l kd)) (by omega) (t := 16) (by decide) (fun h1 => ?_) (fun h1 => by omega)
  refine wg_aload_n (d35_16 L xs) rfl ?_
  refine wg_get (d35_17 L xs) (kd := 1) (cj := 0) (k0 := 1) rfl (Or.inl rfl) (by decide) rfl rfl ?_
  refine wg_invv (d35_20 L xs) (kd := 7) (mj := 33) (n := 0) rfl (Or.inl rfl) (ys := []) (r := []) rfl rfl (by decide) rfl rfl (Nat.le_of_ble_eq_true rfl) tb_count ?_
  rintro _ _ ⟨rfl, rfl⟩
  refine wg_top (y := nI R.length) T.1 ?_
  refine wg_bipush (d35_23 L xs) (x := 16) (by decide) ?_
  refine wn_icmp_lt (d35_25 L xs) (x := R.length) (y := 16) (by omega) (by omega) (t := 36) (by decide) (fun h2 => ?_) (fun h2 => by omega)
  refine wg_aload_n (d35_36 L xs) rfl ?_
  refine wg_get (d35_37 L xs) (kd := 1) (cj := 0) (k0 := 1) rfl (Or.inl rfl) (by decide) rfl rfl ?_
  refine wg_iload_n (d35_40 L xs) rfl ?_
  refine wg_aload_n (d35_41 L xs) rfl ?_
  refine wg_get (d35_42 L xs) (kd := 1) (cj := 0) (k0 := 0) rfl (Or.inl rfl) (by decide) rfl rfl ?_
  refine wg_invv (d35_45 L xs) (kd := 7) (mj := 42) (n := 2) rfl (Or.inl rfl) (ys := [.ref 1, .int (nI kd)]) (r := []) rfl rfl (by decide) rfl rfl (Nat.le_of_ble_eq_true rfl) (tb_append T hR hl hk4 rfl he1 he48) ?_
  rintro _ s1 ⟨rfl, T1, o1⟩
  have hl1 : hold s1 1 l := hold_only o1 (Or.inl (by decide)) hl
  refine wg_aload_n (d35_48 L xs) rfl ?_
  refine wg_get (d35_49 L xs) (kd := 1) (cj := 0) (k0 := 0) rfl (Or.inl rfl) (by decide) rfl rfl ?_
  refine wg_invv (d35_52 L xs) (kd := 7) (mj := 18) (n := 0) rfl (Or.inl rfl) (ys := []) (r := []) rfl rfl (by decide) rfl rfl (Nat.le_of_ble_eq_true rfl) (ts_clear isT_all.1) ?_
  rintro _ s2 ⟨rfl, e2⟩
  have T2 := tset_tab e2 (Or.inl (by decide)) (by decide) T1
  refine wg_aload_n (d35_55 L xs) rfl ?_
  refine wg_get (d35_56 L xs) (kd := 1) (cj := 0) (k0 := 1) rfl (Or.inl rfl) (by decide) rfl rfl ?_
  refine wg_invv (d35_59 L xs) (kd := 7) (mj := 33) (n := 0) rfl (Or.inl rfl) (ys := []) (r := []) rfl rfl (by decide) rfl rfl (Nat.le_of_ble_eq_true rfl) tb_count ?_
  rintro _ _ ⟨rfl, rfl⟩
  exact wg_iret (d35_62 L xs) rfl rfl ⟨by rw [T2.1]; rfl, T2, s1, o1, e2⟩
end RM
