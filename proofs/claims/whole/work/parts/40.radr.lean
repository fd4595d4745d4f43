/-! addresses that are written: the reference -/
def r_dg (g : Nat → Nat) (to k : Nat) : Nat × Nat := f_digs g 0 k ((if k + 3 ≤ to then k + 3 else to) - k)
def r_addr (g : Nat → Nat) (to : Nat) : Nat → Nat → Nat → Option (Nat × Nat)
  | 0, v, k => some (v, k)
  | m + 1, v, k => if m < 3 ∧ (to ≤ k ∨ ¬ g k = 46) then none else (match r_num g (if m < 3 then k + 1 else k) 255 (r_dg g to (if m < 3 then k + 1 else k)) with
      | none => none
      | some b => r_addr g to m (v * 256 + b) (r_dg g to (if m < 3 then k + 1 else k)).2)
def aI (o : Option (Nat × Nat)) : Int32 := match o with
  | some p => nI p.1
  | none => 0
def aR (o : Option (Nat × Nat)) : Int32 := match o with
  | some p => nI p.2
  | none => -1
theorem mg_I_I (s : mg_s) (a k : Nat) (x y : Int32) : mg_I (mg_I s a k x) a k y = mg_I s a k y := by
  refine mg_T_ext ?_ rfl rfl
  funext b j
  show (if b = a then upd (if b = a then upd (s.1 b) k x else s.1 b) k y else (if b = a then upd (s.1 b) k x else s.1 b)) j = (if b = a then upd (s.1 b) k y else s.1 b) j
  by_cases e : b = a
  · rw [if_pos e, if_pos e, if_pos e]; unfold upd; by_cases e2 : j = k
    · rw [if_pos e2, if_pos e2]
    · rw [if_neg e2, if_neg e2, if_neg e2]
  · rw [if_neg e, if_neg e, if_neg e]
theorem f_digs_le {g : Nat → Nat} : ∀ (m v i : Nat), (f_digs g v i m).2 ≤ i + m := by
  intro m
  induction m with
  | zero => intro v i; exact Nat.le_refl _
  | succ m ih => intro v i; rw [f_digs]; split; exact Nat.le_trans (ih _ _) (by omega); exact Nat.le_add_right _ _
theorem r_dg_le {g : Nat → Nat} {to k : Nat} (h : k ≤ to) : (r_dg g to k).2 ≤ to := by
  have := f_digs_le (g := g) ((if k + 3 ≤ to then k + 3 else to) - k) 0 k
  unfold r_dg
  split at this <;> split <;> omega
theorem r_num_le {g : Nat → Nat} {fr most b : Nat} {p : Nat × Nat} (h : r_num g fr most p = some b) : b ≤ most := by
  rw [r_num] at h; split at h; cases h; cases h; omega
theorem d113_68 (L : Nat) (xs : Nat → Int32) : decode (ax_code (mgT L xs) 113) 68 = .ok (.aload_n 0, 1) := by
  show decode prog_11_method_10_code 68 = _
  decide +kernel
theorem d113_69 (L : Nat) (xs : Nat → Int32) : decode (ax_code (mgT L xs) 113) 69 = .ok (.aload_n 1, 1) := by
  show decode prog_11_method_10_code 69 = _
  decide +kernel
theorem d113_70 (L : Nat) (xs : Nat → Int32) : decode (ax_code (mgT L xs) 113) 70 = .ok (.iload 5, 2) := by
  show decode prog_11_method_10_code 70 = _
  decide +kernel
theorem d113_72 (L : Nat) (xs : Nat → Int32) : decode (ax_code (mgT L xs) 113) 72 = .ok (.iload_n 3, 1) := by
  show decode prog_11_method_10_code 72 = _
  decide +kernel
theorem d113_73 (L : Nat) (xs : Nat → Int32) : decode (ax_code (mgT L xs) 113) 73 = .ok (.sipush 255, 3) := by
  show decode prog_11_method_10_code 73 = _
  decide +kernel
theorem d113_76 (L : Nat) (xs : Nat → Int32) : decode (ax_code (mgT L xs) 113) 76 = .ok (.invokevirtual 99, 3) := by
  show decode prog_11_method_10_code 76 = _
  decide +kernel
theorem d113_79 (L : Nat) (xs : Nat → Int32) : decode (ax_code (mgT L xs) 113) 79 = .ok (.istore 7, 2) := by
  show decode prog_11_method_10_code 79 = _
  decide +kernel
theorem d113_81 (L : Nat) (xs : Nat → Int32) : decode (ax_code (mgT L xs) 113) 81 = .ok (.iload 7, 2) := by
  show decode prog_11_method_10_code 81 = _
  decide +kernel
theorem d113_83 (L : Nat) (xs : Nat → Int32) : decode (ax_code (mgT L xs) 113) 83 = .ok (.ifCond .ge 10, 3) := by
  show decode prog_11_method_10_code 83 = _
  decide +kernel
theorem d113_86 (L : Nat) (xs : Nat → Int32) : decode (ax_code (mgT L xs) 113) 86 = .ok (.aload_n 0, 1) := by
  show decode prog_11_method_10_code 86 = _
  decide +kernel
theorem d113_87 (L : Nat) (xs : Nat → Int32) : decode (ax_code (mgT L xs) 113) 87 = .ok (.iconst (-1), 1) := by
  show decode prog_11_method_10_code 87 = _
  decide +kernel
theorem d113_88 (L : Nat) (xs : Nat → Int32) : decode (ax_code (mgT L xs) 113) 88 = .ok (.putfield 96, 3) := by
  show decode prog_11_method_10_code 88 = _
  decide +kernel
theorem d113_91 (L : Nat) (xs : Nat → Int32) : decode (ax_code (mgT L xs) 113) 91 = .ok (.iconst 0, 1) := by
  show decode prog_11_method_10_code 91 = _
  decide +kernel
theorem d113_92 (L : Nat) (xs : Nat → Int32) : decode (ax_code (mgT L xs) 113) 92 = .ok (.ireturn, 1) := by
  show decode prog_11_method_10_code 92 = _
  decide +kernel
theorem d113_93 (L : Nat) (xs : Nat → Int32) : decode (ax_code (mgT L xs) 113) 93 = .ok (.aload_n 0, 1) := by
  show decode prog_11_method_10_code 93 = _
  decide +kernel
theorem d113_94 (L : Nat) (xs : Nat → Int32) : decode (ax_code (mgT L xs) 113) 94 = .ok (.getfield 96, 3) := by
  show decode prog_11_method_10_code 94 = _
  decide +kernel
theorem d113_97 (L : Nat) (xs : Nat → Int32) : decode (ax_code (mgT L xs) 113) 97 = .ok (.istore 5, 2) := by
  show decode prog_11_method_10_code 97 = _
  decide +kernel
theorem d113_99 (L : Nat) (xs : Nat → Int32) : decode (ax_code (mgT L xs) 113) 99 = .ok (.iload 4, 2) := by
  show decode prog_11_method_10_code 99 = _
  decide +kernel
theorem d113_101 (L : Nat) (xs : Nat → Int32) : decode (ax_code (mgT L xs) 113) 101 = .ok (.bipush 8, 2) := by
  show decode prog_11_method_10_code 101 = _
  decide +kernel
theorem d113_103 (L : Nat) (xs : Nat → Int32) : decode (ax_code (mgT L xs) 113) 103 = .ok (.ishl, 1) := by
  show decode prog_11_method_10_code 103 = _
  decide +kernel
theorem d113_104 (L : Nat) (xs : Nat → Int32) : decode (ax_code (mgT L xs) 113) 104 = .ok (.iload 7, 2) := by
  show decode prog_11_method_10_code 104 = _
  decide +kernel
theorem d113_106 (L : Nat) (xs : Nat → Int32) : decode (ax_code (mgT L xs) 113) 106 = .ok (.ior, 1) := by
  show decode prog_11_method_10_code 106 = _
  decide +kernel
theorem d113_107 (L : Nat) (xs : Nat → Int32) : decode (ax_code (mgT L xs) 113) 107 = .ok (.istore 4, 2) := by
  show decode prog_11_method_10_code 107 = _
  decide +kernel
theorem d113_109 (L : Nat) (xs : Nat → Int32) : decode (ax_code (mgT L xs) 113) 109 = .ok (.iinc 6 1, 3) := by
  show decode prog_11_method_10_code 109 = _
  decide +kernel
theorem d113_112 (L : Nat) (xs : Nat → Int32) : decode (ax_code (mgT L xs) 113) 112 = .ok (.goto (-103), 3) := by
  show decode prog_11_method_10_code 112 = _
  decide +kernel
section MDR
variable {L : Nat} {xs : Nat → Int32} {d : Nat} {q N to : Nat} {g : Nat → Nat}
theorem md_numN {s : mg_s} {fr most : Nat} (Hq : isA q N) (hg : ∀ k, k < to → s.2.1 q k = nI (g k) ∧ g k < 65536) (hto : to ≤ N) (hN : N < 2 ^ 20) (hmo : most < 2 ^ 30) (hf : fr ≤ to) (hq : r_num g fr most (r_dg g to fr) = none) : ca L xs (d + 2) 114 [.ref 141, .ref q, .int (nI fr), .int (nI to), .int (nI most)] s (fun v s' => v = some (.int (-1)) ∧ mg_I s 141 9 (nI (r_dg g to fr).2) = s') := by
  have key := md_number (L := L) (xs := xs) (d := d) Hq hg hto hN hmo hf
  unfold r_dg at hq
  rw [hq] at key; exact key
theorem md_numS {b : Nat} {s : mg_s} {fr most : Nat} (Hq : isA q N) (hg : ∀ k, k < to → s.2.1 q k = nI (g k) ∧ g k < 65536) (hto : to ≤ N) (hN : N < 2 ^ 20) (hmo : most < 2 ^ 30) (hf : fr ≤ to) (hq : r_num g fr most (r_dg g to fr) = some b) : ca L xs (d + 2) 114 [.ref 141, .ref q, .int (nI fr), .int (nI to), .int (nI most)] s (fun v s' => v = some (.int (nI b)) ∧ mg_I s 141 9 (nI (r_dg g to fr).2) = s') := by
  have key := md_number (L := L) (xs := xs) (d := d) Hq hg hto hN hmo hf
  unfold r_dg at hq
  rw [hq] at key; exact key
theorem md_adr_s {s : mg_s} {fr m v k i : Nat} {c5 : Option Value} {o : Option (Nat × Nat)} (Hq : isA q N) (hg : ∀ k, k < to → s.2.1 q k = nI (g k) ∧ g k < 65536) (hto : to ≤ N) (hN : N < 2 ^ 20) (hk : k ≤ to) (hi : i < 4) (ho1 : r_num g k 255 (r_dg g to k) = none → o = none) (kk : ∀ b, b ≤ 255 → r_num g k 255 (r_dg g to k) = some b → wp L xs (d + 2) 113 9 [some (.ref 141), some (.ref q), some (.int (nI fr)), some (.int (nI to)), some (.int (nI (v * 256 + b))), some (.int (nI (r_dg g to k).2)), some (.int (nI (i + 1))), some (.int (nI b))] [] (mg_I s 141 9 (nI (r_dg g to k).2)) (fun v2 s' => v2 = some (.int (aI (o))) ∧ mg_I s 141 9 (aR (o)) = s')) : wp L xs (d + 2) 113 68 [some (.ref 141), some (.ref q), some (.int (nI fr)), some (.int (nI to)), some (.int (nI v)), some (.int (nI k)), some (.int (nI i)), c5] [] s (fun v2 s' => v2 = some (.int (aI (o))) ∧ mg_I s 141 9 (aR (o)) = s') := by
  cases hq : r_num g k 255 (r_dg g to k) with
  | none =>
    rw [ho1 hq]
    refine wg_aload_n (d113_68 L xs) rfl ?_
    refine wg_aload_n (d113_69 L xs) rfl ?_
    refine wg_iload (d113_70 L xs) rfl ?_
    refine wg_iload_n (d113_72 L xs) rfl ?_
    refine wg_sipush (d113_73 L xs) (x := 255) (by decide) ?_
    refine wg_invv (d113_76 L xs) (kd := 7) (mj := 114) (n := 4) rfl (Or.inl rfl) (ys := [.int 255, .int (nI to), .int (nI k), .ref q]) (r := []) rfl rfl (by decide) rfl rfl (Nat.le_of_ble_eq_true rfl) (md_numN (fr := k) (to := to) (most := 255) Hq hg hto hN (by omega) (by omega) hq) ?_
    rintro _ _ ⟨rfl, rfl⟩
    refine wg_istore (d113_79 L xs) (ls' := [some (.ref 141), some (.ref q), some (.int (nI fr)), some (.int (nI to)), some (.int (nI v)), some (.int (nI k)), some (.int (nI i)), some (.int (-1))]) (Nat.le_of_ble_eq_true rfl) rfl ?_
    refine wg_iload (d113_81 L xs) rfl ?_
    refine wg_if_ge (d113_83 L xs) (t := 93) (by decide) (fun hp => absurd hp (by decide)) (fun _ => ?_)
    refine wg_aload_n (d113_86 L xs) rfl ?_
    refine wg_iconst (d113_87 L xs) (x := (-1)) (by decide) ?_
    refine wg_puti (d113_88 L xs) (cj := 9) (k0 := 9) rfl (by decide) rfl (Nat.le_of_ble_eq_true rfl) rfl rfl rfl ?_
    refine wg_iconst (d113_91 L xs) (x := 0) (by decide) ?_
    exact wg_iret (d113_92 L xs) rfl rfl ⟨rfl, (mg_I_I _ _ _ _ _).symm⟩
  | some b =>
    have hb := r_num_le hq
    refine wg_aload_n (d113_68 L xs) rfl ?_
    refine wg_aload_n (d113_69 L xs) rfl ?_
    refine wg_iload (d113_70 L xs) rfl ?_
    refine wg_iload_n (d113_72 L xs) rfl ?_
    refine wg_sipush (d113_73 L xs) (x := 255) (by decide) ?_
    refine wg_invv (d113_76 L xs) (kd := 7) (mj := 114) (n := 4) rfl (Or.inl rfl) (ys := [.int 255, .int (nI to), .int (nI k), .ref q]) (r := []) rfl rfl (by decide) rfl rfl (Nat.le_of_ble_eq_true rfl) (md_numS (fr := k) (to := to) (most := 255) Hq hg hto hN (by omega) (by omega) hq) ?_
    rintro _ _ ⟨rfl, rfl⟩
    refine wg_istore (d113_79 L xs) (ls' := [some (.ref 141), some (.ref q), some (.int (nI fr)), some (.int (nI to)), some (.int (nI v)), some (.int (nI k)), some (.int (nI i)), some (.int (nI b))]) (Nat.le_of_ble_eq_true rfl) rfl ?_
    refine wg_iload (d113_81 L xs) rfl ?_
    refine wn_if_ge (d113_83 L xs) (x := b) (by omega) (t := 93) (by decide) (fun h1 => ?_) (fun h1 => by omega)
    refine wg_aload_n (d113_93 L xs) rfl ?_
    refine wg_get (d113_94 L xs) (kd := 1) (cj := 9) (k0 := 9) rfl (Or.inl rfl) (by decide) rfl rfl ?_
    refine wg_top (y := nI (r_dg g to k).2) rfl ?_
    refine wg_istore (d113_97 L xs) (ls' := [some (.ref 141), some (.ref q), some (.int (nI fr)), some (.int (nI to)), some (.int (nI v)), some (.int (nI ((r_dg g to k).2))), some (.int (nI i)), some (.int (nI b))]) (Nat.le_of_ble_eq_true rfl) rfl ?_
    refine wg_iload (d113_99 L xs) rfl ?_
    refine wg_bipush (d113_101 L xs) (x := 8) (by decide) ?_
    refine wg_ishl (d113_103 L xs) ?_
    refine wg_iload (d113_104 L xs) rfl ?_
    refine wg_ior (d113_106 L xs) ?_
    refine wg_top (y := nI (v * 256 + b)) (ad_n (by omega)) ?_
    refine wg_istore (d113_107 L xs) (ls' := [some (.ref 141), some (.ref q), some (.int (nI fr)), some (.int (nI to)), some (.int (nI (v * 256 + b))), some (.int (nI ((r_dg g to k).2))), some (.int (nI i)), some (.int (nI b))]) (Nat.le_of_ble_eq_true rfl) rfl ?_
    refine wg_iinc (d113_109 L xs) (y := (nI (i + 1))) (ls' := [some (.ref 141), some (.ref q), some (.int (nI fr)), some (.int (nI to)), some (.int (nI (v * 256 + b))), some (.int (nI ((r_dg g to k).2))), some (.int (nI (i + 1))), some (.int (nI b))]) rfl (nI_add i 1) rfl ?_
    refine wg_goto (d113_112 L xs) (t := 9) (by decide) ?_
    exact kk b hb hq
end MDR
