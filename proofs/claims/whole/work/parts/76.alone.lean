/-! the checker: whether a record has terms alone -/
theorem d58_0 (L : Nat) (xs : Nat → Int32) : decode (ax_code (mgT L xs) 58) 0 = .ok (.iconst 0, 1) := by
  show decode prog_2_method_13_code 0 = _
  decide +kernel
theorem d58_1 (L : Nat) (xs : Nat → Int32) : decode (ax_code (mgT L xs) 58) 1 = .ok (.istore_n 2, 1) := by
  show decode prog_2_method_13_code 1 = _
  decide +kernel
theorem d58_2 (L : Nat) (xs : Nat → Int32) : decode (ax_code (mgT L xs) 58) 2 = .ok (.ldc 122, 2) := by
  show decode prog_2_method_13_code 2 = _
  decide +kernel
theorem d58_4 (L : Nat) (xs : Nat → Int32) : decode (ax_code (mgT L xs) 58) 4 = .ok (.invokevirtual 124, 3) := by
  show decode prog_2_method_13_code 4 = _
  decide +kernel
theorem d58_7 (L : Nat) (xs : Nat → Int32) : decode (ax_code (mgT L xs) 58) 7 = .ok (.istore_n 3, 1) := by
  show decode prog_2_method_13_code 7 = _
  decide +kernel
theorem d58_8 (L : Nat) (xs : Nat → Int32) : decode (ax_code (mgT L xs) 58) 8 = .ok (.iload_n 3, 1) := by
  show decode prog_2_method_13_code 8 = _
  decide +kernel
theorem d58_9 (L : Nat) (xs : Nat → Int32) : decode (ax_code (mgT L xs) 58) 9 = .ok (.istore 4, 2) := by
  show decode prog_2_method_13_code 9 = _
  decide +kernel
theorem d58_11 (L : Nat) (xs : Nat → Int32) : decode (ax_code (mgT L xs) 58) 11 = .ok (.iload 4, 2) := by
  show decode prog_2_method_13_code 11 = _
  decide +kernel
theorem d58_13 (L : Nat) (xs : Nat → Int32) : decode (ax_code (mgT L xs) 58) 13 = .ok (.aload_n 0, 1) := by
  show decode prog_2_method_13_code 13 = _
  decide +kernel
theorem d58_14 (L : Nat) (xs : Nat → Int32) : decode (ax_code (mgT L xs) 58) 14 = .ok (.invokevirtual 70, 3) := by
  show decode prog_2_method_13_code 14 = _
  decide +kernel
theorem d58_17 (L : Nat) (xs : Nat → Int32) : decode (ax_code (mgT L xs) 58) 17 = .ok (.if_icmp .gt 70, 3) := by
  show decode prog_2_method_13_code 17 = _
  decide +kernel
theorem d58_20 (L : Nat) (xs : Nat → Int32) : decode (ax_code (mgT L xs) 58) 20 = .ok (.iload 4, 2) := by
  show decode prog_2_method_13_code 20 = _
  decide +kernel
theorem d58_22 (L : Nat) (xs : Nat → Int32) : decode (ax_code (mgT L xs) 58) 22 = .ok (.aload_n 0, 1) := by
  show decode prog_2_method_13_code 22 = _
  decide +kernel
theorem d58_23 (L : Nat) (xs : Nat → Int32) : decode (ax_code (mgT L xs) 58) 23 = .ok (.invokevirtual 70, 3) := by
  show decode prog_2_method_13_code 23 = _
  decide +kernel
theorem d58_26 (L : Nat) (xs : Nat → Int32) : decode (ax_code (mgT L xs) 58) 26 = .ok (.if_icmp .eq 14, 3) := by
  show decode prog_2_method_13_code 26 = _
  decide +kernel
theorem d58_29 (L : Nat) (xs : Nat → Int32) : decode (ax_code (mgT L xs) 58) 29 = .ok (.aload_n 0, 1) := by
  show decode prog_2_method_13_code 29 = _
  decide +kernel
theorem d58_30 (L : Nat) (xs : Nat → Int32) : decode (ax_code (mgT L xs) 58) 30 = .ok (.iload 4, 2) := by
  show decode prog_2_method_13_code 30 = _
  decide +kernel
theorem d58_32 (L : Nat) (xs : Nat → Int32) : decode (ax_code (mgT L xs) 58) 32 = .ok (.invokevirtual 139, 3) := by
  show decode prog_2_method_13_code 32 = _
  decide +kernel
theorem d58_35 (L : Nat) (xs : Nat → Int32) : decode (ax_code (mgT L xs) 58) 35 = .ok (.bipush 32, 2) := by
  show decode prog_2_method_13_code 35 = _
  decide +kernel
theorem d58_37 (L : Nat) (xs : Nat → Int32) : decode (ax_code (mgT L xs) 58) 37 = .ok (.if_icmp .ne 44, 3) := by
  show decode prog_2_method_13_code 37 = _
  decide +kernel
theorem d58_40 (L : Nat) (xs : Nat → Int32) : decode (ax_code (mgT L xs) 58) 40 = .ok (.iload_n 3, 1) := by
  show decode prog_2_method_13_code 40 = _
  decide +kernel
theorem d58_41 (L : Nat) (xs : Nat → Int32) : decode (ax_code (mgT L xs) 58) 41 = .ok (.iload 4, 2) := by
  show decode prog_2_method_13_code 41 = _
  decide +kernel
theorem d58_43 (L : Nat) (xs : Nat → Int32) : decode (ax_code (mgT L xs) 58) 43 = .ok (.if_icmp .ge 33, 3) := by
  show decode prog_2_method_13_code 43 = _
  decide +kernel
theorem d58_46 (L : Nat) (xs : Nat → Int32) : decode (ax_code (mgT L xs) 58) 46 = .ok (.aload_n 1, 1) := by
  show decode prog_2_method_13_code 46 = _
  decide +kernel
theorem d58_47 (L : Nat) (xs : Nat → Int32) : decode (ax_code (mgT L xs) 58) 47 = .ok (.aload_n 0, 1) := by
  show decode prog_2_method_13_code 47 = _
  decide +kernel
theorem d58_48 (L : Nat) (xs : Nat → Int32) : decode (ax_code (mgT L xs) 58) 48 = .ok (.iload_n 3, 1) := by
  show decode prog_2_method_13_code 48 = _
  decide +kernel
theorem d58_49 (L : Nat) (xs : Nat → Int32) : decode (ax_code (mgT L xs) 58) 49 = .ok (.iload 4, 2) := by
  show decode prog_2_method_13_code 49 = _
  decide +kernel
theorem d58_51 (L : Nat) (xs : Nat → Int32) : decode (ax_code (mgT L xs) 58) 51 = .ok (.invokevirtual 142, 3) := by
  show decode prog_2_method_13_code 51 = _
  decide +kernel
theorem d58_54 (L : Nat) (xs : Nat → Int32) : decode (ax_code (mgT L xs) 58) 54 = .ok (.ifCond .ne 5, 3) := by
  show decode prog_2_method_13_code 54 = _
  decide +kernel
theorem d58_57 (L : Nat) (xs : Nat → Int32) : decode (ax_code (mgT L xs) 58) 57 = .ok (.iconst 0, 1) := by
  show decode prog_2_method_13_code 57 = _
  decide +kernel
theorem d58_58 (L : Nat) (xs : Nat → Int32) : decode (ax_code (mgT L xs) 58) 58 = .ok (.ireturn, 1) := by
  show decode prog_2_method_13_code 58 = _
  decide +kernel
theorem d58_59 (L : Nat) (xs : Nat → Int32) : decode (ax_code (mgT L xs) 58) 59 = .ok (.iload_n 2, 1) := by
  show decode prog_2_method_13_code 59 = _
  decide +kernel
theorem d58_60 (L : Nat) (xs : Nat → Int32) : decode (ax_code (mgT L xs) 58) 60 = .ok (.aload_n 1, 1) := by
  show decode prog_2_method_13_code 60 = _
  decide +kernel
theorem d58_61 (L : Nat) (xs : Nat → Int32) : decode (ax_code (mgT L xs) 58) 61 = .ok (.getfield 148, 3) := by
  show decode prog_2_method_13_code 61 = _
  decide +kernel
theorem d58_64 (L : Nat) (xs : Nat → Int32) : decode (ax_code (mgT L xs) 58) 64 = .ok (.bipush 6, 2) := by
  show decode prog_2_method_13_code 64 = _
  decide +kernel
theorem d58_66 (L : Nat) (xs : Nat → Int32) : decode (ax_code (mgT L xs) 58) 66 = .ok (.if_icmp .ne 7, 3) := by
  show decode prog_2_method_13_code 66 = _
  decide +kernel
theorem d58_69 (L : Nat) (xs : Nat → Int32) : decode (ax_code (mgT L xs) 58) 69 = .ok (.iconst 1, 1) := by
  show decode prog_2_method_13_code 69 = _
  decide +kernel
theorem d58_70 (L : Nat) (xs : Nat → Int32) : decode (ax_code (mgT L xs) 58) 70 = .ok (.goto 4, 3) := by
  show decode prog_2_method_13_code 70 = _
  decide +kernel
theorem d58_73 (L : Nat) (xs : Nat → Int32) : decode (ax_code (mgT L xs) 58) 73 = .ok (.iconst 0, 1) := by
  show decode prog_2_method_13_code 73 = _
  decide +kernel
theorem d58_74 (L : Nat) (xs : Nat → Int32) : decode (ax_code (mgT L xs) 58) 74 = .ok (.iadd, 1) := by
  show decode prog_2_method_13_code 74 = _
  decide +kernel
theorem d58_75 (L : Nat) (xs : Nat → Int32) : decode (ax_code (mgT L xs) 58) 75 = .ok (.istore_n 2, 1) := by
  show decode prog_2_method_13_code 75 = _
  decide +kernel
theorem d58_76 (L : Nat) (xs : Nat → Int32) : decode (ax_code (mgT L xs) 58) 76 = .ok (.iload 4, 2) := by
  show decode prog_2_method_13_code 76 = _
  decide +kernel
theorem d58_78 (L : Nat) (xs : Nat → Int32) : decode (ax_code (mgT L xs) 58) 78 = .ok (.iconst 1, 1) := by
  show decode prog_2_method_13_code 78 = _
  decide +kernel
theorem d58_79 (L : Nat) (xs : Nat → Int32) : decode (ax_code (mgT L xs) 58) 79 = .ok (.iadd, 1) := by
  show decode prog_2_method_13_code 79 = _
  decide +kernel
theorem d58_80 (L : Nat) (xs : Nat → Int32) : decode (ax_code (mgT L xs) 58) 80 = .ok (.istore_n 3, 1) := by
  show decode prog_2_method_13_code 80 = _
  decide +kernel
theorem d58_81 (L : Nat) (xs : Nat → Int32) : decode (ax_code (mgT L xs) 58) 81 = .ok (.iinc 4 1, 3) := by
  show decode prog_2_method_13_code 81 = _
  decide +kernel
theorem d58_84 (L : Nat) (xs : Nat → Int32) : decode (ax_code (mgT L xs) 58) 84 = .ok (.goto (-73), 3) := by
  show decode prog_2_method_13_code 84 = _
  decide +kernel
theorem d58_87 (L : Nat) (xs : Nat → Int32) : decode (ax_code (mgT L xs) 58) 87 = .ok (.iload_n 2, 1) := by
  show decode prog_2_method_13_code 87 = _
  decide +kernel
theorem d58_88 (L : Nat) (xs : Nat → Int32) : decode (ax_code (mgT L xs) 58) 88 = .ok (.iconst 1, 1) := by
  show decode prog_2_method_13_code 88 = _
  decide +kernel
theorem d58_89 (L : Nat) (xs : Nat → Int32) : decode (ax_code (mgT L xs) 58) 89 = .ok (.if_icmp .gt 7, 3) := by
  show decode prog_2_method_13_code 89 = _
  decide +kernel
theorem d58_92 (L : Nat) (xs : Nat → Int32) : decode (ax_code (mgT L xs) 58) 92 = .ok (.iconst 1, 1) := by
  show decode prog_2_method_13_code 92 = _
  decide +kernel
theorem d58_93 (L : Nat) (xs : Nat → Int32) : decode (ax_code (mgT L xs) 58) 93 = .ok (.goto 4, 3) := by
  show decode prog_2_method_13_code 93 = _
  decide +kernel
theorem d58_96 (L : Nat) (xs : Nat → Int32) : decode (ax_code (mgT L xs) 58) 96 = .ok (.iconst 0, 1) := by
  show decode prog_2_method_13_code 96 = _
  decide +kernel
theorem d58_97 (L : Nat) (xs : Nat → Int32) : decode (ax_code (mgT L xs) 58) 97 = .ok (.ireturn, 1) := by
  show decode prog_2_method_13_code 97 = _
  decide +kernel
theorem t_term_ok {g : Nat → Nat} {fr to : Nat} {t : tmT} (hf : fr < to) (h : t_term g fr to = some t) : t.1 ≤ 7 ∧ t.2.2.1 ≤ to ∧ t.2.2.2.1 ≤ to ∧ (t.1 < 6 → 1 ≤ t.2.1 ∧ t.2.1 ≤ 4 ∧ t.2.2.2.2.1 ≤ 32) ∧ ((t.1 = 1 ∨ t.1 = 5 ∨ t.1 = 6) → t.2.2.1 < t.2.2.2.1) ∧ (¬ t.1 = 4 → t.2.2.1 < t.2.2.2.1 → t_tgt g t.2.2.1 t.2.2.2.1 = true) ∧ t.2.2.1 ≤ t.2.2.2.1 := by
  unfold t_term at h
  cases hm : t_mod g fr to with
  | some e =>
    rw [hm] at h
    have he := t_mod_lt hm
    replace h : t_modi g fr e to = some t := h
    unfold t_modi at h
    split at h
    · split at h
      · rename_i h1 h2
        cases h
        refine ⟨?_, by show e + 1 ≤ to; omega, Nat.le_refl _, ?_, fun _ => h1, fun _ _ => h2, by show e + 1 ≤ to; omega⟩
        · show (if _ then 6 else 7) ≤ 7
          split <;> omega
        · intro q
          exfalso
          revert q
          show ¬ (if _ then 6 else 7) < 6
          split <;> omega
      · cases h
    · split at h
      · cases h
      · cases h
        refine ⟨Nat.le_refl _, by show e + 1 ≤ to; omega, Nat.le_refl _, fun q => ?_, fun q => ?_, fun _ q => ?_, by show e + 1 ≤ to; omega⟩
        · exact absurd q (show ¬ (7 : Nat) < 6 by decide)
        · exact absurd q (show ¬ ((7 : Nat) = 1 ∨ (7 : Nat) = 5 ∨ (7 : Nat) = 6) by decide)
        · exact absurd q (by show ¬ e + 1 < to; omega)
  | none =>
    rw [hm] at h
    replace h : t_mech g fr to = some t := h
    unfold t_mech at h
    revert h
    generalize hst : (if c_sg (g fr) = true then fr + 1 else fr) = st
    have hst1 : st ≤ to := by rw [← hst]; split <;> omega
    have hr : 1 ≤ c_res (g fr) ∧ c_res (g fr) ≤ 4 := by unfold c_res; split; omega; split; omega; split <;> omega
    revert hr
    generalize c_res (g fr) = res
    intro hr h
    unfold t_rest at h
    cases hk : t_kind g st (t_co g st to) with
    | none => rw [hk] at h; cases h
    | some k =>
      rw [hk] at h
      replace h : (t_bits g st to).bind (fun b => t_rk g st to res k b) = some t := h
      cases hb : t_bits g st to with
      | none => rw [hb] at h; cases h
      | some b =>
        rw [hb] at h
        replace h : t_rk g st to res k b = some t := h
        have hb32 : b ≤ 32 := by
          unfold t_bits at hb
          split at hb
          · exact t_num_le hb
          · cases hb; exact Nat.le_refl _
        have hs := f_find_s (g := g) (c := 47) (to - st) st
        have hs' : st ≤ t_sl g st to ∧ t_sl g st to ≤ to := ⟨hs.1, by have := hs.2.1; unfold t_sl; omega⟩
        have hc := f_find_s (g := g) (c := 58) (t_sl g st to - st) st
        have htf : t_tf g st to ≤ t_sl g st to := by unfold t_tf; split <;> omega
        have hk5 := t_kind_le hk
        unfold t_rk at h
        split at h
        · split at h
          · rename_i h1 h2
            cases h
            refine ⟨show (0 : Nat) ≤ 7 by decide, by show t_tf g st to ≤ to; omega, hs'.2, fun _ => ⟨hr.1, hr.2, hb32⟩, fun q => absurd q (show ¬ ((0 : Nat) = 1 ∨ (0 : Nat) = 5 ∨ (0 : Nat) = 6) by decide), fun _ q => ?_, htf⟩
            exfalso
            revert q
            show ¬ t_tf g st to < t_sl g st to
            unfold t_tf
            rw [if_neg h2.1]
            omega
          · cases h
        · split at h
          · split at h
            · rename_i h1 h2 h3
              cases h
              have ht := h3.2
              have ht2 : t_tf g st to < t_sl g st to := by unfold t_tgt at ht; rw [Bool.and_eq_true, decide_eq_true_eq] at ht; exact ht.1
              exact ⟨by show k ≤ 7; omega, by show t_tf g st to ≤ to; omega, hs'.2, fun _ => ⟨hr.1, hr.2, hb32⟩, fun _ => ht2, fun _ _ => ht, htf⟩
            · cases h
          · split at h
            · split at h
              · rename_i h1 h2 h3 h4
                cases h
                refine ⟨by show k ≤ 7; omega, by show t_tf g st to ≤ to; omega, hs'.2, fun _ => ⟨hr.1, hr.2, hb32⟩, fun q => absurd q (by show ¬ (k = 1 ∨ k = 5 ∨ k = 6); omega), fun _ q => ?_, htf⟩
                rcases h4 with h4 | h4
                · exfalso
                  revert q
                  show ¬ t_tf g st to < t_sl g st to
                  unfold t_tf
                  rw [if_neg h4]
                  omega
                · exact h4
              · cases h
            · cases ha : f_addr g (t_sl g st to) (t_sl g st to + 1 - t_tf g st to) 0 0 (t_tf g st to) (t_tf g st to) with
              | none => rw [ha] at h; cases h
              | some v =>
                rw [ha] at h
                cases h
                exact ⟨show (4 : Nat) ≤ 7 by decide, by show t_tf g st to ≤ to; omega, hs'.2, fun _ => ⟨hr.1, hr.2, hb32⟩, fun q => absurd q (show ¬ ((4 : Nat) = 1 ∨ (4 : Nat) = 5 ∨ (4 : Nat) = 6) by decide), fun q => absurd rfl q, htf⟩
def f_al (D : List Nat) : Nat → Nat → Nat → Nat → Bool
  | 0, _, _, n => decide (n ≤ 1)
  | m + 1, st, i, n => if i = D.length ∨ gl D i = 32 then (if st < i then (match t_term (gl D) st i with
      | none => false
      | some t => f_al D m (i + 1) (i + 1) (if t.1 = 6 then n + 1 else n)) else f_al D m (i + 1) (i + 1) n) else f_al D m st (i + 1) n
/-- the record D has terms alone -/
def t_al (D : List Nat) : Bool := f_al D (D.length + 1 - 6) 6 6 0
section AL
variable {L : Nat} {xs : Nat → Int32} {d a r : Nat} {l : List Nat}
theorem ck_al_l (H : isT a) (Hr : isM r) (hra : ¬ a = r) : ∀ (m st i n : Nat) (s : mg_s), i + m = l.length + 1 → st ≤ i → n ≤ i → hold s a l → wp L xs (d + 6) 58 11 [some (.ref a), some (.ref r), some (.int (nI n)), some (.int (nI st)), some (.int (nI i))] [] s (fun v s' => v = some (.int (nI (bI (f_al l m st i n)))) ∧ ∃ f, mg_M s r f = s') := by
  have hself : ∀ s : mg_s, mg_M s r (s.1 r) = s := by
    intro s
    refine mg_T_ext ?_ rfl rfl
    funext b
    show (if b = r then s.1 r else s.1 b) = s.1 b
    by_cases e : b = r
    · rw [if_pos e, e]
    · rw [if_neg e]
  have hlm := tx_m H
  intro m
  induction m with
  | zero =>
    intro st i n s hm hst hn hl
    have hll := hl.1.2
    rw [f_al]
    refine wg_iload (d58_11 L xs) rfl ?_
    refine wg_aload_n (d58_13 L xs) rfl ?_
    refine wg_invv (d58_14 L xs) (kd := 7) (mj := 15) (n := 0) rfl (Or.inl rfl) (ys := []) (r := [.int (nI i)]) rfl rfl H.1 (tx_c H) rfl (Nat.le_of_ble_eq_true rfl) (ts_size H hl) ?_
    rintro _ _ ⟨rfl, rfl⟩
    refine wn_icmp_gt (d58_17 L xs) (x := i) (y := l.length) (by omega) (by omega) (t := 87) (by decide) (fun h1 => ?_) (fun h1 => by omega)
    refine wg_iload_n (d58_87 L xs) rfl ?_
    refine wg_iconst (d58_88 L xs) (x := 1) (by decide) ?_
    refine wn_icmp_gt (d58_89 L xs) (x := n) (y := 1) (by omega) (by omega) (t := 96) (by decide) (fun h2 => ?_) (fun h2 => ?_)
    · refine wg_iconst (d58_96 L xs) (x := 0) (by decide) ?_
      exact wg_iret (d58_97 L xs) rfl rfl ⟨by rw [decide_eq_false (show ¬ n ≤ 1 by omega)]; rfl, _, hself s⟩
    · refine wg_iconst (d58_92 L xs) (x := 1) (by decide) ?_
      refine wg_goto (d58_93 L xs) (t := 97) (by decide) ?_
      exact wg_iret (d58_97 L xs) rfl rfl ⟨by rw [decide_eq_true (show n ≤ 1 by omega)]; rfl, _, hself s⟩
  | succ m ih =>
    intro st i n s hm hst hn hl
    have hll := hl.1.2
    have hg := gl_lt hl.2.1 i
    rw [f_al]
    refine wg_iload (d58_11 L xs) rfl ?_
    refine wg_aload_n (d58_13 L xs) rfl ?_
    refine wg_invv (d58_14 L xs) (kd := 7) (mj := 15) (n := 0) rfl (Or.inl rfl) (ys := []) (r := [.int (nI i)]) rfl rfl H.1 (tx_c H) rfl (Nat.le_of_ble_eq_true rfl) (ts_size H hl) ?_
    rintro _ _ ⟨rfl, rfl⟩
    refine wn_icmp_gt (d58_17 L xs) (x := i) (y := l.length) (by omega) (by omega) (t := 87) (by decide) (fun h1 => by omega) (fun h1 => ?_)
    refine wg_iload (d58_20 L xs) rfl ?_
    refine wg_aload_n (d58_22 L xs) rfl ?_
    refine wg_invv (d58_23 L xs) (kd := 7) (mj := 15) (n := 0) rfl (Or.inl rfl) (ys := []) (r := [.int (nI i)]) rfl rfl H.1 (tx_c H) rfl (Nat.le_of_ble_eq_true rfl) (ts_size H hl) ?_
    rintro _ _ ⟨rfl, rfl⟩
    refine wn_icmp_eq (d58_26 L xs) (x := i) (y := l.length) (by omega) (by omega) (t := 40) (by decide) (fun h2 => ?_) (fun h2 => ?_)
    · refine wg_iload_n (d58_40 L xs) rfl ?_
      refine wg_iload (d58_41 L xs) rfl ?_
      refine wn_icmp_ge (d58_43 L xs) (x := st) (y := i) (by omega) (by omega) (t := 76) (by decide) (fun h3 => ?_) (fun h3 => ?_)
      · refine wg_iload (d58_76 L xs) rfl ?_
        refine wg_iconst (d58_78 L xs) (x := 1) (by decide) ?_
        refine wg_iadd (d58_79 L xs) ?_
        refine wg_top (y := (nI (i + 1))) (nI_add i 1) ?_
        refine wg_istore_n (d58_80 L xs) (ls' := [some (.ref a), some (.ref r), some (.int (nI n)), some (.int (nI (i + 1))), some (.int (nI i))]) (Nat.le_of_ble_eq_true rfl) rfl ?_
        refine wg_iinc (d58_81 L xs) (y := (nI (i + 1))) (ls' := [some (.ref a), some (.ref r), some (.int (nI n)), some (.int (nI (i + 1))), some (.int (nI (i + 1)))]) rfl (nI_add i 1) rfl ?_
        refine wg_goto (d58_84 L xs) (t := 11) (by decide) ?_
        rw [if_pos (by omega), if_neg (by omega)]; exact ih (i + 1) (i + 1) n s (by omega) (Nat.le_refl _) (by omega) hl
      · rw [if_pos (by omega), if_pos (by omega)]
        cases hq : t_term (gl l) st i with
        | none =>
          show wp L xs (d + 6) 58 46 [some (.ref a), some (.ref r), some (.int (nI n)), some (.int (nI st)), some (.int (nI i))] [] s (fun v s' => v = some (.int (nI (bI false))) ∧ ∃ f, mg_M s r f = s')
          refine wg_aload_n (d58_46 L xs) rfl ?_
          refine wg_aload_n (d58_47 L xs) rfl ?_
          refine wg_iload_n (d58_48 L xs) rfl ?_
          refine wg_iload (d58_49 L xs) rfl ?_
          refine wg_invv (d58_51 L xs) (kd := 7) (mj := 59) (n := 3) rfl (Or.inl rfl) (ys := [.int (nI i), .int (nI st), .ref a]) (r := []) rfl rfl Hr.1 (tm_c Hr) rfl (Nat.le_of_ble_eq_true rfl) (by have h := tm_read (L := L) (xs := xs) (d := d) (fr := st) (to := i) H hl Hr hra (by omega) (by omega); rw [hq] at h; exact h) ?_
          rintro _ _ ⟨rfl, ⟨f, rfl⟩, ht⟩
          refine wg_top (y := 0) rfl ?_
          refine wg_if_ne (d58_54 L xs) (t := 59) (by decide) (fun hp => absurd hp (by decide)) (fun _ => ?_)
          refine wg_iconst (d58_57 L xs) (x := 0) (by decide) ?_
          exact wg_iret (d58_58 L xs) rfl rfl ⟨rfl, f, rfl⟩
        | some t =>
          have hto := t_term_ok (by omega) hq
          show wp L xs (d + 6) 58 46 [some (.ref a), some (.ref r), some (.int (nI n)), some (.int (nI st)), some (.int (nI i))] [] s (fun v s' => v = some (.int (nI (bI (f_al l m (i + 1) (i + 1) (if t.1 = 6 then n + 1 else n))))) ∧ ∃ f, mg_M s r f = s')
          refine wg_aload_n (d58_46 L xs) rfl ?_
          refine wg_aload_n (d58_47 L xs) rfl ?_
          refine wg_iload_n (d58_48 L xs) rfl ?_
          refine wg_iload (d58_49 L xs) rfl ?_
          refine wg_invv (d58_51 L xs) (kd := 7) (mj := 59) (n := 3) rfl (Or.inl rfl) (ys := [.int (nI i), .int (nI st), .ref a]) (r := []) rfl rfl Hr.1 (tm_c Hr) rfl (Nat.le_of_ble_eq_true rfl) (by have h := tm_read (L := L) (xs := xs) (d := d) (fr := st) (to := i) H hl Hr hra (by omega) (by omega); rw [hq] at h; exact h) ?_
          rintro _ _ ⟨rfl, ⟨f, rfl⟩, ht⟩
          refine wg_top (y := 1) rfl ?_
          refine wg_if_ne (d58_54 L xs) (t := 59) (by decide) (fun _ => ?_) (fun hn => absurd (by decide) hn)
          refine wg_iload_n (d58_59 L xs) rfl ?_
          refine wg_aload_n (d58_60 L xs) rfl ?_
          refine wg_get (d58_61 L xs) (kd := 2) (cj := 4) (k0 := 0) rfl (Or.inr rfl) Hr.1 (tm_c Hr) rfl ?_
          refine wg_top (y := (nI t.1)) (ht t rfl).1 ?_
          refine wg_bipush (d58_64 L xs) (x := 6) (by decide) ?_
          refine wn_icmp_ne (d58_66 L xs) (x := t.1) (y := 6) (by omega) (by omega) (t := 73) (by decide) (fun h2 => ?_) (fun h2 => ?_)
          · refine wg_iconst (d58_73 L xs) (x := 0) (by decide) ?_
            refine wg_iadd (d58_74 L xs) ?_
            refine wg_top (y := (nI (n + 0))) (nI_add n 0) ?_
            refine wg_istore_n (d58_75 L xs) (ls' := [some (.ref a), some (.ref r), some (.int (nI (n + 0))), some (.int (nI st)), some (.int (nI i))]) (Nat.le_of_ble_eq_true rfl) rfl ?_
            refine wg_iload (d58_76 L xs) rfl ?_
            refine wg_iconst (d58_78 L xs) (x := 1) (by decide) ?_
            refine wg_iadd (d58_79 L xs) ?_
            refine wg_top (y := (nI (i + 1))) (nI_add i 1) ?_
            refine wg_istore_n (d58_80 L xs) (ls' := [some (.ref a), some (.ref r), some (.int (nI (n + 0))), some (.int (nI (i + 1))), some (.int (nI i))]) (Nat.le_of_ble_eq_true rfl) rfl ?_
            refine wg_iinc (d58_81 L xs) (y := (nI (i + 1))) (ls' := [some (.ref a), some (.ref r), some (.int (nI (n + 0))), some (.int (nI (i + 1))), some (.int (nI (i + 1)))]) rfl (nI_add i 1) rfl ?_
            refine wg_goto (d58_84 L xs) (t := 11) (by decide) ?_
            rw [if_neg (by omega)]; exact wp_mono (ih (i + 1) (i + 1) n (mg_M s r f) (by omega) (Nat.le_refl _) (by omega) (hold_M hl hra)) (fun v s' h => ⟨h.1, h.2.elim (fun f' h' => ⟨f', by rw [← h', mg_M_M]⟩)⟩)
          · refine wg_iconst (d58_69 L xs) (x := 1) (by decide) ?_
            refine wg_goto (d58_70 L xs) (t := 74) (by decide) ?_
            refine wg_iadd (d58_74 L xs) ?_
            refine wg_top (y := (nI (n + 1))) (nI_add n 1) ?_
            refine wg_istore_n (d58_75 L xs) (ls' := [some (.ref a), some (.ref r), some (.int (nI (n + 1))), some (.int (nI st)), some (.int (nI i))]) (Nat.le_of_ble_eq_true rfl) rfl ?_
            refine wg_iload (d58_76 L xs) rfl ?_
            refine wg_iconst (d58_78 L xs) (x := 1) (by decide) ?_
            refine wg_iadd (d58_79 L xs) ?_
            refine wg_top (y := (nI (i + 1))) (nI_add i 1) ?_
            refine wg_istore_n (d58_80 L xs) (ls' := [some (.ref a), some (.ref r), some (.int (nI (n + 1))), some (.int (nI (i + 1))), some (.int (nI i))]) (Nat.le_of_ble_eq_true rfl) rfl ?_
            refine wg_iinc (d58_81 L xs) (y := (nI (i + 1))) (ls' := [some (.ref a), some (.ref r), some (.int (nI (n + 1))), some (.int (nI (i + 1))), some (.int (nI (i + 1)))]) rfl (nI_add i 1) rfl ?_
            refine wg_goto (d58_84 L xs) (t := 11) (by decide) ?_
            rw [if_pos (by omega)]; exact wp_mono (ih (i + 1) (i + 1) (n + 1) (mg_M s r f) (by omega) (Nat.le_refl _) (by omega) (hold_M hl hra)) (fun v s' h => ⟨h.1, h.2.elim (fun f' h' => ⟨f', by rw [← h', mg_M_M]⟩)⟩)
    · refine wg_aload_n (d58_29 L xs) rfl ?_
      refine wg_iload (d58_30 L xs) rfl ?_
      refine wg_invv (d58_32 L xs) (kd := 7) (mj := 31) (n := 1) rfl (Or.inl rfl) (ys := [.int (nI i)]) (r := []) rfl rfl H.1 (tx_c H) rfl (Nat.le_of_ble_eq_true rfl) (ts_at H hl (by omega)) ?_
      rintro _ _ ⟨rfl, rfl⟩
      refine wg_bipush (d58_35 L xs) (x := 32) (by decide) ?_
      refine wn_icmp_ne (d58_37 L xs) (x := gl l i) (y := 32) (by omega) (by omega) (t := 81) (by decide) (fun h4 => ?_) (fun h4 => ?_)
      · refine wg_iinc (d58_81 L xs) (y := (nI (i + 1))) (ls' := [some (.ref a), some (.ref r), some (.int (nI n)), some (.int (nI st)), some (.int (nI (i + 1)))]) rfl (nI_add i 1) rfl ?_
        refine wg_goto (d58_84 L xs) (t := 11) (by decide) ?_
        rw [if_neg (by omega)]; exact ih st (i + 1) n s (by omega) (by omega) (by omega) hl
      · refine wg_iload_n (d58_40 L xs) rfl ?_
        refine wg_iload (d58_41 L xs) rfl ?_
        refine wn_icmp_ge (d58_43 L xs) (x := st) (y := i) (by omega) (by omega) (t := 76) (by decide) (fun h5 => ?_) (fun h5 => ?_)
        · refine wg_iload (d58_76 L xs) rfl ?_
          refine wg_iconst (d58_78 L xs) (x := 1) (by decide) ?_
          refine wg_iadd (d58_79 L xs) ?_
          refine wg_top (y := (nI (i + 1))) (nI_add i 1) ?_
          refine wg_istore_n (d58_80 L xs) (ls' := [some (.ref a), some (.ref r), some (.int (nI n)), some (.int (nI (i + 1))), some (.int (nI i))]) (Nat.le_of_ble_eq_true rfl) rfl ?_
          refine wg_iinc (d58_81 L xs) (y := (nI (i + 1))) (ls' := [some (.ref a), some (.ref r), some (.int (nI n)), some (.int (nI (i + 1))), some (.int (nI (i + 1)))]) rfl (nI_add i 1) rfl ?_
          refine wg_goto (d58_84 L xs) (t := 11) (by decide) ?_
          rw [if_pos (by omega), if_neg (by omega)]; exact ih (i + 1) (i + 1) n s (by omega) (Nat.le_refl _) (by omega) hl
        · rw [if_pos (by omega), if_pos (by omega)]
          cases hq : t_term (gl l) st i with
          | none =>
            show wp L xs (d + 6) 58 46 [some (.ref a), some (.ref r), some (.int (nI n)), some (.int (nI st)), some (.int (nI i))] [] s (fun v s' => v = some (.int (nI (bI false))) ∧ ∃ f, mg_M s r f = s')
            refine wg_aload_n (d58_46 L xs) rfl ?_
            refine wg_aload_n (d58_47 L xs) rfl ?_
            refine wg_iload_n (d58_48 L xs) rfl ?_
            refine wg_iload (d58_49 L xs) rfl ?_
            refine wg_invv (d58_51 L xs) (kd := 7) (mj := 59) (n := 3) rfl (Or.inl rfl) (ys := [.int (nI i), .int (nI st), .ref a]) (r := []) rfl rfl Hr.1 (tm_c Hr) rfl (Nat.le_of_ble_eq_true rfl) (by have h := tm_read (L := L) (xs := xs) (d := d) (fr := st) (to := i) H hl Hr hra (by omega) (by omega); rw [hq] at h; exact h) ?_
            rintro _ _ ⟨rfl, ⟨f, rfl⟩, ht⟩
            refine wg_top (y := 0) rfl ?_
            refine wg_if_ne (d58_54 L xs) (t := 59) (by decide) (fun hp => absurd hp (by decide)) (fun _ => ?_)
            refine wg_iconst (d58_57 L xs) (x := 0) (by decide) ?_
            exact wg_iret (d58_58 L xs) rfl rfl ⟨rfl, f, rfl⟩
          | some t =>
            have hto := t_term_ok (by omega) hq
            show wp L xs (d + 6) 58 46 [some (.ref a), some (.ref r), some (.int (nI n)), some (.int (nI st)), some (.int (nI i))] [] s (fun v s' => v = some (.int (nI (bI (f_al l m (i + 1) (i + 1) (if t.1 = 6 then n + 1 else n))))) ∧ ∃ f, mg_M s r f = s')
            refine wg_aload_n (d58_46 L xs) rfl ?_
            refine wg_aload_n (d58_47 L xs) rfl ?_
            refine wg_iload_n (d58_48 L xs) rfl ?_
            refine wg_iload (d58_49 L xs) rfl ?_
            refine wg_invv (d58_51 L xs) (kd := 7) (mj := 59) (n := 3) rfl (Or.inl rfl) (ys := [.int (nI i), .int (nI st), .ref a]) (r := []) rfl rfl Hr.1 (tm_c Hr) rfl (Nat.le_of_ble_eq_true rfl) (by have h := tm_read (L := L) (xs := xs) (d := d) (fr := st) (to := i) H hl Hr hra (by omega) (by omega); rw [hq] at h; exact h) ?_
            rintro _ _ ⟨rfl, ⟨f, rfl⟩, ht⟩
            refine wg_top (y := 1) rfl ?_
            refine wg_if_ne (d58_54 L xs) (t := 59) (by decide) (fun _ => ?_) (fun hn => absurd (by decide) hn)
            refine wg_iload_n (d58_59 L xs) rfl ?_
            refine wg_aload_n (d58_60 L xs) rfl ?_
            refine wg_get (d58_61 L xs) (kd := 2) (cj := 4) (k0 := 0) rfl (Or.inr rfl) Hr.1 (tm_c Hr) rfl ?_
            refine wg_top (y := (nI t.1)) (ht t rfl).1 ?_
            refine wg_bipush (d58_64 L xs) (x := 6) (by decide) ?_
            refine wn_icmp_ne (d58_66 L xs) (x := t.1) (y := 6) (by omega) (by omega) (t := 73) (by decide) (fun h2 => ?_) (fun h2 => ?_)
            · refine wg_iconst (d58_73 L xs) (x := 0) (by decide) ?_
              refine wg_iadd (d58_74 L xs) ?_
              refine wg_top (y := (nI (n + 0))) (nI_add n 0) ?_
              refine wg_istore_n (d58_75 L xs) (ls' := [some (.ref a), some (.ref r), some (.int (nI (n + 0))), some (.int (nI st)), some (.int (nI i))]) (Nat.le_of_ble_eq_true rfl) rfl ?_
              refine wg_iload (d58_76 L xs) rfl ?_
              refine wg_iconst (d58_78 L xs) (x := 1) (by decide) ?_
              refine wg_iadd (d58_79 L xs) ?_
              refine wg_top (y := (nI (i + 1))) (nI_add i 1) ?_
              refine wg_istore_n (d58_80 L xs) (ls' := [some (.ref a), some (.ref r), some (.int (nI (n + 0))), some (.int (nI (i + 1))), some (.int (nI i))]) (Nat.le_of_ble_eq_true rfl) rfl ?_
              refine wg_iinc (d58_81 L xs) (y := (nI (i + 1))) (ls' := [some (.ref a), some (.ref r), some (.int (nI (n + 0))), some (.int (nI (i + 1))), some (.int (nI (i + 1)))]) rfl (nI_add i 1) rfl ?_
              refine wg_goto (d58_84 L xs) (t := 11) (by decide) ?_
              rw [if_neg (by omega)]; exact wp_mono (ih (i + 1) (i + 1) n (mg_M s r f) (by omega) (Nat.le_refl _) (by omega) (hold_M hl hra)) (fun v s' h => ⟨h.1, h.2.elim (fun f' h' => ⟨f', by rw [← h', mg_M_M]⟩)⟩)
            · refine wg_iconst (d58_69 L xs) (x := 1) (by decide) ?_
              refine wg_goto (d58_70 L xs) (t := 74) (by decide) ?_
              refine wg_iadd (d58_74 L xs) ?_
              refine wg_top (y := (nI (n + 1))) (nI_add n 1) ?_
              refine wg_istore_n (d58_75 L xs) (ls' := [some (.ref a), some (.ref r), some (.int (nI (n + 1))), some (.int (nI st)), some (.int (nI i))]) (Nat.le_of_ble_eq_true rfl) rfl ?_
              refine wg_iload (d58_76 L xs) rfl ?_
              refine wg_iconst (d58_78 L xs) (x := 1) (by decide) ?_
              refine wg_iadd (d58_79 L xs) ?_
              refine wg_top (y := (nI (i + 1))) (nI_add i 1) ?_
              refine wg_istore_n (d58_80 L xs) (ls' := [some (.ref a), some (.ref r), some (.int (nI (n + 1))), some (.int (nI (i + 1))), some (.int (nI i))]) (Nat.le_of_ble_eq_true rfl) rfl ?_
              refine wg_iinc (d58_81 L xs) (y := (nI (i + 1))) (ls' := [some (.ref a), some (.ref r), some (.int (nI (n + 1))), some (.int (nI (i + 1))), some (.int (nI (i + 1)))]) rfl (nI_add i 1) rfl ?_
              refine wg_goto (d58_84 L xs) (t := 11) (by decide) ?_
              rw [if_pos (by omega)]; exact wp_mono (ih (i + 1) (i + 1) (n + 1) (mg_M s r f) (by omega) (Nat.le_refl _) (by omega) (hold_M hl hra)) (fun v s' h => ⟨h.1, h.2.elim (fun f' h' => ⟨f', by rw [← h', mg_M_M]⟩)⟩)
theorem ck_al {s : mg_s} (H : isT a) (hl : hold s a l) (Hr : isM r) (hra : ¬ a = r) (h6 : 6 ≤ l.length) : ca L xs (d + 7) 58 [.ref a, .ref r] s (fun v s' => v = some (.int (nI (bI (t_al l)))) ∧ ∃ f, mg_M s r f = s') := by
  refine wg_call (Nat.le_of_ble_eq_true rfl) ?_
  show wp L xs (d + 6) 58 0 [some (.ref a), some (.ref r), none, none, none] [] s _
  refine wg_iconst (d58_0 L xs) (x := 0) (by decide) ?_
  refine wg_istore_n (d58_1 L xs) (ls' := [some (.ref a), some (.ref r), some (.int 0), none, none]) (Nat.le_of_ble_eq_true rfl) rfl ?_
  refine wg_ldcs (d58_2 L xs) (k0 := 0) rfl ?_
  refine wg_stl (d58_4 L xs) (k0 := 0) (n := 6) rfl rfl rfl (Nat.le_of_ble_eq_true rfl) ?_
  refine wg_top (y := 6) rfl ?_
  refine wg_istore_n (d58_7 L xs) (ls' := [some (.ref a), some (.ref r), some (.int 0), some (.int 6), none]) (Nat.le_of_ble_eq_true rfl) rfl ?_
  refine wg_iload_n (d58_8 L xs) rfl ?_
  refine wg_istore (d58_9 L xs) (ls' := [some (.ref a), some (.ref r), some (.int 0), some (.int 6), some (.int 6)]) (Nat.le_of_ble_eq_true rfl) rfl ?_
  exact ck_al_l H Hr hra (l.length + 1 - 6) 6 6 0 s (by omega) (Nat.le_refl _) (by decide) hl
end AL
