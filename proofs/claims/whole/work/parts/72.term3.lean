/-! a term is read -/
theorem d59_0 (L : Nat) (xs : Nat → Int32) : decode (ax_code (mgT L xs) 59) 0 = .ok (.aload_n 1, 1) := by
  show decode prog_8_method_4_code 0 = _
  decide +kernel
theorem d59_1 (L : Nat) (xs : Nat → Int32) : decode (ax_code (mgT L xs) 59) 1 = .ok (.iload_n 2, 1) := by
  show decode prog_8_method_4_code 1 = _
  decide +kernel
theorem d59_2 (L : Nat) (xs : Nat → Int32) : decode (ax_code (mgT L xs) 59) 2 = .ok (.iload_n 3, 1) := by
  show decode prog_8_method_4_code 2 = _
  decide +kernel
theorem d59_3 (L : Nat) (xs : Nat → Int32) : decode (ax_code (mgT L xs) 59) 3 = .ok (.invokestatic 21, 3) := by
  show decode prog_8_method_4_code 3 = _
  decide +kernel
theorem d59_6 (L : Nat) (xs : Nat → Int32) : decode (ax_code (mgT L xs) 59) 6 = .ok (.istore 4, 2) := by
  show decode prog_8_method_4_code 6 = _
  decide +kernel
theorem d59_8 (L : Nat) (xs : Nat → Int32) : decode (ax_code (mgT L xs) 59) 8 = .ok (.iload 4, 2) := by
  show decode prog_8_method_4_code 8 = _
  decide +kernel
theorem d59_10 (L : Nat) (xs : Nat → Int32) : decode (ax_code (mgT L xs) 59) 10 = .ok (.iconst (-1), 1) := by
  show decode prog_8_method_4_code 10 = _
  decide +kernel
theorem d59_11 (L : Nat) (xs : Nat → Int32) : decode (ax_code (mgT L xs) 59) 11 = .ok (.if_icmp .eq 13, 3) := by
  show decode prog_8_method_4_code 11 = _
  decide +kernel
theorem d59_14 (L : Nat) (xs : Nat → Int32) : decode (ax_code (mgT L xs) 59) 14 = .ok (.aload_n 0, 1) := by
  show decode prog_8_method_4_code 14 = _
  decide +kernel
theorem d59_15 (L : Nat) (xs : Nat → Int32) : decode (ax_code (mgT L xs) 59) 15 = .ok (.aload_n 1, 1) := by
  show decode prog_8_method_4_code 15 = _
  decide +kernel
theorem d59_16 (L : Nat) (xs : Nat → Int32) : decode (ax_code (mgT L xs) 59) 16 = .ok (.iload_n 2, 1) := by
  show decode prog_8_method_4_code 16 = _
  decide +kernel
theorem d59_17 (L : Nat) (xs : Nat → Int32) : decode (ax_code (mgT L xs) 59) 17 = .ok (.iload 4, 2) := by
  show decode prog_8_method_4_code 17 = _
  decide +kernel
theorem d59_19 (L : Nat) (xs : Nat → Int32) : decode (ax_code (mgT L xs) 59) 19 = .ok (.iload_n 3, 1) := by
  show decode prog_8_method_4_code 19 = _
  decide +kernel
theorem d59_20 (L : Nat) (xs : Nat → Int32) : decode (ax_code (mgT L xs) 59) 20 = .ok (.invokevirtual 25, 3) := by
  show decode prog_8_method_4_code 20 = _
  decide +kernel
theorem d59_23 (L : Nat) (xs : Nat → Int32) : decode (ax_code (mgT L xs) 59) 23 = .ok (.ireturn, 1) := by
  show decode prog_8_method_4_code 23 = _
  decide +kernel
theorem d59_24 (L : Nat) (xs : Nat → Int32) : decode (ax_code (mgT L xs) 59) 24 = .ok (.aload_n 0, 1) := by
  show decode prog_8_method_4_code 24 = _
  decide +kernel
theorem d59_25 (L : Nat) (xs : Nat → Int32) : decode (ax_code (mgT L xs) 59) 25 = .ok (.aload_n 1, 1) := by
  show decode prog_8_method_4_code 25 = _
  decide +kernel
theorem d59_26 (L : Nat) (xs : Nat → Int32) : decode (ax_code (mgT L xs) 59) 26 = .ok (.iload_n 2, 1) := by
  show decode prog_8_method_4_code 26 = _
  decide +kernel
theorem d59_27 (L : Nat) (xs : Nat → Int32) : decode (ax_code (mgT L xs) 59) 27 = .ok (.iload_n 3, 1) := by
  show decode prog_8_method_4_code 27 = _
  decide +kernel
theorem d59_28 (L : Nat) (xs : Nat → Int32) : decode (ax_code (mgT L xs) 59) 28 = .ok (.invokevirtual 29, 3) := by
  show decode prog_8_method_4_code 28 = _
  decide +kernel
theorem d59_31 (L : Nat) (xs : Nat → Int32) : decode (ax_code (mgT L xs) 59) 31 = .ok (.ireturn, 1) := by
  show decode prog_8_method_4_code 31 = _
  decide +kernel
theorem d62_0 (L : Nat) (xs : Nat → Int32) : decode (ax_code (mgT L xs) 62) 0 = .ok (.aload_n 0, 1) := by
  show decode prog_8_method_6_code 0 = _
  decide +kernel
theorem d62_1 (L : Nat) (xs : Nat → Int32) : decode (ax_code (mgT L xs) 62) 1 = .ok (.aload_n 1, 1) := by
  show decode prog_8_method_6_code 1 = _
  decide +kernel
theorem d62_2 (L : Nat) (xs : Nat → Int32) : decode (ax_code (mgT L xs) 62) 2 = .ok (.iload_n 2, 1) := by
  show decode prog_8_method_6_code 2 = _
  decide +kernel
theorem d62_3 (L : Nat) (xs : Nat → Int32) : decode (ax_code (mgT L xs) 62) 3 = .ok (.iload_n 3, 1) := by
  show decode prog_8_method_6_code 3 = _
  decide +kernel
theorem d62_4 (L : Nat) (xs : Nat → Int32) : decode (ax_code (mgT L xs) 62) 4 = .ok (.ldc 46, 2) := by
  show decode prog_8_method_6_code 4 = _
  decide +kernel
theorem d62_6 (L : Nat) (xs : Nat → Int32) : decode (ax_code (mgT L xs) 62) 6 = .ok (.invokevirtual 48, 3) := by
  show decode prog_8_method_6_code 6 = _
  decide +kernel
theorem d62_9 (L : Nat) (xs : Nat → Int32) : decode (ax_code (mgT L xs) 62) 9 = .ok (.ifCond .eq 8, 3) := by
  show decode prog_8_method_6_code 9 = _
  decide +kernel
theorem d62_12 (L : Nat) (xs : Nat → Int32) : decode (ax_code (mgT L xs) 62) 12 = .ok (.bipush 6, 2) := by
  show decode prog_8_method_6_code 12 = _
  decide +kernel
theorem d62_14 (L : Nat) (xs : Nat → Int32) : decode (ax_code (mgT L xs) 62) 14 = .ok (.goto 5, 3) := by
  show decode prog_8_method_6_code 14 = _
  decide +kernel
theorem d62_17 (L : Nat) (xs : Nat → Int32) : decode (ax_code (mgT L xs) 62) 17 = .ok (.bipush 7, 2) := by
  show decode prog_8_method_6_code 17 = _
  decide +kernel
theorem d62_19 (L : Nat) (xs : Nat → Int32) : decode (ax_code (mgT L xs) 62) 19 = .ok (.putfield 9, 3) := by
  show decode prog_8_method_6_code 19 = _
  decide +kernel
theorem d62_22 (L : Nat) (xs : Nat → Int32) : decode (ax_code (mgT L xs) 62) 22 = .ok (.aload_n 0, 1) := by
  show decode prog_8_method_6_code 22 = _
  decide +kernel
theorem d62_23 (L : Nat) (xs : Nat → Int32) : decode (ax_code (mgT L xs) 62) 23 = .ok (.iload_n 3, 1) := by
  show decode prog_8_method_6_code 23 = _
  decide +kernel
theorem d62_24 (L : Nat) (xs : Nat → Int32) : decode (ax_code (mgT L xs) 62) 24 = .ok (.iconst 1, 1) := by
  show decode prog_8_method_6_code 24 = _
  decide +kernel
theorem d62_25 (L : Nat) (xs : Nat → Int32) : decode (ax_code (mgT L xs) 62) 25 = .ok (.iadd, 1) := by
  show decode prog_8_method_6_code 25 = _
  decide +kernel
theorem d62_26 (L : Nat) (xs : Nat → Int32) : decode (ax_code (mgT L xs) 62) 26 = .ok (.putfield 15, 3) := by
  show decode prog_8_method_6_code 26 = _
  decide +kernel
theorem d62_29 (L : Nat) (xs : Nat → Int32) : decode (ax_code (mgT L xs) 62) 29 = .ok (.aload_n 0, 1) := by
  show decode prog_8_method_6_code 29 = _
  decide +kernel
theorem d62_30 (L : Nat) (xs : Nat → Int32) : decode (ax_code (mgT L xs) 62) 30 = .ok (.iload 4, 2) := by
  show decode prog_8_method_6_code 30 = _
  decide +kernel
theorem d62_32 (L : Nat) (xs : Nat → Int32) : decode (ax_code (mgT L xs) 62) 32 = .ok (.putfield 18, 3) := by
  show decode prog_8_method_6_code 32 = _
  decide +kernel
theorem d62_35 (L : Nat) (xs : Nat → Int32) : decode (ax_code (mgT L xs) 62) 35 = .ok (.aload_n 0, 1) := by
  show decode prog_8_method_6_code 35 = _
  decide +kernel
theorem d62_36 (L : Nat) (xs : Nat → Int32) : decode (ax_code (mgT L xs) 62) 36 = .ok (.invokevirtual 52, 3) := by
  show decode prog_8_method_6_code 36 = _
  decide +kernel
theorem d62_39 (L : Nat) (xs : Nat → Int32) : decode (ax_code (mgT L xs) 62) 39 = .ok (.ifCond .ne 18, 3) := by
  show decode prog_8_method_6_code 39 = _
  decide +kernel
theorem d62_42 (L : Nat) (xs : Nat → Int32) : decode (ax_code (mgT L xs) 62) 42 = .ok (.aload_n 0, 1) := by
  show decode prog_8_method_6_code 42 = _
  decide +kernel
theorem d62_43 (L : Nat) (xs : Nat → Int32) : decode (ax_code (mgT L xs) 62) 43 = .ok (.getfield 9, 3) := by
  show decode prog_8_method_6_code 43 = _
  decide +kernel
theorem d62_46 (L : Nat) (xs : Nat → Int32) : decode (ax_code (mgT L xs) 62) 46 = .ok (.bipush 6, 2) := by
  show decode prog_8_method_6_code 46 = _
  decide +kernel
theorem d62_48 (L : Nat) (xs : Nat → Int32) : decode (ax_code (mgT L xs) 62) 48 = .ok (.if_icmp .eq 7, 3) := by
  show decode prog_8_method_6_code 48 = _
  decide +kernel
theorem d62_51 (L : Nat) (xs : Nat → Int32) : decode (ax_code (mgT L xs) 62) 51 = .ok (.iconst 1, 1) := by
  show decode prog_8_method_6_code 51 = _
  decide +kernel
theorem d62_52 (L : Nat) (xs : Nat → Int32) : decode (ax_code (mgT L xs) 62) 52 = .ok (.goto 4, 3) := by
  show decode prog_8_method_6_code 52 = _
  decide +kernel
theorem d62_55 (L : Nat) (xs : Nat → Int32) : decode (ax_code (mgT L xs) 62) 55 = .ok (.iconst 0, 1) := by
  show decode prog_8_method_6_code 55 = _
  decide +kernel
theorem d62_56 (L : Nat) (xs : Nat → Int32) : decode (ax_code (mgT L xs) 62) 56 = .ok (.ireturn, 1) := by
  show decode prog_8_method_6_code 56 = _
  decide +kernel
theorem d62_57 (L : Nat) (xs : Nat → Int32) : decode (ax_code (mgT L xs) 62) 57 = .ok (.aload_n 1, 1) := by
  show decode prog_8_method_6_code 57 = _
  decide +kernel
theorem d62_58 (L : Nat) (xs : Nat → Int32) : decode (ax_code (mgT L xs) 62) 58 = .ok (.aload_n 0, 1) := by
  show decode prog_8_method_6_code 58 = _
  decide +kernel
theorem d62_59 (L : Nat) (xs : Nat → Int32) : decode (ax_code (mgT L xs) 62) 59 = .ok (.getfield 15, 3) := by
  show decode prog_8_method_6_code 59 = _
  decide +kernel
theorem d62_62 (L : Nat) (xs : Nat → Int32) : decode (ax_code (mgT L xs) 62) 62 = .ok (.aload_n 0, 1) := by
  show decode prog_8_method_6_code 62 = _
  decide +kernel
theorem d62_63 (L : Nat) (xs : Nat → Int32) : decode (ax_code (mgT L xs) 62) 63 = .ok (.getfield 18, 3) := by
  show decode prog_8_method_6_code 63 = _
  decide +kernel
theorem d62_66 (L : Nat) (xs : Nat → Int32) : decode (ax_code (mgT L xs) 62) 66 = .ok (.invokestatic 56, 3) := by
  show decode prog_8_method_6_code 66 = _
  decide +kernel
theorem d62_69 (L : Nat) (xs : Nat → Int32) : decode (ax_code (mgT L xs) 62) 69 = .ok (.ireturn, 1) := by
  show decode prog_8_method_6_code 69 = _
  decide +kernel
theorem d63_0 (L : Nat) (xs : Nat → Int32) : decode (ax_code (mgT L xs) 63) 0 = .ok (.aload_n 0, 1) := by
  show decode prog_8_method_3_code 0 = _
  decide +kernel
theorem d63_1 (L : Nat) (xs : Nat → Int32) : decode (ax_code (mgT L xs) 63) 1 = .ok (.getfield 15, 3) := by
  show decode prog_8_method_3_code 1 = _
  decide +kernel
theorem d63_4 (L : Nat) (xs : Nat → Int32) : decode (ax_code (mgT L xs) 63) 4 = .ok (.aload_n 0, 1) := by
  show decode prog_8_method_3_code 4 = _
  decide +kernel
theorem d63_5 (L : Nat) (xs : Nat → Int32) : decode (ax_code (mgT L xs) 63) 5 = .ok (.getfield 18, 3) := by
  show decode prog_8_method_3_code 5 = _
  decide +kernel
theorem d63_8 (L : Nat) (xs : Nat → Int32) : decode (ax_code (mgT L xs) 63) 8 = .ok (.if_icmp .ge 7, 3) := by
  show decode prog_8_method_3_code 8 = _
  decide +kernel
theorem d63_11 (L : Nat) (xs : Nat → Int32) : decode (ax_code (mgT L xs) 63) 11 = .ok (.iconst 1, 1) := by
  show decode prog_8_method_3_code 11 = _
  decide +kernel
theorem d63_12 (L : Nat) (xs : Nat → Int32) : decode (ax_code (mgT L xs) 63) 12 = .ok (.goto 4, 3) := by
  show decode prog_8_method_3_code 12 = _
  decide +kernel
theorem d63_15 (L : Nat) (xs : Nat → Int32) : decode (ax_code (mgT L xs) 63) 15 = .ok (.iconst 0, 1) := by
  show decode prog_8_method_3_code 15 = _
  decide +kernel
theorem d63_16 (L : Nat) (xs : Nat → Int32) : decode (ax_code (mgT L xs) 63) 16 = .ok (.ireturn, 1) := by
  show decode prog_8_method_3_code 16 = _
  decide +kernel
theorem d66_0 (L : Nat) (xs : Nat → Int32) : decode (ax_code (mgT L xs) 66) 0 = .ok (.aload_n 0, 1) := by
  show decode prog_8_method_7_code 0 = _
  decide +kernel
theorem d66_1 (L : Nat) (xs : Nat → Int32) : decode (ax_code (mgT L xs) 66) 1 = .ok (.aload_n 1, 1) := by
  show decode prog_8_method_7_code 1 = _
  decide +kernel
theorem d66_2 (L : Nat) (xs : Nat → Int32) : decode (ax_code (mgT L xs) 66) 2 = .ok (.iload_n 2, 1) := by
  show decode prog_8_method_7_code 2 = _
  decide +kernel
theorem d66_3 (L : Nat) (xs : Nat → Int32) : decode (ax_code (mgT L xs) 66) 3 = .ok (.invokevirtual 33, 3) := by
  show decode prog_8_method_7_code 3 = _
  decide +kernel
theorem d66_6 (L : Nat) (xs : Nat → Int32) : decode (ax_code (mgT L xs) 66) 6 = .ok (.invokevirtual 59, 3) := by
  show decode prog_8_method_7_code 6 = _
  decide +kernel
theorem d66_9 (L : Nat) (xs : Nat → Int32) : decode (ax_code (mgT L xs) 66) 9 = .ok (.ifCond .eq 9, 3) := by
  show decode prog_8_method_7_code 9 = _
  decide +kernel
theorem d66_12 (L : Nat) (xs : Nat → Int32) : decode (ax_code (mgT L xs) 66) 12 = .ok (.iload_n 2, 1) := by
  show decode prog_8_method_7_code 12 = _
  decide +kernel
theorem d66_13 (L : Nat) (xs : Nat → Int32) : decode (ax_code (mgT L xs) 66) 13 = .ok (.iconst 1, 1) := by
  show decode prog_8_method_7_code 13 = _
  decide +kernel
theorem d66_14 (L : Nat) (xs : Nat → Int32) : decode (ax_code (mgT L xs) 66) 14 = .ok (.iadd, 1) := by
  show decode prog_8_method_7_code 14 = _
  decide +kernel
theorem d66_15 (L : Nat) (xs : Nat → Int32) : decode (ax_code (mgT L xs) 66) 15 = .ok (.goto 4, 3) := by
  show decode prog_8_method_7_code 15 = _
  decide +kernel
theorem d66_18 (L : Nat) (xs : Nat → Int32) : decode (ax_code (mgT L xs) 66) 18 = .ok (.iload_n 2, 1) := by
  show decode prog_8_method_7_code 18 = _
  decide +kernel
theorem d66_19 (L : Nat) (xs : Nat → Int32) : decode (ax_code (mgT L xs) 66) 19 = .ok (.istore 4, 2) := by
  show decode prog_8_method_7_code 19 = _
  decide +kernel
theorem d71_0 (L : Nat) (xs : Nat → Int32) : decode (ax_code (mgT L xs) 71) 0 = .ok (.aload_n 0, 1) := by
  show decode prog_8_method_2_code 0 = _
  decide +kernel
theorem d71_1 (L : Nat) (xs : Nat → Int32) : decode (ax_code (mgT L xs) 71) 1 = .ok (.getfield 9, 3) := by
  show decode prog_8_method_2_code 1 = _
  decide +kernel
theorem d71_4 (L : Nat) (xs : Nat → Int32) : decode (ax_code (mgT L xs) 71) 4 = .ok (.bipush 6, 2) := by
  show decode prog_8_method_2_code 4 = _
  decide +kernel
theorem d71_6 (L : Nat) (xs : Nat → Int32) : decode (ax_code (mgT L xs) 71) 6 = .ok (.if_icmp .eq 16, 3) := by
  show decode prog_8_method_2_code 6 = _
  decide +kernel
theorem d71_9 (L : Nat) (xs : Nat → Int32) : decode (ax_code (mgT L xs) 71) 9 = .ok (.aload_n 0, 1) := by
  show decode prog_8_method_2_code 9 = _
  decide +kernel
theorem d71_10 (L : Nat) (xs : Nat → Int32) : decode (ax_code (mgT L xs) 71) 10 = .ok (.getfield 9, 3) := by
  show decode prog_8_method_2_code 10 = _
  decide +kernel
theorem d71_13 (L : Nat) (xs : Nat → Int32) : decode (ax_code (mgT L xs) 71) 13 = .ok (.bipush 7, 2) := by
  show decode prog_8_method_2_code 13 = _
  decide +kernel
theorem d71_15 (L : Nat) (xs : Nat → Int32) : decode (ax_code (mgT L xs) 71) 15 = .ok (.if_icmp .eq 7, 3) := by
  show decode prog_8_method_2_code 15 = _
  decide +kernel
theorem d71_18 (L : Nat) (xs : Nat → Int32) : decode (ax_code (mgT L xs) 71) 18 = .ok (.iconst 1, 1) := by
  show decode prog_8_method_2_code 18 = _
  decide +kernel
theorem d71_19 (L : Nat) (xs : Nat → Int32) : decode (ax_code (mgT L xs) 71) 19 = .ok (.goto 4, 3) := by
  show decode prog_8_method_2_code 19 = _
  decide +kernel
theorem d71_22 (L : Nat) (xs : Nat → Int32) : decode (ax_code (mgT L xs) 71) 22 = .ok (.iconst 0, 1) := by
  show decode prog_8_method_2_code 22 = _
  decide +kernel
theorem d71_23 (L : Nat) (xs : Nat → Int32) : decode (ax_code (mgT L xs) 71) 23 = .ok (.ireturn, 1) := by
  show decode prog_8_method_2_code 23 = _
  decide +kernel
def t_mech (g : Nat → Nat) (fr to : Nat) : Option tmT := t_rest g (if c_sg (g fr) = true then fr + 1 else fr) to (c_res (g fr))
def t_modi (g : Nat → Nat) (fr e to : Nat) : Option tmT := if e + 1 < to then (if t_tgt g (e + 1) to = true then some (if t_word g fr e w_red = true then 6 else 7, 0, e + 1, to, 0, 0) else none) else (if t_word g fr e w_red = true then none else some (7, 0, e + 1, to, 0, 0))
/-- the term that stands there -/
def t_term (g : Nat → Nat) (fr to : Nat) : Option tmT := match t_mod g fr to with
  | some e => t_modi g fr e to
  | none => t_mech g fr to
theorem f_mod_lt {g : Nat → Nat} : ∀ (m i e : Nat), f_mod g i m = some e → i ≤ e ∧ e < i + m := by
  intro m
  induction m with
  | zero => intro i e h; cases h
  | succ m ih =>
    intro i e h
    rw [f_mod] at h
    split at h
    · cases h; omega
    · split at h
      · have := ih _ _ h; omega
      · cases h
theorem t_mod_lt {g : Nat → Nat} {fr to e : Nat} (h : t_mod g fr to = some e) : fr < e ∧ e < to := by
  unfold t_mod at h
  split at h
  · have := f_mod_lt _ _ _ h; omega
  · cases h
section TM3
variable {L : Nat} {xs : Nat → Int32} {d a r : Nat} {s : mg_s} {l : List Nat}
theorem tm_rest {fr to st res : Nat} (H : isT a) (hl : hold s a l) (Hr : isM r) (hra : ¬ a = r) (hto : to < 2 ^ 29) (hst : st ≤ to) (hr1 : s.1 r 1 = nI res) : wp L xs (d + 4) 66 21 [some (.ref r), some (.ref a), some (.int (nI fr)), some (.int (nI to)), some (.int (nI st)), none, none, none, none] [] s (tm_post s r (t_rest (gl l) st to res)) := by
  cases hb : t_bits (gl l) st to with
  | none => exact tm_rest_n H hl Hr hra hto hst hr1 hb
  | some b =>
    cases hk : t_kind (gl l) st (t_co (gl l) st to) with
    | none => exact tm_rest_k H hl Hr hra hto hst hr1 hk hb
    | some k =>
      have h5 := t_kind_le hk
      match k, h5, hk with
      | 0, _, hk => exact tm_rest_0 H hl Hr hra hto hst hr1 hk hb
      | 1, _, hk => exact tm_rest_1 H hl Hr hra hto hst hr1 hk hb
      | 2, _, hk => exact tm_rest_2 H hl Hr hra hto hst hr1 hk hb
      | 3, _, hk => exact tm_rest_3 H hl Hr hra hto hst hr1 hk hb
      | 4, _, hk => exact tm_rest_4 H hl Hr hra hto hst hr1 hk hb
      | 5, _, hk => exact tm_rest_5 H hl Hr hra hto hst hr1 hk hb
theorem tm_post_I {s : mg_s} {r k : Nat} {x : Int32} {X : Option tmT} {v : Option Value} {s' : mg_s} (h : tm_post (mg_I s r k x) r X v s') : tm_post s r X v s' := by
  obtain ⟨h1, ⟨f, h2⟩, h3⟩ := h
  exact ⟨h1, ⟨f, by rw [← h2, mg_I_M, mg_M_M]⟩, h3⟩
theorem tm_mech {fr to : Nat} (H : isT a) (hl : hold s a l) (Hr : isM r) (hra : ¬ a = r) (hto : to < 2 ^ 29) (hf : fr < to) : ca L xs (d + 5) 66 [.ref r, .ref a, .int (nI fr), .int (nI to)] s (tm_post s r (t_mech (gl l) fr to)) := by
  refine wg_call (Nat.le_of_ble_eq_true rfl) ?_
  have hg := gl_lt hl.2.1 fr
  have hb := bI_lt (c_sg (gl l fr))
  show wp L xs (d + 4) 66 0 [some (.ref r), some (.ref a), some (.int (nI fr)), some (.int (nI to)), none, none, none, none, none] [] s _
  refine wg_aload_n (d66_0 L xs) rfl ?_
  refine wg_aload_n (d66_1 L xs) rfl ?_
  refine wg_iload_n (d66_2 L xs) rfl ?_
  refine wg_invv (d66_3 L xs) (kd := 7) (mj := 31) (n := 1) rfl (Or.inl rfl) (ys := [.int (nI fr)]) (r := [.ref r]) rfl rfl H.1 (tx_c H) rfl (Nat.le_of_ble_eq_true rfl) (ts_at H hl (by omega)) ?_
  rintro _ _ ⟨rfl, rfl⟩
  refine wg_invv (d66_6 L xs) (kd := 7) (mj := 67) (n := 1) rfl (Or.inl rfl) (ys := [.int (nI (gl l fr))]) (r := []) rfl rfl Hr.1 (tm_c Hr) rfl (Nat.le_of_ble_eq_true rfl) (tm_sg Hr (by omega)) ?_
  rintro _ _ ⟨rfl, rfl⟩
  refine wn_if_eq (d66_9 L xs) (x := bI (c_sg (gl l fr))) (by omega) (t := 18) (by decide) (fun h1 => ?_) (fun h1 => ?_)
  · refine wg_iload_n (d66_18 L xs) rfl ?_
    refine wg_istore (d66_19 L xs) (ls' := [some (.ref r), some (.ref a), some (.int (nI fr)), some (.int (nI to)), some (.int (nI fr)), none, none, none, none]) (Nat.le_of_ble_eq_true rfl) rfl ?_
    rw [t_mech, if_neg (by rw [bI_f (b := c_sg (gl l fr)) (by omega)]; decide)]; exact wp_mono (tm_rest H (hold_I hl hra) Hr hra hto (by omega) (by rw [mg_I_own]; rfl)) (fun v s' h => tm_post_I h)
  · refine wg_iload_n (d66_12 L xs) rfl ?_
    refine wg_iconst (d66_13 L xs) (x := 1) (by decide) ?_
    refine wg_iadd (d66_14 L xs) ?_
    refine wg_top (y := (nI (fr + 1))) (nI_add fr 1) ?_
    refine wg_goto (d66_15 L xs) (t := 19) (by decide) ?_
    refine wg_istore (d66_19 L xs) (ls' := [some (.ref r), some (.ref a), some (.int (nI fr)), some (.int (nI to)), some (.int (nI (fr + 1))), none, none, none, none]) (Nat.le_of_ble_eq_true rfl) rfl ?_
    rw [t_mech, if_pos (bI_t (b := c_sg (gl l fr)) (by omega))]; exact wp_mono (tm_rest H (hold_I hl hra) Hr hra hto (by omega) (by rw [mg_I_own]; rfl)) (fun v s' h => tm_post_I h)
theorem tm_has {x y : Nat} (Hr : isM r) (h2 : s.1 r 2 = nI x) (h3 : s.1 r 3 = nI y) (hx : x < 2 ^ 31) (hy : y < 2 ^ 31) : ca L xs (d + 1) 63 [.ref r] s (fun v s' => v = some (.int (nI (bI (decide (x < y))))) ∧ s = s') := by
  refine wg_call (Nat.le_of_ble_eq_true rfl) ?_
  show wp L xs d 63 0 [some (.ref r)] [] s _
  refine wg_aload_n (d63_0 L xs) rfl ?_
  refine wg_get (d63_1 L xs) (kd := 1) (cj := 4) (k0 := 2) rfl (Or.inl rfl) Hr.1 (tm_c Hr) rfl ?_
  refine wg_top (y := (nI x)) h2 ?_
  refine wg_aload_n (d63_4 L xs) rfl ?_
  refine wg_get (d63_5 L xs) (kd := 1) (cj := 4) (k0 := 3) rfl (Or.inl rfl) Hr.1 (tm_c Hr) rfl ?_
  refine wg_top (y := (nI y)) h3 ?_
  refine wn_icmp_ge (d63_8 L xs) (x := x) (y := y) (by omega) (by omega) (t := 15) (by decide) (fun hc1 => ?_) (fun hc1 => ?_)
  · refine wg_iconst (d63_15 L xs) (x := 0) (by decide) ?_
    exact wg_iret (d63_16 L xs) rfl rfl ⟨by rw [decide_eq_false (show ¬ x < y by omega)]; rfl, rfl⟩
  · refine wg_iconst (d63_11 L xs) (x := 1) (by decide) ?_
    refine wg_goto (d63_12 L xs) (t := 16) (by decide) ?_
    exact wg_iret (d63_16 L xs) rfl rfl ⟨by rw [decide_eq_true (show x < y by omega)]; rfl, rfl⟩
theorem tm_ismech {k : Nat} (Hr : isM r) (h0 : s.1 r 0 = nI k) (hk : k ≤ 7) : ca L xs (d + 1) 71 [.ref r] s (fun v s' => v = some (.int (nI (bI (decide (k < 6))))) ∧ s = s') := by
  refine wg_call (Nat.le_of_ble_eq_true rfl) ?_
  show wp L xs d 71 0 [some (.ref r)] [] s _
  refine wg_aload_n (d71_0 L xs) rfl ?_
  refine wg_get (d71_1 L xs) (kd := 1) (cj := 4) (k0 := 0) rfl (Or.inl rfl) Hr.1 (tm_c Hr) rfl ?_
  refine wg_top (y := (nI k)) h0 ?_
  refine wg_bipush (d71_4 L xs) (x := 6) (by decide) ?_
  refine wn_icmp_eq (d71_6 L xs) (x := k) (y := 6) (by omega) (by omega) (t := 22) (by decide) (fun h1 => ?_) (fun h1 => ?_)
  · refine wg_iconst (d71_22 L xs) (x := 0) (by decide) ?_
    exact wg_iret (d71_23 L xs) rfl rfl ⟨by rw [decide_eq_false (show ¬ k < 6 by omega)]; rfl, rfl⟩
  · refine wg_aload_n (d71_9 L xs) rfl ?_
    refine wg_get (d71_10 L xs) (kd := 1) (cj := 4) (k0 := 0) rfl (Or.inl rfl) Hr.1 (tm_c Hr) rfl ?_
    refine wg_top (y := (nI k)) h0 ?_
    refine wg_bipush (d71_13 L xs) (x := 7) (by decide) ?_
    refine wn_icmp_eq (d71_15 L xs) (x := k) (y := 7) (by omega) (by omega) (t := 22) (by decide) (fun h2 => ?_) (fun h2 => ?_)
    · refine wg_iconst (d71_22 L xs) (x := 0) (by decide) ?_
      exact wg_iret (d71_23 L xs) rfl rfl ⟨by rw [decide_eq_false (show ¬ k < 6 by omega)]; rfl, rfl⟩
    · refine wg_iconst (d71_18 L xs) (x := 1) (by decide) ?_
      refine wg_goto (d71_19 L xs) (t := 23) (by decide) ?_
      exact wg_iret (d71_23 L xs) rfl rfl ⟨by rw [decide_eq_true (show k < 6 by omega)]; rfl, rfl⟩
theorem tm_modi {fr e to : Nat} (H : isT a) (hl : hold s a l) (Hr : isM r) (hra : ¬ a = r) (hto : to < 2 ^ 29) (hfe : fr ≤ e) (het : e < to) : ca L xs (d + 4) 62 [.ref r, .ref a, .int (nI fr), .int (nI e), .int (nI to)] s (tm_post s r (t_modi (gl l) fr e to)) := by
  refine wg_call (Nat.le_of_ble_eq_true rfl) ?_
  have hb1 := bI_lt (t_word (gl l) fr e w_red)
  have hb2 := bI_lt (decide (e + 1 < to))
  show wp L xs (d + 3) 62 0 [some (.ref r), some (.ref a), some (.int (nI fr)), some (.int (nI e)), some (.int (nI to))] [] s _
  refine wg_aload_n (d62_0 L xs) rfl ?_
  refine wg_aload_n (d62_1 L xs) rfl ?_
  refine wg_iload_n (d62_2 L xs) rfl ?_
  refine wg_iload_n (d62_3 L xs) rfl ?_
  refine wg_ldcs (d62_4 L xs) (k0 := 1) rfl ?_
  refine wg_invv (d62_6 L xs) (kd := 7) (mj := 57) (n := 3) rfl (Or.inl rfl) (ys := [.ref (ax_big + 1 + 1), .int (nI e), .int (nI fr)]) (r := [.ref r]) rfl rfl H.1 (tx_c H) rfl (Nat.le_of_ble_eq_true rfl) (ts_word (k0 := 1) (w := w_red) H hl rfl rfl (by omega) (by omega)) ?_
  rintro _ _ ⟨rfl, rfl⟩
  refine wn_if_eq (d62_9 L xs) (x := bI (t_word (gl l) fr e w_red)) (by omega) (t := 17) (by decide) (fun h1 => ?_) (fun h1 => ?_)
  · refine wg_bipush (d62_17 L xs) (x := 7) (by decide) ?_
    refine wg_puti (d62_19 L xs) (cj := 4) (k0 := 0) rfl Hr.1 (tm_c Hr) (Nat.le_of_ble_eq_true rfl) rfl rfl (tm_cI0 Hr) ?_
    rw [mg_I_M]
    refine wg_aload_n (d62_22 L xs) rfl ?_
    refine wg_iload_n (d62_23 L xs) rfl ?_
    refine wg_iconst (d62_24 L xs) (x := 1) (by decide) ?_
    refine wg_iadd (d62_25 L xs) ?_
    refine wg_top (y := (nI (e + 1))) (nI_add e 1) ?_
    refine wg_puti (d62_26 L xs) (cj := 4) (k0 := 2) rfl Hr.1 (tm_c Hr) (Nat.le_of_ble_eq_true rfl) rfl rfl (tm_cI2 Hr) ?_
    rw [mg_M_I]
    refine wg_aload_n (d62_29 L xs) rfl ?_
    refine wg_iload (d62_30 L xs) rfl ?_
    refine wg_puti (d62_32 L xs) (cj := 4) (k0 := 3) rfl Hr.1 (tm_c Hr) (Nat.le_of_ble_eq_true rfl) rfl rfl (tm_cI3 Hr) ?_
    rw [mg_M_I]
    refine wg_aload_n (d62_35 L xs) rfl ?_
    refine wg_invv (d62_36 L xs) (kd := 7) (mj := 63) (n := 0) rfl (Or.inl rfl) (ys := []) (r := []) rfl rfl Hr.1 (tm_c Hr) rfl (Nat.le_of_ble_eq_true rfl) (tm_has (x := e + 1) (y := to) Hr (by rw [mg_M_own]; rfl) (by rw [mg_M_own]; rfl) (by omega) (by omega)) ?_
    rintro _ _ ⟨rfl, rfl⟩
    refine wn_if_ne (d62_39 L xs) (x := bI (decide (e + 1 < to))) (by omega) (t := 57) (by decide) (fun h2 => ?_) (fun h2 => ?_)
    · refine wg_aload_n (d62_57 L xs) rfl ?_
      refine wg_aload_n (d62_58 L xs) rfl ?_
      refine wg_get (d62_59 L xs) (kd := 1) (cj := 4) (k0 := 2) rfl (Or.inl rfl) Hr.1 (tm_c Hr) rfl ?_
      refine wg_top (y := (nI (e + 1))) (by rw [mg_M_own]; rfl) ?_
      refine wg_aload_n (d62_62 L xs) rfl ?_
      refine wg_get (d62_63 L xs) (kd := 1) (cj := 4) (k0 := 3) rfl (Or.inl rfl) Hr.1 (tm_c Hr) rfl ?_
      refine wg_top (y := (nI to)) (by rw [mg_M_own]; rfl) ?_
      refine wg_invs (d62_66 L xs) (kd := 6) (mj := 64) (n := 3) rfl (Or.inl rfl) (ys := [.int (nI to), .int (nI (e + 1)), .ref a]) (r := []) rfl rfl (Nat.le_of_ble_eq_true rfl) (tm_tgt H (hold_M hl hra) (by omega) (by omega)) ?_
      rintro _ _ ⟨rfl, rfl⟩
      cases hq : t_tgt (gl l) (e + 1) to with
      | false => exact wg_iret (d62_69 L xs) rfl rfl (tm_post_n (by rw [t_modi, if_pos (show e + 1 < to from of_decide_eq_true (bI_t (by omega))), hq, if_neg (by decide)]))
      | true => exact wg_iret (d62_69 L xs) rfl rfl (tm_post_s (T := (7, 0, e + 1, to, 0, 0)) (by rw [t_modi, if_pos (show e + 1 < to from of_decide_eq_true (bI_t (by omega))), hq, if_pos rfl, if_neg (show ¬ t_word (gl l) fr e w_red = true by rw [bI_f (b := t_word (gl l) fr e w_red) (by omega)]; decide)]) rfl (fun q => absurd (show (7 : Nat) < 6 from q) (by decide)) rfl rfl (fun q => absurd (show (7 : Nat) < 6 from q) (by decide)) (fun q => absurd (show (7 : Nat) = 4 from q) (by decide)))
    · refine wg_aload_n (d62_42 L xs) rfl ?_
      refine wg_get (d62_43 L xs) (kd := 1) (cj := 4) (k0 := 0) rfl (Or.inl rfl) Hr.1 (tm_c Hr) rfl ?_
      refine wg_top (y := 7) (by rw [mg_M_own]; rfl) ?_
      refine wg_bipush (d62_46 L xs) (x := 6) (by decide) ?_
      refine wg_icmp_eq (d62_48 L xs) (t := 55) (by decide) (fun hp => absurd hp (by decide)) (fun _ => ?_)
      refine wg_iconst (d62_51 L xs) (x := 1) (by decide) ?_
      refine wg_goto (d62_52 L xs) (t := 56) (by decide) ?_
      exact wg_iret (d62_56 L xs) rfl rfl (tm_post_s (T := (7, 0, e + 1, to, 0, 0)) (by rw [t_modi, if_neg (show ¬ e + 1 < to from of_decide_eq_false (bI_f (by omega))), if_neg (show ¬ t_word (gl l) fr e w_red = true by rw [bI_f (b := t_word (gl l) fr e w_red) (by omega)]; decide)]) rfl (fun q => absurd (show (7 : Nat) < 6 from q) (by decide)) rfl rfl (fun q => absurd (show (7 : Nat) < 6 from q) (by decide)) (fun q => absurd (show (7 : Nat) = 4 from q) (by decide)))
  · refine wg_bipush (d62_12 L xs) (x := 6) (by decide) ?_
    refine wg_goto (d62_14 L xs) (t := 19) (by decide) ?_
    refine wg_puti (d62_19 L xs) (cj := 4) (k0 := 0) rfl Hr.1 (tm_c Hr) (Nat.le_of_ble_eq_true rfl) rfl rfl (tm_cI0 Hr) ?_
    rw [mg_I_M]
    refine wg_aload_n (d62_22 L xs) rfl ?_
    refine wg_iload_n (d62_23 L xs) rfl ?_
    refine wg_iconst (d62_24 L xs) (x := 1) (by decide) ?_
    refine wg_iadd (d62_25 L xs) ?_
    refine wg_top (y := (nI (e + 1))) (nI_add e 1) ?_
    refine wg_puti (d62_26 L xs) (cj := 4) (k0 := 2) rfl Hr.1 (tm_c Hr) (Nat.le_of_ble_eq_true rfl) rfl rfl (tm_cI2 Hr) ?_
    rw [mg_M_I]
    refine wg_aload_n (d62_29 L xs) rfl ?_
    refine wg_iload (d62_30 L xs) rfl ?_
    refine wg_puti (d62_32 L xs) (cj := 4) (k0 := 3) rfl Hr.1 (tm_c Hr) (Nat.le_of_ble_eq_true rfl) rfl rfl (tm_cI3 Hr) ?_
    rw [mg_M_I]
    refine wg_aload_n (d62_35 L xs) rfl ?_
    refine wg_invv (d62_36 L xs) (kd := 7) (mj := 63) (n := 0) rfl (Or.inl rfl) (ys := []) (r := []) rfl rfl Hr.1 (tm_c Hr) rfl (Nat.le_of_ble_eq_true rfl) (tm_has (x := e + 1) (y := to) Hr (by rw [mg_M_own]; rfl) (by rw [mg_M_own]; rfl) (by omega) (by omega)) ?_
    rintro _ _ ⟨rfl, rfl⟩
    refine wn_if_ne (d62_39 L xs) (x := bI (decide (e + 1 < to))) (by omega) (t := 57) (by decide) (fun h4 => ?_) (fun h4 => ?_)
    · refine wg_aload_n (d62_57 L xs) rfl ?_
      refine wg_aload_n (d62_58 L xs) rfl ?_
      refine wg_get (d62_59 L xs) (kd := 1) (cj := 4) (k0 := 2) rfl (Or.inl rfl) Hr.1 (tm_c Hr) rfl ?_
      refine wg_top (y := (nI (e + 1))) (by rw [mg_M_own]; rfl) ?_
      refine wg_aload_n (d62_62 L xs) rfl ?_
      refine wg_get (d62_63 L xs) (kd := 1) (cj := 4) (k0 := 3) rfl (Or.inl rfl) Hr.1 (tm_c Hr) rfl ?_
      refine wg_top (y := (nI to)) (by rw [mg_M_own]; rfl) ?_
      refine wg_invs (d62_66 L xs) (kd := 6) (mj := 64) (n := 3) rfl (Or.inl rfl) (ys := [.int (nI to), .int (nI (e + 1)), .ref a]) (r := []) rfl rfl (Nat.le_of_ble_eq_true rfl) (tm_tgt H (hold_M hl hra) (by omega) (by omega)) ?_
      rintro _ _ ⟨rfl, rfl⟩
      cases hq : t_tgt (gl l) (e + 1) to with
      | false => exact wg_iret (d62_69 L xs) rfl rfl (tm_post_n (by rw [t_modi, if_pos (show e + 1 < to from of_decide_eq_true (bI_t (by omega))), hq, if_neg (by decide)]))
      | true => exact wg_iret (d62_69 L xs) rfl rfl (tm_post_s (T := (6, 0, e + 1, to, 0, 0)) (by rw [t_modi, if_pos (show e + 1 < to from of_decide_eq_true (bI_t (by omega))), hq, if_pos rfl, if_pos (bI_t (b := t_word (gl l) fr e w_red) (by omega))]) rfl (fun q => absurd (show (6 : Nat) < 6 from q) (by decide)) rfl rfl (fun q => absurd (show (6 : Nat) < 6 from q) (by decide)) (fun q => absurd (show (6 : Nat) = 4 from q) (by decide)))
    · refine wg_aload_n (d62_42 L xs) rfl ?_
      refine wg_get (d62_43 L xs) (kd := 1) (cj := 4) (k0 := 0) rfl (Or.inl rfl) Hr.1 (tm_c Hr) rfl ?_
      refine wg_top (y := 6) (by rw [mg_M_own]; rfl) ?_
      refine wg_bipush (d62_46 L xs) (x := 6) (by decide) ?_
      refine wg_icmp_eq (d62_48 L xs) (t := 55) (by decide) (fun _ => ?_) (fun hn => absurd (by decide) hn)
      refine wg_iconst (d62_55 L xs) (x := 0) (by decide) ?_
      exact wg_iret (d62_56 L xs) rfl rfl (tm_post_n (by rw [t_modi, if_neg (show ¬ e + 1 < to from of_decide_eq_false (bI_f (by omega))), if_pos (bI_t (b := t_word (gl l) fr e w_red) (by omega))]))
theorem tm_readm {fr to : Nat} {e : Nat} (hq : t_mod (gl l) fr to = some e) (H : isT a) (hl : hold s a l) (Hr : isM r) (hra : ¬ a = r) (hto : to < 2 ^ 29) (hf : fr < to) : ca L xs (d + 6) 59 [.ref r, .ref a, .int (nI fr), .int (nI to)] s (tm_post s r (t_term (gl l) fr to)) := by
  refine wg_call (Nat.le_of_ble_eq_true rfl) ?_
  have hqe := t_mod_lt hq
  show wp L xs (d + 5) 59 0 [some (.ref r), some (.ref a), some (.int (nI fr)), some (.int (nI to)), none] [] s _
  refine wg_aload_n (d59_0 L xs) rfl ?_
  refine wg_iload_n (d59_1 L xs) rfl ?_
  refine wg_iload_n (d59_2 L xs) rfl ?_
  refine wg_invs (d59_3 L xs) (kd := 6) (mj := 60) (n := 3) rfl (Or.inl rfl) (ys := [.int (nI to), .int (nI fr), .ref a]) (r := []) rfl rfl (Nat.le_of_ble_eq_true rfl) (by have h9 := tm_mod (L := L) (xs := xs) (d := d + 3) (fr := fr) (to := to) H hl (by omega) (by omega); rw [hq] at h9; exact h9) ?_
  rintro _ _ ⟨rfl, rfl⟩
  refine wg_istore (d59_6 L xs) (ls' := [some (.ref r), some (.ref a), some (.int (nI fr)), some (.int (nI to)), some (.int (nI e))]) (Nat.le_of_ble_eq_true rfl) rfl ?_
  refine wg_iload (d59_8 L xs) rfl ?_
  refine wg_iconst (d59_10 L xs) (x := (-1)) (by decide) ?_
  refine wg_icmp_eq (d59_11 L xs) (t := 24) (by decide) (fun h1 => absurd h1 (nI_neg1 (by omega))) (fun h1 => ?_)
  refine wg_aload_n (d59_14 L xs) rfl ?_
  refine wg_aload_n (d59_15 L xs) rfl ?_
  refine wg_iload_n (d59_16 L xs) rfl ?_
  refine wg_iload (d59_17 L xs) rfl ?_
  refine wg_iload_n (d59_19 L xs) rfl ?_
  refine wg_invv (d59_20 L xs) (kd := 7) (mj := 62) (n := 4) rfl (Or.inl rfl) (ys := [.int (nI to), .int (nI e), .int (nI fr), .ref a]) (r := []) rfl rfl Hr.1 (tm_c Hr) rfl (Nat.le_of_ble_eq_true rfl) (tm_modi H hl Hr hra hto (by omega) (by omega)) ?_
  rintro v s' h
  obtain ⟨rfl, h2, h3⟩ := h
  exact wg_iret (d59_23 L xs) rfl (nar_b _) (by unfold t_term; rw [hq]; exact ⟨rfl, h2, h3⟩)
theorem tm_readn {fr to : Nat} (hq : t_mod (gl l) fr to = none) (H : isT a) (hl : hold s a l) (Hr : isM r) (hra : ¬ a = r) (hto : to < 2 ^ 29) (hf : fr < to) : ca L xs (d + 6) 59 [.ref r, .ref a, .int (nI fr), .int (nI to)] s (tm_post s r (t_term (gl l) fr to)) := by
  refine wg_call (Nat.le_of_ble_eq_true rfl) ?_
  show wp L xs (d + 5) 59 0 [some (.ref r), some (.ref a), some (.int (nI fr)), some (.int (nI to)), none] [] s _
  refine wg_aload_n (d59_0 L xs) rfl ?_
  refine wg_iload_n (d59_1 L xs) rfl ?_
  refine wg_iload_n (d59_2 L xs) rfl ?_
  refine wg_invs (d59_3 L xs) (kd := 6) (mj := 60) (n := 3) rfl (Or.inl rfl) (ys := [.int (nI to), .int (nI fr), .ref a]) (r := []) rfl rfl (Nat.le_of_ble_eq_true rfl) (by have h9 := tm_mod (L := L) (xs := xs) (d := d + 3) (fr := fr) (to := to) H hl (by omega) (by omega); rw [hq] at h9; exact h9) ?_
  rintro _ _ ⟨rfl, rfl⟩
  refine wg_istore (d59_6 L xs) (ls' := [some (.ref r), some (.ref a), some (.int (nI fr)), some (.int (nI to)), some (.int (-1))]) (Nat.le_of_ble_eq_true rfl) rfl ?_
  refine wg_iload (d59_8 L xs) rfl ?_
  refine wg_iconst (d59_10 L xs) (x := (-1)) (by decide) ?_
  refine wg_icmp_eq (d59_11 L xs) (t := 24) (by decide) (fun _ => ?_) (fun hn => absurd (by decide) hn)
  refine wg_aload_n (d59_24 L xs) rfl ?_
  refine wg_aload_n (d59_25 L xs) rfl ?_
  refine wg_iload_n (d59_26 L xs) rfl ?_
  refine wg_iload_n (d59_27 L xs) rfl ?_
  refine wg_invv (d59_28 L xs) (kd := 7) (mj := 66) (n := 3) rfl (Or.inl rfl) (ys := [.int (nI to), .int (nI fr), .ref a]) (r := []) rfl rfl Hr.1 (tm_c Hr) rfl (Nat.le_of_ble_eq_true rfl) (tm_mech H hl Hr hra hto hf) ?_
  rintro v s' h
  obtain ⟨rfl, h2, h3⟩ := h
  exact wg_iret (d59_31 L xs) rfl (nar_b _) (by unfold t_term; rw [hq]; exact ⟨rfl, h2, h3⟩)
theorem tm_read {fr to : Nat} (H : isT a) (hl : hold s a l) (Hr : isM r) (hra : ¬ a = r) (hto : to < 2 ^ 29) (hf : fr < to) : ca L xs (d + 6) 59 [.ref r, .ref a, .int (nI fr), .int (nI to)] s (tm_post s r (t_term (gl l) fr to)) := by
  cases hq : t_mod (gl l) fr to with
  | none => exact tm_readn hq H hl Hr hra hto hf
  | some e => exact tm_readm hq H hl Hr hra hto hf
end TM3
