/-! the reference takes a row: is it one -/
theorem d109_78 (L : Nat) (xs : Nat → Int32) : decode (ax_code (mgT L xs) 109) 78 = .ok (.iload_n 1, 1) := by
  show decode prog_11_method_11_code 78 = _
  decide +kernel
theorem d109_79 (L : Nat) (xs : Nat → Int32) : decode (ax_code (mgT L xs) 109) 79 = .ok (.iconst 2, 1) := by
  show decode prog_11_method_11_code 79 = _
  decide +kernel
theorem d109_80 (L : Nat) (xs : Nat → Int32) : decode (ax_code (mgT L xs) 109) 80 = .ok (.if_icmp .le 14, 3) := by
  show decode prog_11_method_11_code 80 = _
  decide +kernel
theorem d109_83 (L : Nat) (xs : Nat → Int32) : decode (ax_code (mgT L xs) 109) 83 = .ok (.iload_n 2, 1) := by
  show decode prog_11_method_11_code 83 = _
  decide +kernel
theorem d109_84 (L : Nat) (xs : Nat → Int32) : decode (ax_code (mgT L xs) 109) 84 = .ok (.aload_n 0, 1) := by
  show decode prog_11_method_11_code 84 = _
  decide +kernel
theorem d109_85 (L : Nat) (xs : Nat → Int32) : decode (ax_code (mgT L xs) 109) 85 = .ok (.getfield 86, 3) := by
  show decode prog_11_method_11_code 85 = _
  decide +kernel
theorem d109_88 (L : Nat) (xs : Nat → Int32) : decode (ax_code (mgT L xs) 109) 88 = .ok (.if_icmp .ne 20, 3) := by
  show decode prog_11_method_11_code 88 = _
  decide +kernel
theorem d109_91 (L : Nat) (xs : Nat → Int32) : decode (ax_code (mgT L xs) 109) 91 = .ok (.goto 13, 3) := by
  show decode prog_11_method_11_code 91 = _
  decide +kernel
theorem d109_94 (L : Nat) (xs : Nat → Int32) : decode (ax_code (mgT L xs) 109) 94 = .ok (.iload_n 2, 1) := by
  show decode prog_11_method_11_code 94 = _
  decide +kernel
theorem d109_95 (L : Nat) (xs : Nat → Int32) : decode (ax_code (mgT L xs) 109) 95 = .ok (.iconst 1, 1) := by
  show decode prog_11_method_11_code 95 = _
  decide +kernel
theorem d109_96 (L : Nat) (xs : Nat → Int32) : decode (ax_code (mgT L xs) 109) 96 = .ok (.iadd, 1) := by
  show decode prog_11_method_11_code 96 = _
  decide +kernel
theorem d109_97 (L : Nat) (xs : Nat → Int32) : decode (ax_code (mgT L xs) 109) 97 = .ok (.aload_n 0, 1) := by
  show decode prog_11_method_11_code 97 = _
  decide +kernel
theorem d109_98 (L : Nat) (xs : Nat → Int32) : decode (ax_code (mgT L xs) 109) 98 = .ok (.getfield 86, 3) := by
  show decode prog_11_method_11_code 98 = _
  decide +kernel
theorem d109_101 (L : Nat) (xs : Nat → Int32) : decode (ax_code (mgT L xs) 109) 101 = .ok (.if_icmp .ge 7, 3) := by
  show decode prog_11_method_11_code 101 = _
  decide +kernel
theorem d109_104 (L : Nat) (xs : Nat → Int32) : decode (ax_code (mgT L xs) 109) 104 = .ok (.iconst 1, 1) := by
  show decode prog_11_method_11_code 104 = _
  decide +kernel
theorem d109_105 (L : Nat) (xs : Nat → Int32) : decode (ax_code (mgT L xs) 109) 105 = .ok (.goto 4, 3) := by
  show decode prog_11_method_11_code 105 = _
  decide +kernel
theorem d109_117 (L : Nat) (xs : Nat → Int32) : decode (ax_code (mgT L xs) 109) 117 = .ok (.iload_n 1, 1) := by
  show decode prog_11_method_11_code 117 = _
  decide +kernel
theorem d109_118 (L : Nat) (xs : Nat → Int32) : decode (ax_code (mgT L xs) 109) 118 = .ok (.ifCond .ne 40, 3) := by
  show decode prog_11_method_11_code 118 = _
  decide +kernel
theorem d109_121 (L : Nat) (xs : Nat → Int32) : decode (ax_code (mgT L xs) 109) 121 = .ok (.aload_n 0, 1) := by
  show decode prog_11_method_11_code 121 = _
  decide +kernel
theorem d109_122 (L : Nat) (xs : Nat → Int32) : decode (ax_code (mgT L xs) 109) 122 = .ok (.aload_n 0, 1) := by
  show decode prog_11_method_11_code 122 = _
  decide +kernel
theorem d109_123 (L : Nat) (xs : Nat → Int32) : decode (ax_code (mgT L xs) 109) 123 = .ok (.getfield 7, 3) := by
  show decode prog_11_method_11_code 123 = _
  decide +kernel
theorem d109_126 (L : Nat) (xs : Nat → Int32) : decode (ax_code (mgT L xs) 109) 126 = .ok (.iload_n 2, 1) := by
  show decode prog_11_method_11_code 126 = _
  decide +kernel
theorem d109_127 (L : Nat) (xs : Nat → Int32) : decode (ax_code (mgT L xs) 109) 127 = .ok (.iconst 1, 1) := by
  show decode prog_11_method_11_code 127 = _
  decide +kernel
theorem d109_128 (L : Nat) (xs : Nat → Int32) : decode (ax_code (mgT L xs) 109) 128 = .ok (.iadd, 1) := by
  show decode prog_11_method_11_code 128 = _
  decide +kernel
theorem d109_129 (L : Nat) (xs : Nat → Int32) : decode (ax_code (mgT L xs) 109) 129 = .ok (.aload_n 0, 1) := by
  show decode prog_11_method_11_code 129 = _
  decide +kernel
theorem d109_130 (L : Nat) (xs : Nat → Int32) : decode (ax_code (mgT L xs) 109) 130 = .ok (.getfield 86, 3) := by
  show decode prog_11_method_11_code 130 = _
  decide +kernel
theorem d109_133 (L : Nat) (xs : Nat → Int32) : decode (ax_code (mgT L xs) 109) 133 = .ok (.invokevirtual 107, 3) := by
  show decode prog_11_method_11_code 133 = _
  decide +kernel
theorem d109_136 (L : Nat) (xs : Nat → Int32) : decode (ax_code (mgT L xs) 109) 136 = .ok (.istore 4, 2) := by
  show decode prog_11_method_11_code 136 = _
  decide +kernel
theorem d109_138 (L : Nat) (xs : Nat → Int32) : decode (ax_code (mgT L xs) 109) 138 = .ok (.aload_n 0, 1) := by
  show decode prog_11_method_11_code 138 = _
  decide +kernel
theorem d109_139 (L : Nat) (xs : Nat → Int32) : decode (ax_code (mgT L xs) 109) 139 = .ok (.getfield 96, 3) := by
  show decode prog_11_method_11_code 139 = _
  decide +kernel
theorem d109_142 (L : Nat) (xs : Nat → Int32) : decode (ax_code (mgT L xs) 109) 142 = .ok (.aload_n 0, 1) := by
  show decode prog_11_method_11_code 142 = _
  decide +kernel
theorem d109_143 (L : Nat) (xs : Nat → Int32) : decode (ax_code (mgT L xs) 109) 143 = .ok (.getfield 86, 3) := by
  show decode prog_11_method_11_code 143 = _
  decide +kernel
theorem d109_146 (L : Nat) (xs : Nat → Int32) : decode (ax_code (mgT L xs) 109) 146 = .ok (.if_icmp .ne 7, 3) := by
  show decode prog_11_method_11_code 146 = _
  decide +kernel
theorem d109_149 (L : Nat) (xs : Nat → Int32) : decode (ax_code (mgT L xs) 109) 149 = .ok (.iconst 1, 1) := by
  show decode prog_11_method_11_code 149 = _
  decide +kernel
theorem d109_150 (L : Nat) (xs : Nat → Int32) : decode (ax_code (mgT L xs) 109) 150 = .ok (.goto 4, 3) := by
  show decode prog_11_method_11_code 150 = _
  decide +kernel
theorem d109_153 (L : Nat) (xs : Nat → Int32) : decode (ax_code (mgT L xs) 109) 153 = .ok (.iconst 0, 1) := by
  show decode prog_11_method_11_code 153 = _
  decide +kernel
theorem d109_154 (L : Nat) (xs : Nat → Int32) : decode (ax_code (mgT L xs) 109) 154 = .ok (.istore_n 3, 1) := by
  show decode prog_11_method_11_code 154 = _
  decide +kernel
theorem d109_155 (L : Nat) (xs : Nat → Int32) : decode (ax_code (mgT L xs) 109) 155 = .ok (.goto 27, 3) := by
  show decode prog_11_method_11_code 155 = _
  decide +kernel
theorem d109_162 (L : Nat) (xs : Nat → Int32) : decode (ax_code (mgT L xs) 109) 162 = .ok (.iload_n 1, 1) := by
  show decode prog_11_method_11_code 162 = _
  decide +kernel
theorem d109_163 (L : Nat) (xs : Nat → Int32) : decode (ax_code (mgT L xs) 109) 163 = .ok (.iconst 1, 1) := by
  show decode prog_11_method_11_code 163 = _
  decide +kernel
theorem d109_164 (L : Nat) (xs : Nat → Int32) : decode (ax_code (mgT L xs) 109) 164 = .ok (.if_icmp .ne 18, 3) := by
  show decode prog_11_method_11_code 164 = _
  decide +kernel
theorem d109_167 (L : Nat) (xs : Nat → Int32) : decode (ax_code (mgT L xs) 109) 167 = .ok (.aload_n 0, 1) := by
  show decode prog_11_method_11_code 167 = _
  decide +kernel
theorem d109_168 (L : Nat) (xs : Nat → Int32) : decode (ax_code (mgT L xs) 109) 168 = .ok (.getfield 7, 3) := by
  show decode prog_11_method_11_code 168 = _
  decide +kernel
theorem d109_171 (L : Nat) (xs : Nat → Int32) : decode (ax_code (mgT L xs) 109) 171 = .ok (.iload_n 2, 1) := by
  show decode prog_11_method_11_code 171 = _
  decide +kernel
theorem d109_172 (L : Nat) (xs : Nat → Int32) : decode (ax_code (mgT L xs) 109) 172 = .ok (.iconst 1, 1) := by
  show decode prog_11_method_11_code 172 = _
  decide +kernel
theorem d109_173 (L : Nat) (xs : Nat → Int32) : decode (ax_code (mgT L xs) 109) 173 = .ok (.iadd, 1) := by
  show decode prog_11_method_11_code 173 = _
  decide +kernel
theorem d109_174 (L : Nat) (xs : Nat → Int32) : decode (ax_code (mgT L xs) 109) 174 = .ok (.aload_n 0, 1) := by
  show decode prog_11_method_11_code 174 = _
  decide +kernel
theorem d109_175 (L : Nat) (xs : Nat → Int32) : decode (ax_code (mgT L xs) 109) 175 = .ok (.getfield 86, 3) := by
  show decode prog_11_method_11_code 175 = _
  decide +kernel
theorem d109_178 (L : Nat) (xs : Nat → Int32) : decode (ax_code (mgT L xs) 109) 178 = .ok (.invokestatic 103, 3) := by
  show decode prog_11_method_11_code 178 = _
  decide +kernel
theorem d109_181 (L : Nat) (xs : Nat → Int32) : decode (ax_code (mgT L xs) 109) 181 = .ok (.istore_n 3, 1) := by
  show decode prog_11_method_11_code 181 = _
  decide +kernel
theorem r_addr_le {g : Nat → Nat} {to : Nat} : ∀ (m v k : Nat) (p : Nat × Nat), k ≤ to → r_addr g to m v k = some p → p.2 ≤ to := by
  intro m
  induction m with
  | zero => intro v k p hk h; rw [r_addr] at h; cases h; exact hk
  | succ m ih =>
    intro v k p hk h
    rw [r_addr] at h
    split at h
    · cases h
    · rename_i hc
      split at h
      · cases h
      · refine ih _ _ _ ?_ h
        refine r_dg_le ?_
        by_cases e : m < 3
        · rw [if_pos e]
          have : ¬ to ≤ k := fun q => hc ⟨e, Or.inl q⟩
          omega
        · rw [if_neg e]; exact hk
theorem f_addr_short {g : Nat → Nat} {n e : Nat} (h : n ≤ e + 1) (he : e ≤ n) : f_addr g n (n + 1 - (e + 1)) 0 0 (e + 1) (e + 1) = none := by
  by_cases e1 : e = n
  · rw [show n + 1 - (e + 1) = 0 by omega, f_addr, if_neg (by decide)]
  · rw [show n + 1 - (e + 1) = 0 + 1 by omega, f_addr, if_pos (Or.inl (by omega))]
    have : t_num g (e + 1) (e + 1) 255 = none := by unfold t_num; rw [if_pos (Or.inl (by omega))]
    rw [this]
theorem t_name_short {g : Nat → Nat} {i j : Nat} (h : j ≤ i) : t_name g i j = false := by
  cases hq : t_name g i j with
  | false => rfl
  | true => have := t_name_len hq; omega
theorem ra_t {g : Nat → Nat} {n k : Nat} (hk : k ≤ n) (hn : n < 2 ^ 31) (h : aR (r_addr g n 4 0 k) = nI n) : ∃ v, f_addr g n (n + 1 - k) 0 0 k k = some v ∧ aI (r_addr g n 4 0 k) = nI v := by
  rw [adr_same hk]
  cases hr : r_addr g n 4 0 k with
  | none => rw [hr] at h; exact absurd h.symm (nI_neg1 hn)
  | some p =>
    rw [hr] at h
    have hp := r_addr_le _ _ _ _ hk hr
    have e : p.2 = n := (nI_eq (by omega) hn).mp h
    refine ⟨p.1, ?_, rfl⟩
    show (if p.2 = n then some p.1 else none) = some p.1
    rw [if_pos e]
theorem ra_f {g : Nat → Nat} {n k : Nat} (hk : k ≤ n) (h : ¬ aR (r_addr g n 4 0 k) = nI n) : f_addr g n (n + 1 - k) 0 0 k k = none := by
  rw [adr_same hk]
  cases hr : r_addr g n 4 0 k with
  | none => rfl
  | some p =>
    rw [hr] at h
    show (if p.2 = n then some p.1 else none) = none
    rw [if_neg (fun e => h (by show nI p.2 = nI n; rw [e]))]
theorem oL_i {v : Nat} : (oL (some v)).toInt32 = nI v := by show (Int64.ofNat v).toInt32 = Int32.ofNat v; exact Int64.toInt32_ofNat'
section MR3
variable {L : Nat} {xs : Nat → Int32} {d : Nat} {l : List Nat} {s : mg_s} {Q : Option Value → mg_s → Prop}
theorem md_row_k0 (hn : s.1 141 1 = nI l.length) (hm : holdA s 142 0 l) (h100 : l.length ≤ 100) (k0 : t_ok l 0 = false → ∀ (x : Int32) (s' : mg_s), mfr s s' [9] [] → wp L xs (d + 3) 109 182 [some (.ref 141), some (.int 0), some (.int (nI (t_end l))), some (.int 0), some (.int x), none] [] s' Q) (k1 : t_ok l 0 = true → ∀ s', mfr s s' [9] [] → wp L xs (d + 3) 109 182 [some (.ref 141), some (.int 0), some (.int (nI (t_end l))), some (.int 1), some (.int (t_adr l 0 (t_end l))), none] [] s' Q) : wp L xs (d + 3) 109 66 [some (.ref 141), some (.int 0), some (.int (nI (t_end l))), none, none, none] [] s Q := by
  have hv : ∀ j, j < l.length → s.2.1 142 j = nI (gl l j) ∧ gl l j < 65536 := fun j hj => ⟨by have := hm.2 j hj; rwa [Nat.zero_add] at this, by have := gl_lt hm.1 j; omega⟩
  have hel : t_end l ≤ l.length := by have := (f_find_s (g := gl l) (c := 32) (l.length - 0) 0).2.1; unfold t_end; omega
  have hbn := bI_lt (t_name (gl l) 0 (t_end l))
  have hbm := bI_lt (t_name (gl l) (t_end l + 1) l.length)
  refine wg_aload_n (d109_66 L xs) rfl ?_
  refine wg_get (d109_67 L xs) (kd := 1) (cj := 9) (k0 := 2) rfl (Or.inl rfl) (by decide) rfl rfl ?_
  refine wg_iconst (d109_70 L xs) (x := 0) (by decide) ?_
  refine wg_iload_n (d109_71 L xs) rfl ?_
  refine wg_invs (d109_72 L xs) (kd := 6) (mj := 110) (n := 3) rfl (Or.inl rfl) (ys := [.int (nI (t_end l)), .int 0, .ref 142]) (r := []) rfl rfl (Nat.le_of_ble_eq_true rfl) (md_isName (q := 142) (N := 100) (fr := 0) (to := (t_end l)) (g := gl l) isA_all.1 (fun k hk => hv k (by omega)) (by omega) (by decide) (Nat.zero_le _)) ?_
  rintro _ _ ⟨rfl, rfl⟩
  refine wn_if_eq (d109_75 L xs) (x := bI (t_name (gl l) 0 (t_end l))) (by omega) (t := 108) (by decide) (fun h1 => ?_) (fun h1 => ?_)
  · refine wg_iconst (d109_108 L xs) (x := 0) (by decide) ?_
    refine wg_istore_n (d109_109 L xs) (ls' := [some (.ref 141), some (.int 0), some (.int (nI (t_end l))), some (.int 0), none, none]) (Nat.le_of_ble_eq_true rfl) rfl ?_
    refine wg_iconst (d109_110 L xs) (x := 0) (by decide) ?_
    refine wg_istore (d109_111 L xs) (ls' := [some (.ref 141), some (.int 0), some (.int (nI (t_end l))), some (.int 0), some (.int 0), none]) (Nat.le_of_ble_eq_true rfl) rfl ?_
    refine wg_iload_n (d109_113 L xs) rfl ?_
    refine wg_if_eq (d109_114 L xs) (t := 158) (by decide) (fun _ => ?_) (fun hn => absurd (by decide) hn)
    refine wg_iload_n (d109_158 L xs) rfl ?_
    refine wg_if_eq (d109_159 L xs) (t := 182) (by decide) (fun _ => ?_) (fun hn => absurd (by decide) hn)
    exact k0 (by first | (unfold t_ok; rw [bI_f (b := t_name (gl l) 0 (t_end l)) (by omega), Bool.false_and]) | (unfold t_ok; rw [if_pos rfl, f_addr_short (by omega) (by omega), Option.isSome_none, Bool.and_false])) _ s (mfr.rf s [9] [])
  · refine wg_iload_n (d109_78 L xs) rfl ?_
    refine wg_iconst (d109_79 L xs) (x := 2) (by decide) ?_
    refine wg_icmp_le (d109_80 L xs) (t := 94) (by decide) (fun _ => ?_) (fun hn => absurd (by decide) hn)
    refine wg_iload_n (d109_94 L xs) rfl ?_
    refine wg_iconst (d109_95 L xs) (x := 1) (by decide) ?_
    refine wg_iadd (d109_96 L xs) ?_
    refine wg_top (y := (nI ((t_end l) + 1))) (nI_add (t_end l) 1) ?_
    refine wg_aload_n (d109_97 L xs) rfl ?_
    refine wg_get (d109_98 L xs) (kd := 1) (cj := 9) (k0 := 1) rfl (Or.inl rfl) (by decide) rfl rfl ?_
    refine wg_top (y := (nI l.length)) hn ?_
    refine wn_icmp_ge (d109_101 L xs) (x := (t_end l) + 1) (y := l.length) (by omega) (by omega) (t := 108) (by decide) (fun h5 => ?_) (fun h5 => ?_)
    · refine wg_iconst (d109_108 L xs) (x := 0) (by decide) ?_
      refine wg_istore_n (d109_109 L xs) (ls' := [some (.ref 141), some (.int 0), some (.int (nI (t_end l))), some (.int 0), none, none]) (Nat.le_of_ble_eq_true rfl) rfl ?_
      refine wg_iconst (d109_110 L xs) (x := 0) (by decide) ?_
      refine wg_istore (d109_111 L xs) (ls' := [some (.ref 141), some (.int 0), some (.int (nI (t_end l))), some (.int 0), some (.int 0), none]) (Nat.le_of_ble_eq_true rfl) rfl ?_
      refine wg_iload_n (d109_113 L xs) rfl ?_
      refine wg_if_eq (d109_114 L xs) (t := 158) (by decide) (fun _ => ?_) (fun hn => absurd (by decide) hn)
      refine wg_iload_n (d109_158 L xs) rfl ?_
      refine wg_if_eq (d109_159 L xs) (t := 182) (by decide) (fun _ => ?_) (fun hn => absurd (by decide) hn)
      exact k0 (by first | (unfold t_ok; rw [bI_f (b := t_name (gl l) 0 (t_end l)) (by omega), Bool.false_and]) | (unfold t_ok; rw [if_pos rfl, f_addr_short (by omega) (by omega), Option.isSome_none, Bool.and_false])) _ s (mfr.rf s [9] [])
    · refine wg_iconst (d109_104 L xs) (x := 1) (by decide) ?_
      refine wg_goto (d109_105 L xs) (t := 109) (by decide) ?_
      refine wg_istore_n (d109_109 L xs) (ls' := [some (.ref 141), some (.int 0), some (.int (nI (t_end l))), some (.int 1), none, none]) (Nat.le_of_ble_eq_true rfl) rfl ?_
      refine wg_iconst (d109_110 L xs) (x := 0) (by decide) ?_
      refine wg_istore (d109_111 L xs) (ls' := [some (.ref 141), some (.int 0), some (.int (nI (t_end l))), some (.int 1), some (.int 0), none]) (Nat.le_of_ble_eq_true rfl) rfl ?_
      refine wg_iload_n (d109_113 L xs) rfl ?_
      refine wg_if_eq (d109_114 L xs) (t := 158) (by decide) (fun hp => absurd hp (by decide)) (fun _ => ?_)
      refine wg_iload_n (d109_117 L xs) rfl ?_
      refine wg_if_ne (d109_118 L xs) (t := 158) (by decide) (fun hp => absurd hp (by decide)) (fun _ => ?_)
      refine wg_aload_n (d109_121 L xs) rfl ?_
      refine wg_aload_n (d109_122 L xs) rfl ?_
      refine wg_get (d109_123 L xs) (kd := 1) (cj := 9) (k0 := 2) rfl (Or.inl rfl) (by decide) rfl rfl ?_
      refine wg_iload_n (d109_126 L xs) rfl ?_
      refine wg_iconst (d109_127 L xs) (x := 1) (by decide) ?_
      refine wg_iadd (d109_128 L xs) ?_
      refine wg_top (y := (nI ((t_end l) + 1))) (nI_add (t_end l) 1) ?_
      refine wg_aload_n (d109_129 L xs) rfl ?_
      refine wg_get (d109_130 L xs) (kd := 1) (cj := 9) (k0 := 1) rfl (Or.inl rfl) (by decide) rfl rfl ?_
      refine wg_top (y := (nI l.length)) hn ?_
      refine wg_invv (d109_133 L xs) (kd := 7) (mj := 113) (n := 3) rfl (Or.inl rfl) (ys := [.int (nI l.length), .int (nI ((t_end l) + 1)), .ref 142]) (r := []) rfl rfl (by decide) rfl rfl (Nat.le_of_ble_eq_true rfl) (md_readAddress (q := 142) (N := 100) (fr := (t_end l) + 1) (to := l.length) (g := gl l) isA_all.1 hv (by omega) (by decide) (by omega)) ?_
      rintro _ _ ⟨rfl, rfl⟩
      refine wg_istore (d109_136 L xs) (ls' := [some (.ref 141), some (.int 0), some (.int (nI (t_end l))), some (.int 1), some (.int (aI (r_addr (gl l) l.length 4 0 ((t_end l) + 1)))), none]) (Nat.le_of_ble_eq_true rfl) rfl ?_
      refine wg_aload_n (d109_138 L xs) rfl ?_
      refine wg_get (d109_139 L xs) (kd := 1) (cj := 9) (k0 := 9) rfl (Or.inl rfl) (by decide) rfl rfl ?_
      refine wg_aload_n (d109_142 L xs) rfl ?_
      refine wg_get (d109_143 L xs) (kd := 1) (cj := 9) (k0 := 1) rfl (Or.inl rfl) (by decide) rfl rfl ?_
      refine wg_top (y := (nI l.length)) hn ?_
      refine wg_icmp_ne (d109_146 L xs) (t := 153) (by decide) (fun h10 => ?_) (fun h10 => ?_)
      · refine wg_iconst (d109_153 L xs) (x := 0) (by decide) ?_
        refine wg_istore_n (d109_154 L xs) (ls' := [some (.ref 141), some (.int 0), some (.int (nI (t_end l))), some (.int 0), some (.int (aI (r_addr (gl l) l.length 4 0 ((t_end l) + 1)))), none]) (Nat.le_of_ble_eq_true rfl) rfl ?_
        refine wg_goto (d109_155 L xs) (t := 182) (by decide) ?_
        exact k0 (by unfold t_ok; rw [if_pos rfl, ra_f (n := l.length) (k := t_end l + 1) (by omega) (by assumption), Option.isSome_none, Bool.and_false]) _ _ (mfr_I s (by decide))
      · refine wg_iconst (d109_149 L xs) (x := 1) (by decide) ?_
        refine wg_goto (d109_150 L xs) (t := 154) (by decide) ?_
        refine wg_istore_n (d109_154 L xs) (ls' := [some (.ref 141), some (.int 0), some (.int (nI (t_end l))), some (.int 1), some (.int (aI (r_addr (gl l) l.length 4 0 ((t_end l) + 1)))), none]) (Nat.le_of_ble_eq_true rfl) rfl ?_
        refine wg_goto (d109_155 L xs) (t := 182) (by decide) ?_
        obtain ⟨v, hv1, hv2⟩ := ra_t (g := gl l) (n := l.length) (k := t_end l + 1) (by omega) (by omega) (Classical.not_not.mp (by assumption))
        rw [hv2]
        have hx : nI v = t_adr l 0 (t_end l) := by unfold t_adr; rw [if_pos rfl, hv1, oL_i]
        rw [hx]
        exact k1 (by unfold t_ok; rw [if_pos rfl, hv1, bI_t (b := t_name (gl l) 0 (t_end l)) (by omega)]; rfl) _ (mfr_I s (by decide))
theorem md_row_k1 (hn : s.1 141 1 = nI l.length) (hm : holdA s 142 0 l) (h100 : l.length ≤ 100) (k0 : t_ok l 1 = false → ∀ (x : Int32) (s' : mg_s), mfr s s' [9] [] → wp L xs (d + 3) 109 182 [some (.ref 141), some (.int 1), some (.int (nI (t_end l))), some (.int 0), some (.int x), none] [] s' Q) (k1 : t_ok l 1 = true → ∀ s', mfr s s' [9] [] → wp L xs (d + 3) 109 182 [some (.ref 141), some (.int 1), some (.int (nI (t_end l))), some (.int 1), some (.int (t_adr l 1 (t_end l))), none] [] s' Q) : wp L xs (d + 3) 109 66 [some (.ref 141), some (.int 1), some (.int (nI (t_end l))), none, none, none] [] s Q := by
  have hv : ∀ j, j < l.length → s.2.1 142 j = nI (gl l j) ∧ gl l j < 65536 := fun j hj => ⟨by have := hm.2 j hj; rwa [Nat.zero_add] at this, by have := gl_lt hm.1 j; omega⟩
  have hel : t_end l ≤ l.length := by have := (f_find_s (g := gl l) (c := 32) (l.length - 0) 0).2.1; unfold t_end; omega
  have hbn := bI_lt (t_name (gl l) 0 (t_end l))
  have hbm := bI_lt (t_name (gl l) (t_end l + 1) l.length)
  refine wg_aload_n (d109_66 L xs) rfl ?_
  refine wg_get (d109_67 L xs) (kd := 1) (cj := 9) (k0 := 2) rfl (Or.inl rfl) (by decide) rfl rfl ?_
  refine wg_iconst (d109_70 L xs) (x := 0) (by decide) ?_
  refine wg_iload_n (d109_71 L xs) rfl ?_
  refine wg_invs (d109_72 L xs) (kd := 6) (mj := 110) (n := 3) rfl (Or.inl rfl) (ys := [.int (nI (t_end l)), .int 0, .ref 142]) (r := []) rfl rfl (Nat.le_of_ble_eq_true rfl) (md_isName (q := 142) (N := 100) (fr := 0) (to := (t_end l)) (g := gl l) isA_all.1 (fun k hk => hv k (by omega)) (by omega) (by decide) (Nat.zero_le _)) ?_
  rintro _ _ ⟨rfl, rfl⟩
  refine wn_if_eq (d109_75 L xs) (x := bI (t_name (gl l) 0 (t_end l))) (by omega) (t := 108) (by decide) (fun h1 => ?_) (fun h1 => ?_)
  · refine wg_iconst (d109_108 L xs) (x := 0) (by decide) ?_
    refine wg_istore_n (d109_109 L xs) (ls' := [some (.ref 141), some (.int 1), some (.int (nI (t_end l))), some (.int 0), none, none]) (Nat.le_of_ble_eq_true rfl) rfl ?_
    refine wg_iconst (d109_110 L xs) (x := 0) (by decide) ?_
    refine wg_istore (d109_111 L xs) (ls' := [some (.ref 141), some (.int 1), some (.int (nI (t_end l))), some (.int 0), some (.int 0), none]) (Nat.le_of_ble_eq_true rfl) rfl ?_
    refine wg_iload_n (d109_113 L xs) rfl ?_
    refine wg_if_eq (d109_114 L xs) (t := 158) (by decide) (fun _ => ?_) (fun hn => absurd (by decide) hn)
    refine wg_iload_n (d109_158 L xs) rfl ?_
    refine wg_if_eq (d109_159 L xs) (t := 182) (by decide) (fun _ => ?_) (fun hn => absurd (by decide) hn)
    exact k0 (by first | (unfold t_ok; rw [bI_f (b := t_name (gl l) 0 (t_end l)) (by omega), Bool.false_and]) | (unfold t_ok; rw [if_neg (by decide), if_pos rfl, t_name_short (i := t_end l + 1) (by omega), Bool.and_false])) _ s (mfr.rf s [9] [])
  · refine wg_iload_n (d109_78 L xs) rfl ?_
    refine wg_iconst (d109_79 L xs) (x := 2) (by decide) ?_
    refine wg_icmp_le (d109_80 L xs) (t := 94) (by decide) (fun _ => ?_) (fun hn => absurd (by decide) hn)
    refine wg_iload_n (d109_94 L xs) rfl ?_
    refine wg_iconst (d109_95 L xs) (x := 1) (by decide) ?_
    refine wg_iadd (d109_96 L xs) ?_
    refine wg_top (y := (nI ((t_end l) + 1))) (nI_add (t_end l) 1) ?_
    refine wg_aload_n (d109_97 L xs) rfl ?_
    refine wg_get (d109_98 L xs) (kd := 1) (cj := 9) (k0 := 1) rfl (Or.inl rfl) (by decide) rfl rfl ?_
    refine wg_top (y := (nI l.length)) hn ?_
    refine wn_icmp_ge (d109_101 L xs) (x := (t_end l) + 1) (y := l.length) (by omega) (by omega) (t := 108) (by decide) (fun h5 => ?_) (fun h5 => ?_)
    · refine wg_iconst (d109_108 L xs) (x := 0) (by decide) ?_
      refine wg_istore_n (d109_109 L xs) (ls' := [some (.ref 141), some (.int 1), some (.int (nI (t_end l))), some (.int 0), none, none]) (Nat.le_of_ble_eq_true rfl) rfl ?_
      refine wg_iconst (d109_110 L xs) (x := 0) (by decide) ?_
      refine wg_istore (d109_111 L xs) (ls' := [some (.ref 141), some (.int 1), some (.int (nI (t_end l))), some (.int 0), some (.int 0), none]) (Nat.le_of_ble_eq_true rfl) rfl ?_
      refine wg_iload_n (d109_113 L xs) rfl ?_
      refine wg_if_eq (d109_114 L xs) (t := 158) (by decide) (fun _ => ?_) (fun hn => absurd (by decide) hn)
      refine wg_iload_n (d109_158 L xs) rfl ?_
      refine wg_if_eq (d109_159 L xs) (t := 182) (by decide) (fun _ => ?_) (fun hn => absurd (by decide) hn)
      exact k0 (by first | (unfold t_ok; rw [bI_f (b := t_name (gl l) 0 (t_end l)) (by omega), Bool.false_and]) | (unfold t_ok; rw [if_neg (by decide), if_pos rfl, t_name_short (i := t_end l + 1) (by omega), Bool.and_false])) _ s (mfr.rf s [9] [])
    · refine wg_iconst (d109_104 L xs) (x := 1) (by decide) ?_
      refine wg_goto (d109_105 L xs) (t := 109) (by decide) ?_
      refine wg_istore_n (d109_109 L xs) (ls' := [some (.ref 141), some (.int 1), some (.int (nI (t_end l))), some (.int 1), none, none]) (Nat.le_of_ble_eq_true rfl) rfl ?_
      refine wg_iconst (d109_110 L xs) (x := 0) (by decide) ?_
      refine wg_istore (d109_111 L xs) (ls' := [some (.ref 141), some (.int 1), some (.int (nI (t_end l))), some (.int 1), some (.int 0), none]) (Nat.le_of_ble_eq_true rfl) rfl ?_
      refine wg_iload_n (d109_113 L xs) rfl ?_
      refine wg_if_eq (d109_114 L xs) (t := 158) (by decide) (fun hp => absurd hp (by decide)) (fun _ => ?_)
      refine wg_iload_n (d109_117 L xs) rfl ?_
      refine wg_if_ne (d109_118 L xs) (t := 158) (by decide) (fun _ => ?_) (fun hn => absurd (by decide) hn)
      refine wg_iload_n (d109_158 L xs) rfl ?_
      refine wg_if_eq (d109_159 L xs) (t := 182) (by decide) (fun hp => absurd hp (by decide)) (fun _ => ?_)
      refine wg_iload_n (d109_162 L xs) rfl ?_
      refine wg_iconst (d109_163 L xs) (x := 1) (by decide) ?_
      refine wg_icmp_ne (d109_164 L xs) (t := 182) (by decide) (fun hp => absurd hp (by decide)) (fun _ => ?_)
      refine wg_aload_n (d109_167 L xs) rfl ?_
      refine wg_get (d109_168 L xs) (kd := 1) (cj := 9) (k0 := 2) rfl (Or.inl rfl) (by decide) rfl rfl ?_
      refine wg_iload_n (d109_171 L xs) rfl ?_
      refine wg_iconst (d109_172 L xs) (x := 1) (by decide) ?_
      refine wg_iadd (d109_173 L xs) ?_
      refine wg_top (y := (nI ((t_end l) + 1))) (nI_add (t_end l) 1) ?_
      refine wg_aload_n (d109_174 L xs) rfl ?_
      refine wg_get (d109_175 L xs) (kd := 1) (cj := 9) (k0 := 1) rfl (Or.inl rfl) (by decide) rfl rfl ?_
      refine wg_top (y := (nI l.length)) hn ?_
      refine wg_invs (d109_178 L xs) (kd := 6) (mj := 110) (n := 3) rfl (Or.inl rfl) (ys := [.int (nI l.length), .int (nI ((t_end l) + 1)), .ref 142]) (r := []) rfl rfl (Nat.le_of_ble_eq_true rfl) (md_isName (q := 142) (N := 100) (fr := (t_end l) + 1) (to := l.length) (g := gl l) isA_all.1 hv (by omega) (by decide) (by omega)) ?_
      rintro _ _ ⟨rfl, rfl⟩
      refine wg_istore_n (d109_181 L xs) (ls' := [some (.ref 141), some (.int 1), some (.int (nI (t_end l))), some (.int (nI (bI (t_name (gl l) ((t_end l) + 1) l.length)))), some (.int 0), none]) (Nat.le_of_ble_eq_true rfl) rfl ?_
      cases hq : t_name (gl l) (t_end l + 1) l.length with
      | false => exact k0 (by unfold t_ok; rw [if_neg (by decide), if_pos rfl, hq, Bool.and_false]) _ s (mfr.rf s [9] [])
      | true => exact k1 (by unfold t_ok; rw [bI_t (b := t_name (gl l) 0 (t_end l)) (by omega), Bool.true_and, if_neg (by decide), if_pos rfl, hq]) s (mfr.rf s [9] [])
theorem md_row_k2 (hn : s.1 141 1 = nI l.length) (hm : holdA s 142 0 l) (h100 : l.length ≤ 100) (k0 : t_ok l 2 = false → ∀ (x : Int32) (s' : mg_s), mfr s s' [9] [] → wp L xs (d + 3) 109 182 [some (.ref 141), some (.int 2), some (.int (nI (t_end l))), some (.int 0), some (.int x), none] [] s' Q) (k1 : t_ok l 2 = true → ∀ s', mfr s s' [9] [] → wp L xs (d + 3) 109 182 [some (.ref 141), some (.int 2), some (.int (nI (t_end l))), some (.int 1), some (.int (t_adr l 2 (t_end l))), none] [] s' Q) : wp L xs (d + 3) 109 66 [some (.ref 141), some (.int 2), some (.int (nI (t_end l))), none, none, none] [] s Q := by
  have hv : ∀ j, j < l.length → s.2.1 142 j = nI (gl l j) ∧ gl l j < 65536 := fun j hj => ⟨by have := hm.2 j hj; rwa [Nat.zero_add] at this, by have := gl_lt hm.1 j; omega⟩
  have hel : t_end l ≤ l.length := by have := (f_find_s (g := gl l) (c := 32) (l.length - 0) 0).2.1; unfold t_end; omega
  have hbn := bI_lt (t_name (gl l) 0 (t_end l))
  have hbm := bI_lt (t_name (gl l) (t_end l + 1) l.length)
  refine wg_aload_n (d109_66 L xs) rfl ?_
  refine wg_get (d109_67 L xs) (kd := 1) (cj := 9) (k0 := 2) rfl (Or.inl rfl) (by decide) rfl rfl ?_
  refine wg_iconst (d109_70 L xs) (x := 0) (by decide) ?_
  refine wg_iload_n (d109_71 L xs) rfl ?_
  refine wg_invs (d109_72 L xs) (kd := 6) (mj := 110) (n := 3) rfl (Or.inl rfl) (ys := [.int (nI (t_end l)), .int 0, .ref 142]) (r := []) rfl rfl (Nat.le_of_ble_eq_true rfl) (md_isName (q := 142) (N := 100) (fr := 0) (to := (t_end l)) (g := gl l) isA_all.1 (fun k hk => hv k (by omega)) (by omega) (by decide) (Nat.zero_le _)) ?_
  rintro _ _ ⟨rfl, rfl⟩
  refine wn_if_eq (d109_75 L xs) (x := bI (t_name (gl l) 0 (t_end l))) (by omega) (t := 108) (by decide) (fun h1 => ?_) (fun h1 => ?_)
  · refine wg_iconst (d109_108 L xs) (x := 0) (by decide) ?_
    refine wg_istore_n (d109_109 L xs) (ls' := [some (.ref 141), some (.int 2), some (.int (nI (t_end l))), some (.int 0), none, none]) (Nat.le_of_ble_eq_true rfl) rfl ?_
    refine wg_iconst (d109_110 L xs) (x := 0) (by decide) ?_
    refine wg_istore (d109_111 L xs) (ls' := [some (.ref 141), some (.int 2), some (.int (nI (t_end l))), some (.int 0), some (.int 0), none]) (Nat.le_of_ble_eq_true rfl) rfl ?_
    refine wg_iload_n (d109_113 L xs) rfl ?_
    refine wg_if_eq (d109_114 L xs) (t := 158) (by decide) (fun _ => ?_) (fun hn => absurd (by decide) hn)
    refine wg_iload_n (d109_158 L xs) rfl ?_
    refine wg_if_eq (d109_159 L xs) (t := 182) (by decide) (fun _ => ?_) (fun hn => absurd (by decide) hn)
    exact k0 (by first | (unfold t_ok; rw [bI_f (b := t_name (gl l) 0 (t_end l)) (by omega), Bool.false_and]) | (unfold t_ok; rw [if_neg (by decide), if_neg (by decide), if_pos rfl, decide_eq_false (show ¬ t_end l + 1 < l.length by omega), Bool.and_false])) _ s (mfr.rf s [9] [])
  · refine wg_iload_n (d109_78 L xs) rfl ?_
    refine wg_iconst (d109_79 L xs) (x := 2) (by decide) ?_
    refine wg_icmp_le (d109_80 L xs) (t := 94) (by decide) (fun _ => ?_) (fun hn => absurd (by decide) hn)
    refine wg_iload_n (d109_94 L xs) rfl ?_
    refine wg_iconst (d109_95 L xs) (x := 1) (by decide) ?_
    refine wg_iadd (d109_96 L xs) ?_
    refine wg_top (y := (nI ((t_end l) + 1))) (nI_add (t_end l) 1) ?_
    refine wg_aload_n (d109_97 L xs) rfl ?_
    refine wg_get (d109_98 L xs) (kd := 1) (cj := 9) (k0 := 1) rfl (Or.inl rfl) (by decide) rfl rfl ?_
    refine wg_top (y := (nI l.length)) hn ?_
    refine wn_icmp_ge (d109_101 L xs) (x := (t_end l) + 1) (y := l.length) (by omega) (by omega) (t := 108) (by decide) (fun h5 => ?_) (fun h5 => ?_)
    · refine wg_iconst (d109_108 L xs) (x := 0) (by decide) ?_
      refine wg_istore_n (d109_109 L xs) (ls' := [some (.ref 141), some (.int 2), some (.int (nI (t_end l))), some (.int 0), none, none]) (Nat.le_of_ble_eq_true rfl) rfl ?_
      refine wg_iconst (d109_110 L xs) (x := 0) (by decide) ?_
      refine wg_istore (d109_111 L xs) (ls' := [some (.ref 141), some (.int 2), some (.int (nI (t_end l))), some (.int 0), some (.int 0), none]) (Nat.le_of_ble_eq_true rfl) rfl ?_
      refine wg_iload_n (d109_113 L xs) rfl ?_
      refine wg_if_eq (d109_114 L xs) (t := 158) (by decide) (fun _ => ?_) (fun hn => absurd (by decide) hn)
      refine wg_iload_n (d109_158 L xs) rfl ?_
      refine wg_if_eq (d109_159 L xs) (t := 182) (by decide) (fun _ => ?_) (fun hn => absurd (by decide) hn)
      exact k0 (by first | (unfold t_ok; rw [bI_f (b := t_name (gl l) 0 (t_end l)) (by omega), Bool.false_and]) | (unfold t_ok; rw [if_neg (by decide), if_neg (by decide), if_pos rfl, decide_eq_false (show ¬ t_end l + 1 < l.length by omega), Bool.and_false])) _ s (mfr.rf s [9] [])
    · refine wg_iconst (d109_104 L xs) (x := 1) (by decide) ?_
      refine wg_goto (d109_105 L xs) (t := 109) (by decide) ?_
      refine wg_istore_n (d109_109 L xs) (ls' := [some (.ref 141), some (.int 2), some (.int (nI (t_end l))), some (.int 1), none, none]) (Nat.le_of_ble_eq_true rfl) rfl ?_
      refine wg_iconst (d109_110 L xs) (x := 0) (by decide) ?_
      refine wg_istore (d109_111 L xs) (ls' := [some (.ref 141), some (.int 2), some (.int (nI (t_end l))), some (.int 1), some (.int 0), none]) (Nat.le_of_ble_eq_true rfl) rfl ?_
      refine wg_iload_n (d109_113 L xs) rfl ?_
      refine wg_if_eq (d109_114 L xs) (t := 158) (by decide) (fun hp => absurd hp (by decide)) (fun _ => ?_)
      refine wg_iload_n (d109_117 L xs) rfl ?_
      refine wg_if_ne (d109_118 L xs) (t := 158) (by decide) (fun _ => ?_) (fun hn => absurd (by decide) hn)
      refine wg_iload_n (d109_158 L xs) rfl ?_
      refine wg_if_eq (d109_159 L xs) (t := 182) (by decide) (fun hp => absurd hp (by decide)) (fun _ => ?_)
      refine wg_iload_n (d109_162 L xs) rfl ?_
      refine wg_iconst (d109_163 L xs) (x := 1) (by decide) ?_
      refine wg_icmp_ne (d109_164 L xs) (t := 182) (by decide) (fun _ => ?_) (fun hn => absurd (by decide) hn)
      exact k1 (by unfold t_ok; rw [bI_t (b := t_name (gl l) 0 (t_end l)) (by omega), Bool.true_and, if_neg (by decide), if_neg (by decide), if_pos rfl, decide_eq_true (show t_end l + 1 < l.length by omega)]) s (mfr.rf s [9] [])
theorem md_row_k3 (hn : s.1 141 1 = nI l.length) (hm : holdA s 142 0 l) (h100 : l.length ≤ 100) (k0 : t_ok l 3 = false → ∀ (x : Int32) (s' : mg_s), mfr s s' [9] [] → wp L xs (d + 3) 109 182 [some (.ref 141), some (.int 3), some (.int (nI (t_end l))), some (.int 0), some (.int x), none] [] s' Q) (k1 : t_ok l 3 = true → ∀ s', mfr s s' [9] [] → wp L xs (d + 3) 109 182 [some (.ref 141), some (.int 3), some (.int (nI (t_end l))), some (.int 1), some (.int (t_adr l 3 (t_end l))), none] [] s' Q) : wp L xs (d + 3) 109 66 [some (.ref 141), some (.int 3), some (.int (nI (t_end l))), none, none, none] [] s Q := by
  have hv : ∀ j, j < l.length → s.2.1 142 j = nI (gl l j) ∧ gl l j < 65536 := fun j hj => ⟨by have := hm.2 j hj; rwa [Nat.zero_add] at this, by have := gl_lt hm.1 j; omega⟩
  have hel : t_end l ≤ l.length := by have := (f_find_s (g := gl l) (c := 32) (l.length - 0) 0).2.1; unfold t_end; omega
  have hbn := bI_lt (t_name (gl l) 0 (t_end l))
  have hbm := bI_lt (t_name (gl l) (t_end l + 1) l.length)
  refine wg_aload_n (d109_66 L xs) rfl ?_
  refine wg_get (d109_67 L xs) (kd := 1) (cj := 9) (k0 := 2) rfl (Or.inl rfl) (by decide) rfl rfl ?_
  refine wg_iconst (d109_70 L xs) (x := 0) (by decide) ?_
  refine wg_iload_n (d109_71 L xs) rfl ?_
  refine wg_invs (d109_72 L xs) (kd := 6) (mj := 110) (n := 3) rfl (Or.inl rfl) (ys := [.int (nI (t_end l)), .int 0, .ref 142]) (r := []) rfl rfl (Nat.le_of_ble_eq_true rfl) (md_isName (q := 142) (N := 100) (fr := 0) (to := (t_end l)) (g := gl l) isA_all.1 (fun k hk => hv k (by omega)) (by omega) (by decide) (Nat.zero_le _)) ?_
  rintro _ _ ⟨rfl, rfl⟩
  refine wn_if_eq (d109_75 L xs) (x := bI (t_name (gl l) 0 (t_end l))) (by omega) (t := 108) (by decide) (fun h1 => ?_) (fun h1 => ?_)
  · refine wg_iconst (d109_108 L xs) (x := 0) (by decide) ?_
    refine wg_istore_n (d109_109 L xs) (ls' := [some (.ref 141), some (.int 3), some (.int (nI (t_end l))), some (.int 0), none, none]) (Nat.le_of_ble_eq_true rfl) rfl ?_
    refine wg_iconst (d109_110 L xs) (x := 0) (by decide) ?_
    refine wg_istore (d109_111 L xs) (ls' := [some (.ref 141), some (.int 3), some (.int (nI (t_end l))), some (.int 0), some (.int 0), none]) (Nat.le_of_ble_eq_true rfl) rfl ?_
    refine wg_iload_n (d109_113 L xs) rfl ?_
    refine wg_if_eq (d109_114 L xs) (t := 158) (by decide) (fun _ => ?_) (fun hn => absurd (by decide) hn)
    refine wg_iload_n (d109_158 L xs) rfl ?_
    refine wg_if_eq (d109_159 L xs) (t := 182) (by decide) (fun _ => ?_) (fun hn => absurd (by decide) hn)
    exact k0 (by first | (unfold t_ok; rw [bI_f (b := t_name (gl l) 0 (t_end l)) (by omega), Bool.false_and]) | (unfold t_ok; rw [if_neg (by decide), if_neg (by decide), if_neg (by decide), decide_eq_false (show ¬ t_end l = l.length by omega), Bool.and_false])) _ s (mfr.rf s [9] [])
  · refine wg_iload_n (d109_78 L xs) rfl ?_
    refine wg_iconst (d109_79 L xs) (x := 2) (by decide) ?_
    refine wg_icmp_le (d109_80 L xs) (t := 94) (by decide) (fun hp => absurd hp (by decide)) (fun _ => ?_)
    refine wg_iload_n (d109_83 L xs) rfl ?_
    refine wg_aload_n (d109_84 L xs) rfl ?_
    refine wg_get (d109_85 L xs) (kd := 1) (cj := 9) (k0 := 1) rfl (Or.inl rfl) (by decide) rfl rfl ?_
    refine wg_top (y := (nI l.length)) hn ?_
    refine wn_icmp_ne (d109_88 L xs) (x := (t_end l)) (y := l.length) (by omega) (by omega) (t := 108) (by decide) (fun h5 => ?_) (fun h5 => ?_)
    · refine wg_iconst (d109_108 L xs) (x := 0) (by decide) ?_
      refine wg_istore_n (d109_109 L xs) (ls' := [some (.ref 141), some (.int 3), some (.int (nI (t_end l))), some (.int 0), none, none]) (Nat.le_of_ble_eq_true rfl) rfl ?_
      refine wg_iconst (d109_110 L xs) (x := 0) (by decide) ?_
      refine wg_istore (d109_111 L xs) (ls' := [some (.ref 141), some (.int 3), some (.int (nI (t_end l))), some (.int 0), some (.int 0), none]) (Nat.le_of_ble_eq_true rfl) rfl ?_
      refine wg_iload_n (d109_113 L xs) rfl ?_
      refine wg_if_eq (d109_114 L xs) (t := 158) (by decide) (fun _ => ?_) (fun hn => absurd (by decide) hn)
      refine wg_iload_n (d109_158 L xs) rfl ?_
      refine wg_if_eq (d109_159 L xs) (t := 182) (by decide) (fun _ => ?_) (fun hn => absurd (by decide) hn)
      exact k0 (by first | (unfold t_ok; rw [bI_f (b := t_name (gl l) 0 (t_end l)) (by omega), Bool.false_and]) | (unfold t_ok; rw [if_neg (by decide), if_neg (by decide), if_neg (by decide), decide_eq_false (show ¬ t_end l = l.length by omega), Bool.and_false])) _ s (mfr.rf s [9] [])
    · refine wg_goto (d109_91 L xs) (t := 104) (by decide) ?_
      refine wg_iconst (d109_104 L xs) (x := 1) (by decide) ?_
      refine wg_goto (d109_105 L xs) (t := 109) (by decide) ?_
      refine wg_istore_n (d109_109 L xs) (ls' := [some (.ref 141), some (.int 3), some (.int (nI (t_end l))), some (.int 1), none, none]) (Nat.le_of_ble_eq_true rfl) rfl ?_
      refine wg_iconst (d109_110 L xs) (x := 0) (by decide) ?_
      refine wg_istore (d109_111 L xs) (ls' := [some (.ref 141), some (.int 3), some (.int (nI (t_end l))), some (.int 1), some (.int 0), none]) (Nat.le_of_ble_eq_true rfl) rfl ?_
      refine wg_iload_n (d109_113 L xs) rfl ?_
      refine wg_if_eq (d109_114 L xs) (t := 158) (by decide) (fun hp => absurd hp (by decide)) (fun _ => ?_)
      refine wg_iload_n (d109_117 L xs) rfl ?_
      refine wg_if_ne (d109_118 L xs) (t := 158) (by decide) (fun _ => ?_) (fun hn => absurd (by decide) hn)
      refine wg_iload_n (d109_158 L xs) rfl ?_
      refine wg_if_eq (d109_159 L xs) (t := 182) (by decide) (fun hp => absurd hp (by decide)) (fun _ => ?_)
      refine wg_iload_n (d109_162 L xs) rfl ?_
      refine wg_iconst (d109_163 L xs) (x := 1) (by decide) ?_
      refine wg_icmp_ne (d109_164 L xs) (t := 182) (by decide) (fun _ => ?_) (fun hn => absurd (by decide) hn)
      exact k1 (by unfold t_ok; rw [bI_t (b := t_name (gl l) 0 (t_end l)) (by omega), Bool.true_and, if_neg (by decide), if_neg (by decide), if_neg (by decide), decide_eq_true (show t_end l = l.length by omega)]) s (mfr.rf s [9] [])
theorem md_row_k4 (hn : s.1 141 1 = nI l.length) (hm : holdA s 142 0 l) (h100 : l.length ≤ 100) (k0 : t_ok l 4 = false → ∀ (x : Int32) (s' : mg_s), mfr s s' [9] [] → wp L xs (d + 3) 109 182 [some (.ref 141), some (.int 4), some (.int (nI (t_end l))), some (.int 0), some (.int x), none] [] s' Q) (k1 : t_ok l 4 = true → ∀ s', mfr s s' [9] [] → wp L xs (d + 3) 109 182 [some (.ref 141), some (.int 4), some (.int (nI (t_end l))), some (.int 1), some (.int (t_adr l 4 (t_end l))), none] [] s' Q) : wp L xs (d + 3) 109 66 [some (.ref 141), some (.int 4), some (.int (nI (t_end l))), none, none, none] [] s Q := by
  have hv : ∀ j, j < l.length → s.2.1 142 j = nI (gl l j) ∧ gl l j < 65536 := fun j hj => ⟨by have := hm.2 j hj; rwa [Nat.zero_add] at this, by have := gl_lt hm.1 j; omega⟩
  have hel : t_end l ≤ l.length := by have := (f_find_s (g := gl l) (c := 32) (l.length - 0) 0).2.1; unfold t_end; omega
  have hbn := bI_lt (t_name (gl l) 0 (t_end l))
  have hbm := bI_lt (t_name (gl l) (t_end l + 1) l.length)
  refine wg_aload_n (d109_66 L xs) rfl ?_
  refine wg_get (d109_67 L xs) (kd := 1) (cj := 9) (k0 := 2) rfl (Or.inl rfl) (by decide) rfl rfl ?_
  refine wg_iconst (d109_70 L xs) (x := 0) (by decide) ?_
  refine wg_iload_n (d109_71 L xs) rfl ?_
  refine wg_invs (d109_72 L xs) (kd := 6) (mj := 110) (n := 3) rfl (Or.inl rfl) (ys := [.int (nI (t_end l)), .int 0, .ref 142]) (r := []) rfl rfl (Nat.le_of_ble_eq_true rfl) (md_isName (q := 142) (N := 100) (fr := 0) (to := (t_end l)) (g := gl l) isA_all.1 (fun k hk => hv k (by omega)) (by omega) (by decide) (Nat.zero_le _)) ?_
  rintro _ _ ⟨rfl, rfl⟩
  refine wn_if_eq (d109_75 L xs) (x := bI (t_name (gl l) 0 (t_end l))) (by omega) (t := 108) (by decide) (fun h1 => ?_) (fun h1 => ?_)
  · refine wg_iconst (d109_108 L xs) (x := 0) (by decide) ?_
    refine wg_istore_n (d109_109 L xs) (ls' := [some (.ref 141), some (.int 4), some (.int (nI (t_end l))), some (.int 0), none, none]) (Nat.le_of_ble_eq_true rfl) rfl ?_
    refine wg_iconst (d109_110 L xs) (x := 0) (by decide) ?_
    refine wg_istore (d109_111 L xs) (ls' := [some (.ref 141), some (.int 4), some (.int (nI (t_end l))), some (.int 0), some (.int 0), none]) (Nat.le_of_ble_eq_true rfl) rfl ?_
    refine wg_iload_n (d109_113 L xs) rfl ?_
    refine wg_if_eq (d109_114 L xs) (t := 158) (by decide) (fun _ => ?_) (fun hn => absurd (by decide) hn)
    refine wg_iload_n (d109_158 L xs) rfl ?_
    refine wg_if_eq (d109_159 L xs) (t := 182) (by decide) (fun _ => ?_) (fun hn => absurd (by decide) hn)
    exact k0 (by first | (unfold t_ok; rw [bI_f (b := t_name (gl l) 0 (t_end l)) (by omega), Bool.false_and]) | (unfold t_ok; rw [if_neg (by decide), if_neg (by decide), if_neg (by decide), decide_eq_false (show ¬ t_end l = l.length by omega), Bool.and_false])) _ s (mfr.rf s [9] [])
  · refine wg_iload_n (d109_78 L xs) rfl ?_
    refine wg_iconst (d109_79 L xs) (x := 2) (by decide) ?_
    refine wg_icmp_le (d109_80 L xs) (t := 94) (by decide) (fun hp => absurd hp (by decide)) (fun _ => ?_)
    refine wg_iload_n (d109_83 L xs) rfl ?_
    refine wg_aload_n (d109_84 L xs) rfl ?_
    refine wg_get (d109_85 L xs) (kd := 1) (cj := 9) (k0 := 1) rfl (Or.inl rfl) (by decide) rfl rfl ?_
    refine wg_top (y := (nI l.length)) hn ?_
    refine wn_icmp_ne (d109_88 L xs) (x := (t_end l)) (y := l.length) (by omega) (by omega) (t := 108) (by decide) (fun h5 => ?_) (fun h5 => ?_)
    · refine wg_iconst (d109_108 L xs) (x := 0) (by decide) ?_
      refine wg_istore_n (d109_109 L xs) (ls' := [some (.ref 141), some (.int 4), some (.int (nI (t_end l))), some (.int 0), none, none]) (Nat.le_of_ble_eq_true rfl) rfl ?_
      refine wg_iconst (d109_110 L xs) (x := 0) (by decide) ?_
      refine wg_istore (d109_111 L xs) (ls' := [some (.ref 141), some (.int 4), some (.int (nI (t_end l))), some (.int 0), some (.int 0), none]) (Nat.le_of_ble_eq_true rfl) rfl ?_
      refine wg_iload_n (d109_113 L xs) rfl ?_
      refine wg_if_eq (d109_114 L xs) (t := 158) (by decide) (fun _ => ?_) (fun hn => absurd (by decide) hn)
      refine wg_iload_n (d109_158 L xs) rfl ?_
      refine wg_if_eq (d109_159 L xs) (t := 182) (by decide) (fun _ => ?_) (fun hn => absurd (by decide) hn)
      exact k0 (by first | (unfold t_ok; rw [bI_f (b := t_name (gl l) 0 (t_end l)) (by omega), Bool.false_and]) | (unfold t_ok; rw [if_neg (by decide), if_neg (by decide), if_neg (by decide), decide_eq_false (show ¬ t_end l = l.length by omega), Bool.and_false])) _ s (mfr.rf s [9] [])
    · refine wg_goto (d109_91 L xs) (t := 104) (by decide) ?_
      refine wg_iconst (d109_104 L xs) (x := 1) (by decide) ?_
      refine wg_goto (d109_105 L xs) (t := 109) (by decide) ?_
      refine wg_istore_n (d109_109 L xs) (ls' := [some (.ref 141), some (.int 4), some (.int (nI (t_end l))), some (.int 1), none, none]) (Nat.le_of_ble_eq_true rfl) rfl ?_
      refine wg_iconst (d109_110 L xs) (x := 0) (by decide) ?_
      refine wg_istore (d109_111 L xs) (ls' := [some (.ref 141), some (.int 4), some (.int (nI (t_end l))), some (.int 1), some (.int 0), none]) (Nat.le_of_ble_eq_true rfl) rfl ?_
      refine wg_iload_n (d109_113 L xs) rfl ?_
      refine wg_if_eq (d109_114 L xs) (t := 158) (by decide) (fun hp => absurd hp (by decide)) (fun _ => ?_)
      refine wg_iload_n (d109_117 L xs) rfl ?_
      refine wg_if_ne (d109_118 L xs) (t := 158) (by decide) (fun _ => ?_) (fun hn => absurd (by decide) hn)
      refine wg_iload_n (d109_158 L xs) rfl ?_
      refine wg_if_eq (d109_159 L xs) (t := 182) (by decide) (fun hp => absurd hp (by decide)) (fun _ => ?_)
      refine wg_iload_n (d109_162 L xs) rfl ?_
      refine wg_iconst (d109_163 L xs) (x := 1) (by decide) ?_
      refine wg_icmp_ne (d109_164 L xs) (t := 182) (by decide) (fun _ => ?_) (fun hn => absurd (by decide) hn)
      exact k1 (by unfold t_ok; rw [bI_t (b := t_name (gl l) 0 (t_end l)) (by omega), Bool.true_and, if_neg (by decide), if_neg (by decide), if_neg (by decide), decide_eq_true (show t_end l = l.length by omega)]) s (mfr.rf s [9] [])
end MR3
