/-! the reference: mails -/
theorem d147_0 (L : Nat) (xs : Nat → Int32) : decode (ax_code (mgT L xs) 147) 0 = .ok (.aload_n 0, 1) := by
  show decode prog_11_method_43_code 0 = _
  decide +kernel
theorem d147_1 (L : Nat) (xs : Nat → Int32) : decode (ax_code (mgT L xs) 147) 1 = .ok (.iconst 1, 1) := by
  show decode prog_11_method_43_code 1 = _
  decide +kernel
theorem d147_2 (L : Nat) (xs : Nat → Int32) : decode (ax_code (mgT L xs) 147) 2 = .ok (.invokevirtual 212, 3) := by
  show decode prog_11_method_43_code 2 = _
  decide +kernel
theorem d147_5 (L : Nat) (xs : Nat → Int32) : decode (ax_code (mgT L xs) 147) 5 = .ok (.ifCond .ne 10, 3) := by
  show decode prog_11_method_43_code 5 = _
  decide +kernel
theorem d147_8 (L : Nat) (xs : Nat → Int32) : decode (ax_code (mgT L xs) 147) 8 = .ok (.aload_n 0, 1) := by
  show decode prog_11_method_43_code 8 = _
  decide +kernel
theorem d147_9 (L : Nat) (xs : Nat → Int32) : decode (ax_code (mgT L xs) 147) 9 = .ok (.iconst 5, 1) := by
  show decode prog_11_method_43_code 9 = _
  decide +kernel
theorem d147_10 (L : Nat) (xs : Nat → Int32) : decode (ax_code (mgT L xs) 147) 10 = .ok (.invokevirtual 215, 3) := by
  show decode prog_11_method_43_code 10 = _
  decide +kernel
theorem d147_13 (L : Nat) (xs : Nat → Int32) : decode (ax_code (mgT L xs) 147) 13 = .ok (.iconst (-1), 1) := by
  show decode prog_11_method_43_code 13 = _
  decide +kernel
theorem d147_14 (L : Nat) (xs : Nat → Int32) : decode (ax_code (mgT L xs) 147) 14 = .ok (.ireturn, 1) := by
  show decode prog_11_method_43_code 14 = _
  decide +kernel
theorem d147_15 (L : Nat) (xs : Nat → Int32) : decode (ax_code (mgT L xs) 147) 15 = .ok (.aload_n 0, 1) := by
  show decode prog_11_method_43_code 15 = _
  decide +kernel
theorem d147_16 (L : Nat) (xs : Nat → Int32) : decode (ax_code (mgT L xs) 147) 16 = .ok (.getfield 124, 3) := by
  show decode prog_11_method_43_code 16 = _
  decide +kernel
theorem d147_19 (L : Nat) (xs : Nat → Int32) : decode (ax_code (mgT L xs) 147) 19 = .ok (.ifCond .ne 8, 3) := by
  show decode prog_11_method_43_code 19 = _
  decide +kernel
theorem d147_22 (L : Nat) (xs : Nat → Int32) : decode (ax_code (mgT L xs) 147) 22 = .ok (.aload_n 0, 1) := by
  show decode prog_11_method_43_code 22 = _
  decide +kernel
theorem d147_23 (L : Nat) (xs : Nat → Int32) : decode (ax_code (mgT L xs) 147) 23 = .ok (.invokevirtual 230, 3) := by
  show decode prog_11_method_43_code 23 = _
  decide +kernel
theorem d147_26 (L : Nat) (xs : Nat → Int32) : decode (ax_code (mgT L xs) 147) 26 = .ok (.ireturn, 1) := by
  show decode prog_11_method_43_code 26 = _
  decide +kernel
theorem d147_27 (L : Nat) (xs : Nat → Int32) : decode (ax_code (mgT L xs) 147) 27 = .ok (.aload_n 0, 1) := by
  show decode prog_11_method_43_code 27 = _
  decide +kernel
theorem d147_28 (L : Nat) (xs : Nat → Int32) : decode (ax_code (mgT L xs) 147) 28 = .ok (.getfield 124, 3) := by
  show decode prog_11_method_43_code 28 = _
  decide +kernel
theorem d147_31 (L : Nat) (xs : Nat → Int32) : decode (ax_code (mgT L xs) 147) 31 = .ok (.bipush 10, 2) := by
  show decode prog_11_method_43_code 31 = _
  decide +kernel
theorem d147_33 (L : Nat) (xs : Nat → Int32) : decode (ax_code (mgT L xs) 147) 33 = .ok (.if_icmp .le 8, 3) := by
  show decode prog_11_method_43_code 33 = _
  decide +kernel
theorem d147_36 (L : Nat) (xs : Nat → Int32) : decode (ax_code (mgT L xs) 147) 36 = .ok (.bipush 10, 2) := by
  show decode prog_11_method_43_code 36 = _
  decide +kernel
theorem d147_38 (L : Nat) (xs : Nat → Int32) : decode (ax_code (mgT L xs) 147) 38 = .ok (.goto 7, 3) := by
  show decode prog_11_method_43_code 38 = _
  decide +kernel
theorem d147_41 (L : Nat) (xs : Nat → Int32) : decode (ax_code (mgT L xs) 147) 41 = .ok (.aload_n 0, 1) := by
  show decode prog_11_method_43_code 41 = _
  decide +kernel
theorem d147_42 (L : Nat) (xs : Nat → Int32) : decode (ax_code (mgT L xs) 147) 42 = .ok (.getfield 124, 3) := by
  show decode prog_11_method_43_code 42 = _
  decide +kernel
theorem d147_45 (L : Nat) (xs : Nat → Int32) : decode (ax_code (mgT L xs) 147) 45 = .ok (.istore_n 2, 1) := by
  show decode prog_11_method_43_code 45 = _
  decide +kernel
theorem d147_46 (L : Nat) (xs : Nat → Int32) : decode (ax_code (mgT L xs) 147) 46 = .ok (.iconst 0, 1) := by
  show decode prog_11_method_43_code 46 = _
  decide +kernel
theorem d147_47 (L : Nat) (xs : Nat → Int32) : decode (ax_code (mgT L xs) 147) 47 = .ok (.istore_n 3, 1) := by
  show decode prog_11_method_43_code 47 = _
  decide +kernel
theorem d147_48 (L : Nat) (xs : Nat → Int32) : decode (ax_code (mgT L xs) 147) 48 = .ok (.iconst 0, 1) := by
  show decode prog_11_method_43_code 48 = _
  decide +kernel
theorem d147_49 (L : Nat) (xs : Nat → Int32) : decode (ax_code (mgT L xs) 147) 49 = .ok (.istore 4, 2) := by
  show decode prog_11_method_43_code 49 = _
  decide +kernel
theorem d147_51 (L : Nat) (xs : Nat → Int32) : decode (ax_code (mgT L xs) 147) 51 = .ok (.iconst 0, 1) := by
  show decode prog_11_method_43_code 51 = _
  decide +kernel
theorem d147_52 (L : Nat) (xs : Nat → Int32) : decode (ax_code (mgT L xs) 147) 52 = .ok (.istore 5, 2) := by
  show decode prog_11_method_43_code 52 = _
  decide +kernel
theorem d147_54 (L : Nat) (xs : Nat → Int32) : decode (ax_code (mgT L xs) 147) 54 = .ok (.iload 5, 2) := by
  show decode prog_11_method_43_code 54 = _
  decide +kernel
theorem d147_56 (L : Nat) (xs : Nat → Int32) : decode (ax_code (mgT L xs) 147) 56 = .ok (.aload_n 0, 1) := by
  show decode prog_11_method_43_code 56 = _
  decide +kernel
theorem d147_57 (L : Nat) (xs : Nat → Int32) : decode (ax_code (mgT L xs) 147) 57 = .ok (.getfield 111, 3) := by
  show decode prog_11_method_43_code 57 = _
  decide +kernel
theorem d147_60 (L : Nat) (xs : Nat → Int32) : decode (ax_code (mgT L xs) 147) 60 = .ok (.if_icmp .ge 112, 3) := by
  show decode prog_11_method_43_code 60 = _
  decide +kernel
theorem d147_63 (L : Nat) (xs : Nat → Int32) : decode (ax_code (mgT L xs) 147) 63 = .ok (.iload_n 3, 1) := by
  show decode prog_11_method_43_code 63 = _
  decide +kernel
theorem d147_64 (L : Nat) (xs : Nat → Int32) : decode (ax_code (mgT L xs) 147) 64 = .ok (.iload_n 2, 1) := by
  show decode prog_11_method_43_code 64 = _
  decide +kernel
theorem d147_65 (L : Nat) (xs : Nat → Int32) : decode (ax_code (mgT L xs) 147) 65 = .ok (.if_icmp .ge 107, 3) := by
  show decode prog_11_method_43_code 65 = _
  decide +kernel
theorem d147_68 (L : Nat) (xs : Nat → Int32) : decode (ax_code (mgT L xs) 147) 68 = .ok (.iload 4, 2) := by
  show decode prog_11_method_43_code 68 = _
  decide +kernel
theorem d147_70 (L : Nat) (xs : Nat → Int32) : decode (ax_code (mgT L xs) 147) 70 = .ok (.ifCond .ne 102, 3) := by
  show decode prog_11_method_43_code 70 = _
  decide +kernel
theorem d147_73 (L : Nat) (xs : Nat → Int32) : decode (ax_code (mgT L xs) 147) 73 = .ok (.aload_n 0, 1) := by
  show decode prog_11_method_43_code 73 = _
  decide +kernel
theorem d147_74 (L : Nat) (xs : Nat → Int32) : decode (ax_code (mgT L xs) 147) 74 = .ok (.iload 5, 2) := by
  show decode prog_11_method_43_code 74 = _
  decide +kernel
theorem d147_76 (L : Nat) (xs : Nat → Int32) : decode (ax_code (mgT L xs) 147) 76 = .ok (.invokevirtual 240, 3) := by
  show decode prog_11_method_43_code 76 = _
  decide +kernel
theorem d147_79 (L : Nat) (xs : Nat → Int32) : decode (ax_code (mgT L xs) 147) 79 = .ok (.ifCond .eq 87, 3) := by
  show decode prog_11_method_43_code 79 = _
  decide +kernel
theorem d147_82 (L : Nat) (xs : Nat → Int32) : decode (ax_code (mgT L xs) 147) 82 = .ok (.iinc 3 1, 3) := by
  show decode prog_11_method_43_code 82 = _
  decide +kernel
theorem d147_85 (L : Nat) (xs : Nat → Int32) : decode (ax_code (mgT L xs) 147) 85 = .ok (.aload_n 0, 1) := by
  show decode prog_11_method_43_code 85 = _
  decide +kernel
theorem d147_86 (L : Nat) (xs : Nat → Int32) : decode (ax_code (mgT L xs) 147) 86 = .ok (.getfield 22, 3) := by
  show decode prog_11_method_43_code 86 = _
  decide +kernel
theorem d147_89 (L : Nat) (xs : Nat → Int32) : decode (ax_code (mgT L xs) 147) 89 = .ok (.iload 5, 2) := by
  show decode prog_11_method_43_code 89 = _
  decide +kernel
theorem d147_91 (L : Nat) (xs : Nat → Int32) : decode (ax_code (mgT L xs) 147) 91 = .ok (.iaload, 1) := by
  show decode prog_11_method_43_code 91 = _
  decide +kernel
theorem d147_92 (L : Nat) (xs : Nat → Int32) : decode (ax_code (mgT L xs) 147) 92 = .ok (.iconst 1, 1) := by
  show decode prog_11_method_43_code 92 = _
  decide +kernel
theorem d147_93 (L : Nat) (xs : Nat → Int32) : decode (ax_code (mgT L xs) 147) 93 = .ok (.iadd, 1) := by
  show decode prog_11_method_43_code 93 = _
  decide +kernel
theorem d147_94 (L : Nat) (xs : Nat → Int32) : decode (ax_code (mgT L xs) 147) 94 = .ok (.istore 6, 2) := by
  show decode prog_11_method_43_code 94 = _
  decide +kernel
theorem d147_96 (L : Nat) (xs : Nat → Int32) : decode (ax_code (mgT L xs) 147) 96 = .ok (.aload_n 0, 1) := by
  show decode prog_11_method_43_code 96 = _
  decide +kernel
theorem d147_97 (L : Nat) (xs : Nat → Int32) : decode (ax_code (mgT L xs) 147) 97 = .ok (.invokevirtual 243, 3) := by
  show decode prog_11_method_43_code 97 = _
  decide +kernel
theorem d147_100 (L : Nat) (xs : Nat → Int32) : decode (ax_code (mgT L xs) 147) 100 = .ok (.aload_n 0, 1) := by
  show decode prog_11_method_43_code 100 = _
  decide +kernel
theorem d147_101 (L : Nat) (xs : Nat → Int32) : decode (ax_code (mgT L xs) 147) 101 = .ok (.aload_n 0, 1) := by
  show decode prog_11_method_43_code 101 = _
  decide +kernel
theorem d147_102 (L : Nat) (xs : Nat → Int32) : decode (ax_code (mgT L xs) 147) 102 = .ok (.getfield 19, 3) := by
  show decode prog_11_method_43_code 102 = _
  decide +kernel
theorem d147_105 (L : Nat) (xs : Nat → Int32) : decode (ax_code (mgT L xs) 147) 105 = .ok (.iload 5, 2) := by
  show decode prog_11_method_43_code 105 = _
  decide +kernel
theorem d147_107 (L : Nat) (xs : Nat → Int32) : decode (ax_code (mgT L xs) 147) 107 = .ok (.iaload, 1) := by
  show decode prog_11_method_43_code 107 = _
  decide +kernel
theorem d147_108 (L : Nat) (xs : Nat → Int32) : decode (ax_code (mgT L xs) 147) 108 = .ok (.iload 6, 2) := by
  show decode prog_11_method_43_code 108 = _
  decide +kernel
theorem d147_110 (L : Nat) (xs : Nat → Int32) : decode (ax_code (mgT L xs) 147) 110 = .ok (.isub, 1) := by
  show decode prog_11_method_43_code 110 = _
  decide +kernel
theorem d147_111 (L : Nat) (xs : Nat → Int32) : decode (ax_code (mgT L xs) 147) 111 = .ok (.putfield 114, 3) := by
  show decode prog_11_method_43_code 111 = _
  decide +kernel
theorem d147_114 (L : Nat) (xs : Nat → Int32) : decode (ax_code (mgT L xs) 147) 114 = .ok (.iconst 0, 1) := by
  show decode prog_11_method_43_code 114 = _
  decide +kernel
theorem d147_115 (L : Nat) (xs : Nat → Int32) : decode (ax_code (mgT L xs) 147) 115 = .ok (.istore 7, 2) := by
  show decode prog_11_method_43_code 115 = _
  decide +kernel
theorem d147_117 (L : Nat) (xs : Nat → Int32) : decode (ax_code (mgT L xs) 147) 117 = .ok (.iload 7, 2) := by
  show decode prog_11_method_43_code 117 = _
  decide +kernel
theorem d147_119 (L : Nat) (xs : Nat → Int32) : decode (ax_code (mgT L xs) 147) 119 = .ok (.aload_n 0, 1) := by
  show decode prog_11_method_43_code 119 = _
  decide +kernel
theorem d147_120 (L : Nat) (xs : Nat → Int32) : decode (ax_code (mgT L xs) 147) 120 = .ok (.getfield 114, 3) := by
  show decode prog_11_method_43_code 120 = _
  decide +kernel
theorem d147_123 (L : Nat) (xs : Nat → Int32) : decode (ax_code (mgT L xs) 147) 123 = .ok (.if_icmp .ge 32, 3) := by
  show decode prog_11_method_43_code 123 = _
  decide +kernel
theorem d147_126 (L : Nat) (xs : Nat → Int32) : decode (ax_code (mgT L xs) 147) 126 = .ok (.aload_n 0, 1) := by
  show decode prog_11_method_43_code 126 = _
  decide +kernel
theorem d147_127 (L : Nat) (xs : Nat → Int32) : decode (ax_code (mgT L xs) 147) 127 = .ok (.getfield 28, 3) := by
  show decode prog_11_method_43_code 127 = _
  decide +kernel
theorem d147_130 (L : Nat) (xs : Nat → Int32) : decode (ax_code (mgT L xs) 147) 130 = .ok (.iload 7, 2) := by
  show decode prog_11_method_43_code 130 = _
  decide +kernel
theorem d147_132 (L : Nat) (xs : Nat → Int32) : decode (ax_code (mgT L xs) 147) 132 = .ok (.aload_n 0, 1) := by
  show decode prog_11_method_43_code 132 = _
  decide +kernel
theorem d147_133 (L : Nat) (xs : Nat → Int32) : decode (ax_code (mgT L xs) 147) 133 = .ok (.getfield 16, 3) := by
  show decode prog_11_method_43_code 133 = _
  decide +kernel
theorem d147_136 (L : Nat) (xs : Nat → Int32) : decode (ax_code (mgT L xs) 147) 136 = .ok (.bipush 100, 2) := by
  show decode prog_11_method_43_code 136 = _
  decide +kernel
theorem d147_138 (L : Nat) (xs : Nat → Int32) : decode (ax_code (mgT L xs) 147) 138 = .ok (.iload 5, 2) := by
  show decode prog_11_method_43_code 138 = _
  decide +kernel
theorem d147_140 (L : Nat) (xs : Nat → Int32) : decode (ax_code (mgT L xs) 147) 140 = .ok (.imul, 1) := by
  show decode prog_11_method_43_code 140 = _
  decide +kernel
theorem d147_141 (L : Nat) (xs : Nat → Int32) : decode (ax_code (mgT L xs) 147) 141 = .ok (.iload 6, 2) := by
  show decode prog_11_method_43_code 141 = _
  decide +kernel
theorem d147_143 (L : Nat) (xs : Nat → Int32) : decode (ax_code (mgT L xs) 147) 143 = .ok (.iadd, 1) := by
  show decode prog_11_method_43_code 143 = _
  decide +kernel
theorem d147_144 (L : Nat) (xs : Nat → Int32) : decode (ax_code (mgT L xs) 147) 144 = .ok (.iload 7, 2) := by
  show decode prog_11_method_43_code 144 = _
  decide +kernel
theorem d147_146 (L : Nat) (xs : Nat → Int32) : decode (ax_code (mgT L xs) 147) 146 = .ok (.iadd, 1) := by
  show decode prog_11_method_43_code 146 = _
  decide +kernel
theorem d147_147 (L : Nat) (xs : Nat → Int32) : decode (ax_code (mgT L xs) 147) 147 = .ok (.iaload, 1) := by
  show decode prog_11_method_43_code 147 = _
  decide +kernel
theorem d147_148 (L : Nat) (xs : Nat → Int32) : decode (ax_code (mgT L xs) 147) 148 = .ok (.iastore, 1) := by
  show decode prog_11_method_43_code 148 = _
  decide +kernel
theorem d147_149 (L : Nat) (xs : Nat → Int32) : decode (ax_code (mgT L xs) 147) 149 = .ok (.iinc 7 1, 3) := by
  show decode prog_11_method_43_code 149 = _
  decide +kernel
theorem d147_152 (L : Nat) (xs : Nat → Int32) : decode (ax_code (mgT L xs) 147) 152 = .ok (.goto (-35), 3) := by
  show decode prog_11_method_43_code 152 = _
  decide +kernel
theorem d147_155 (L : Nat) (xs : Nat → Int32) : decode (ax_code (mgT L xs) 147) 155 = .ok (.aload_n 0, 1) := by
  show decode prog_11_method_43_code 155 = _
  decide +kernel
theorem d147_156 (L : Nat) (xs : Nat → Int32) : decode (ax_code (mgT L xs) 147) 156 = .ok (.iload_n 1, 1) := by
  show decode prog_11_method_43_code 156 = _
  decide +kernel
theorem d147_157 (L : Nat) (xs : Nat → Int32) : decode (ax_code (mgT L xs) 147) 157 = .ok (.invokevirtual 246, 3) := by
  show decode prog_11_method_43_code 157 = _
  decide +kernel
theorem d147_160 (L : Nat) (xs : Nat → Int32) : decode (ax_code (mgT L xs) 147) 160 = .ok (.istore 4, 2) := by
  show decode prog_11_method_43_code 160 = _
  decide +kernel
theorem d147_162 (L : Nat) (xs : Nat → Int32) : decode (ax_code (mgT L xs) 147) 162 = .ok (.aload_n 0, 1) := by
  show decode prog_11_method_43_code 162 = _
  decide +kernel
theorem d147_163 (L : Nat) (xs : Nat → Int32) : decode (ax_code (mgT L xs) 147) 163 = .ok (.invokevirtual 250, 3) := by
  show decode prog_11_method_43_code 163 = _
  decide +kernel
theorem d147_166 (L : Nat) (xs : Nat → Int32) : decode (ax_code (mgT L xs) 147) 166 = .ok (.iinc 5 1, 3) := by
  show decode prog_11_method_43_code 166 = _
  decide +kernel
theorem d147_169 (L : Nat) (xs : Nat → Int32) : decode (ax_code (mgT L xs) 147) 169 = .ok (.goto (-115), 3) := by
  show decode prog_11_method_43_code 169 = _
  decide +kernel
theorem d147_172 (L : Nat) (xs : Nat → Int32) : decode (ax_code (mgT L xs) 147) 172 = .ok (.iload 4, 2) := by
  show decode prog_11_method_43_code 172 = _
  decide +kernel
theorem d147_174 (L : Nat) (xs : Nat → Int32) : decode (ax_code (mgT L xs) 147) 174 = .ok (.ireturn, 1) := by
  show decode prog_11_method_43_code 174 = _
  decide +kernel
theorem f_mail_no {R : List rowT} {adr : Int32} {m : List Nat} {bits : Nat} {as : List Nat} : ∀ (Rs : List rowT) (k t v : Nat), f_hits m 1 Rs k = [] → f_mail R adr m bits Rs t v as = (0, v, as) := by
  intro Rs
  induction Rs with
  | nil => intro k t v _; rfl
  | cons q Rs ih =>
    intro k t v h
    rw [f_hits] at h
    rw [f_mail]
    by_cases c : q.2.1 = m ∧ q.1 = 1
    · rw [if_pos c] at h; cases h
    · rw [if_neg c] at h
      rw [if_neg (show ¬ (q.1 = 1 ∧ q.2.1 = m) from fun z => c ⟨z.2, z.1⟩), ih (k + 1) t v h]
      split <;> rfl
theorem xm_5 {R : List rowT} {adr : Int32} {nm : List Nat} {bits v : Nat} (h : f_fine nm R = false) : x_mail R adr nm bits v = (5, v, nm) := by
  unfold x_mail; rw [cnt_5 h, if_neg (show ¬ (5 : Nat) = 1 by omega)]
theorem xm_0 {R : List rowT} {adr : Int32} {nm : List Nat} {bits v : Nat} (h : f_fine nm R = true) (h0 : f_hits nm 1 R 0 = []) : x_mail R adr nm bits v = (if 3 ≤ v + 1 then 6 else 0, v + 1, nm) := by
  unfold x_mail; rw [cnt_0 h h0, if_neg (by show ¬ (if 3 ≤ v + 1 then 6 else 0) = 1; split <;> omega)]
theorem xm_1 {R : List rowT} {adr : Int32} {nm : List Nat} {bits v x : Nat} {hs : List Nat} (h : f_fine nm R = true) (h0 : f_hits nm 1 R 0 = x :: hs) : x_mail R adr nm bits v = f_mail R adr nm bits R 0 v nm := by
  unfold x_mail; rw [cnt_1 h h0, if_pos rfl]
theorem xh_v {R : List rowT} {adr : Int32} {m : List Nat} {bits v : Nat} (hv : v ≤ 2) (h : (x_host R adr m bits v).1 = 0) : (x_host R adr m bits v).2 ≤ 2 := (okH (R := R) (adr := adr) (m := m) (bits := bits) hv).2.resolve_left (by omega)
theorem xI_0 : xI 0 = 0 := rfl
theorem xI_1 : xI 1 = 1 := rfl
theorem xI_n {k : Nat} (h0 : ¬ k = 0) (h1 : ¬ k = 1) : xI k = -1 := by unfold xI; rw [if_neg h0, if_neg h1]
theorem xh_5' {R : List rowT} {adr : Int32} {m : List Nat} {bits v : Nat} (h0 : ¬ (x_host R adr m bits v).1 = 0) (h1 : ¬ (x_host R adr m bits v).1 = 1) : 5 ≤ (x_host R adr m bits v).1 := by
  unfold x_host at h0 h1 ⊢
  by_cases c : (v_cnt (f_ask m 0 R 0) v).1 = 1
  · rw [if_pos c] at h0 h1
    have := bI_lt (x_any adr m bits R)
    change ¬ bI (x_any adr m bits R) = 0 at h0
    change ¬ bI (x_any adr m bits R) = 1 at h1
    omega
  · rw [if_neg c] at h0 h1 ⊢
    cases hfa : f_ask m 0 R 0 with
    | none => exact Nat.le_refl _
    | some n =>
      rw [hfa] at h0 c
      by_cases e : n = 0
      · subst e
        by_cases e3 : 3 ≤ v + 1
        · show 5 ≤ (if 3 ≤ v + 1 then 6 else 0); rw [if_pos e3]; omega
        · exact absurd (show (if 3 ≤ v + 1 then 6 else 0) = 0 by rw [if_neg e3]) h0
      · exact absurd (by unfold v_cnt; dsimp only; rw [if_neg e]) c
section KM
variable {L : Nat} {xs : Nat → Int32} {d : Nat} {s : mg_s} {E : ckE} {m : List Nat} {Q : Option Value → mg_s → Prop}
theorem md_mc_l {l : List Nat} {bits last seen r fr : Nat} (hr16 : r < 16) (hfr : fr + l.length ≤ 100) (hcap : l.length ≤ 60) : ∀ (q k : Nat) (s : mg_s), k + q = l.length → s.1 141 10 = nI l.length → holdA s 144 (100 * r + fr) l → (∀ j, j < k → s.2.1 148 (0 + j) = nI (gl l j)) → (∀ s', mfr s s' [] [148] → holdA s' 148 0 l → (∀ j, j < 0 ∨ 0 + l.length ≤ j → s'.2.1 148 j = s.2.1 148 j) → wp L xs (d + 4) 147 155 [some (.ref 141), some (.int (nI bits)), some (.int (nI last)), some (.int (nI seen)), some (.int 0), some (.int (nI r)), some (.int (nI fr)), some (.int (nI l.length))] [] s' Q) → wp L xs (d + 4) 147 117 [some (.ref 141), some (.int (nI bits)), some (.int (nI last)), some (.int (nI seen)), some (.int 0), some (.int (nI r)), some (.int (nI fr)), some (.int (nI k))] [] s Q := by
  intro q
  induction q with
  | zero =>
    intro k s hk h10 hsrc hdst kk
    have hk0 : k = l.length := by omega
    subst hk0
    refine wg_iload (d147_117 L xs) rfl ?_
    refine wg_aload_n (d147_119 L xs) rfl ?_
    refine wg_get (d147_120 L xs) (kd := 1) (cj := 9) (k0 := 10) rfl (Or.inl rfl) (by decide) rfl rfl ?_
    refine wg_top (y := (nI l.length)) h10 ?_
    refine wn_icmp_ge (d147_123 L xs) (x := l.length) (y := l.length) (by omega) (by omega) (t := 155) (by decide) (fun h1 => ?_) (fun h1 => by omega)
    exact kk s (mfr.rf s _ _) ⟨hsrc.1, hdst⟩ (fun _ _ => rfl)
  | succ q ih =>
    intro k s hk h10 hsrc hdst kk
    have hgk := gl_lt hsrc.1 k
    refine wg_iload (d147_117 L xs) rfl ?_
    refine wg_aload_n (d147_119 L xs) rfl ?_
    refine wg_get (d147_120 L xs) (kd := 1) (cj := 9) (k0 := 10) rfl (Or.inl rfl) (by decide) rfl rfl ?_
    refine wg_top (y := (nI l.length)) h10 ?_
    refine wn_icmp_ge (d147_123 L xs) (x := k) (y := l.length) (by omega) (by omega) (t := 155) (by decide) (fun h1 => by omega) (fun h1 => ?_)
    refine wg_aload_n (d147_126 L xs) rfl ?_
    refine wg_get (d147_127 L xs) (kd := 1) (cj := 9) (k0 := 11) rfl (Or.inl rfl) (by decide) rfl rfl ?_
    refine wg_iload (d147_130 L xs) rfl ?_
    refine wg_aload_n (d147_132 L xs) rfl ?_
    refine wg_get (d147_133 L xs) (kd := 1) (cj := 9) (k0 := 5) rfl (Or.inl rfl) (by decide) rfl rfl ?_
    refine wg_bipush (d147_136 L xs) (x := 100) (by decide) ?_
    refine wg_iload (d147_138 L xs) rfl ?_
    refine wg_imul (d147_140 L xs) ?_
    refine wg_top (y := (nI (100 * r))) (pk_mul 100 r) ?_
    refine wg_iload (d147_141 L xs) rfl ?_
    refine wg_iadd (d147_143 L xs) ?_
    refine wg_top (y := (nI ((100 * r) + fr))) (nI_add (100 * r) fr) ?_
    refine wg_iload (d147_144 L xs) rfl ?_
    refine wg_iadd (d147_146 L xs) ?_
    refine wg_top (y := (nI (((100 * r) + fr) + k))) (nI_add ((100 * r) + fr) k) ?_
    refine wg_iald (d147_147 L xs) (n := 1600) (by decide) rfl (vp_in_nI (n := ((100 * r) + fr) + k) (by omega) (by omega)) ?_
    refine wg_top (y := (nI (gl l k))) (by rw [nI_nat (n := ((100 * r) + fr) + k) (by omega)]; exact ((congrArg (s.2.1 144) (show ((100 * r) + fr) + k = 100 * r + fr + k by omega)).trans (hsrc.2 k (by omega)))) ?_
    refine wg_iast (d147_148 L xs) (n := 60) (by decide) rfl (vp_in_nI (n := k) (by omega) (by omega)) rfl ?_
    rw [nI_nat (n := k) (by omega)]
    refine wg_iinc (d147_149 L xs) (y := (nI (k + 1))) (ls' := [some (.ref 141), some (.int (nI bits)), some (.int (nI last)), some (.int (nI seen)), some (.int 0), some (.int (nI r)), some (.int (nI fr)), some (.int (nI (k + 1)))]) rfl (nI_add k 1) rfl ?_
    refine wg_goto (d147_152 L xs) (t := 117) (by decide) ?_
    refine ih (k + 1) _ (by omega) h10 (holdA_A hsrc (by decide)) (fun j hj => ?_) (fun s' m1 m2 m3 => kk s' ((mfr_A s (by decide)).trans m1) m2 (fun j hj => (m3 j hj).trans (mA_ne _ _ (Or.inr (by omega)))))
    by_cases e : j = k
    · subst e; exact (congrArg ((mg_A s 148 j (nI (gl l j))).2.1 148) (show 0 + j = j by omega)).trans (mA_at _ _ _ _)
    · exact (mA_ne _ _ (Or.inr (by omega))).trans (hdst j (by omega))
theorem md_ma_l {bits last H : Nat} {σ : ckS} (hb32 : bits ≤ 32) (hl1 : 1 ≤ m.length) (hl48 : m.length ≤ 48) (hH : (last = 10 ∧ 10 < H) ∨ (last = H ∧ H ≤ 10)) (hH16 : H ≤ 16) (hs10 : σ.1 ≤ 10) : ∀ (Rs : List rowT) (k seen v : Nat) (as : List Nat) (c6 c7 : Option Value) (s : mg_s), E.1.drop k = Rs → k ≤ E.1.length → seen + (f_hits m 1 Rs k).length = H → isE s E → s.1 141 10 = nI m.length → holdA s 148 0 m → isSg s (st_ask σ as v) → v ≤ 2 → wp L xs (d + 4) 147 54 [some (.ref 141), some (.int (nI bits)), some (.int (nI last)), some (.int (nI seen)), some (.int 0), some (.int (nI k)), c6, c7] [] s (fun r s' => r = some (.int (xI (f_mail E.1 E.2.1 m bits Rs seen v as).1)) ∧ mfr s s' [10, 12, 14, 15, 23, 36, 38] [148, 149, 150, 164] ∧ hPost s s' (st_ask σ (f_mail E.1 E.2.1 m bits Rs seen v as).2.2 (f_mail E.1 E.2.1 m bits Rs seen v as).2.1) (f_mail E.1 E.2.1 m bits Rs seen v as).1) := by
  intro Rs
  induction Rs with
  | nil =>
    intro k seen v as c6 c7 s hk hkl hsn hE h10 hnm hsg hv2
    have hR16 := hE.1.2.1
    have hkL : E.1.length ≤ k := List.drop_eq_nil_iff.mp hk
    refine wg_iload (d147_54 L xs) rfl ?_
    refine wg_aload_n (d147_56 L xs) rfl ?_
    refine wg_get (d147_57 L xs) (kd := 1) (cj := 9) (k0 := 3) rfl (Or.inl rfl) (by decide) rfl rfl ?_
    refine wg_top (y := (nI E.1.length)) hE.1.1 ?_
    refine wn_icmp_ge (d147_60 L xs) (x := k) (y := E.1.length) (by omega) (by omega) (t := 172) (by decide) (fun h1 => ?_) (fun h1 => by omega)
    refine wg_iload (d147_172 L xs) rfl ?_
    exact wg_iret (d147_174 L xs) rfl rfl ⟨rfl, mfr.rf s _ _, hsg, fun _ => rfl, fun q => absurd q (by show ¬ 5 ≤ 0; omega)⟩
  | cons q Rs ih =>
    intro k seen v as c6 c7 s hk hkl hsn hE h10 hnm hsg hv2
    have hR16 := hE.1.2.1
    have hq : E.1[k]? = some q := by
      have : (E.1.drop k)[0]? = some q := by rw [hk]; rfl
      rw [List.getElem?_drop] at this; exact this
    have hk2 : E.1.drop (k + 1) = Rs := by rw [← List.tail_drop, hk]; rfl
    have hkL : k < E.1.length := (List.getElem?_eq_some_iff.mp hq).1
    obtain ⟨hqM, hqo⟩ := hE.1.2.2 k q hq
    have hqn := t_name_len hqo.2.1
    by_cases hsl : last ≤ seen
    · have hF : f_mail E.1 E.2.1 m bits (q :: Rs) seen v as = (0, v, as) := by
        rcases hH with hh | hh
        · exact f_mail_10 (by omega) _
        · exact f_mail_no _ k _ _ (List.eq_nil_of_length_eq_zero (by omega))
      rw [hF]
      refine wg_iload (d147_54 L xs) rfl ?_
      refine wg_aload_n (d147_56 L xs) rfl ?_
      refine wg_get (d147_57 L xs) (kd := 1) (cj := 9) (k0 := 3) rfl (Or.inl rfl) (by decide) rfl rfl ?_
      refine wg_top (y := (nI E.1.length)) hE.1.1 ?_
      refine wn_icmp_ge (d147_60 L xs) (x := k) (y := E.1.length) (by omega) (by omega) (t := 172) (by decide) (fun h1 => by omega) (fun h1 => ?_)
      refine wg_iload_n (d147_63 L xs) rfl ?_
      refine wg_iload_n (d147_64 L xs) rfl ?_
      refine wn_icmp_ge (d147_65 L xs) (x := seen) (y := last) (by omega) (by omega) (t := 172) (by decide) (fun h2 => ?_) (fun h2 => by omega)
      refine wg_iload (d147_172 L xs) rfl ?_
      exact wg_iret (d147_174 L xs) rfl rfl ⟨rfl, mfr.rf s _ _, hsg, fun _ => rfl, fun q => absurd q (by show ¬ 5 ≤ 0; omega)⟩
    · have hs10' : seen < 10 := by omega
      by_cases hc : q.2.1 = m ∧ q.1 = 1
      · have hcv : bI (decide (q.1 = 1) && decide (q.2.1 = m)) = 1 := by rw [decide_eq_true hc.1, decide_eq_true hc.2]; rfl
        have hd := t_name_len (hqo.2.2.2.2.1 hc.2)
        have hsz : rowsz q = q.2.1.length + 1 + q.2.2.1.length := if_pos (by omega)
        have h100 := hqo.2.2.2.2.2.1
        rw [f_hits, if_pos hc] at hsn
        change seen + ((f_hits m 1 Rs (k + 1)).length + 1) = H at hsn
        rw [f_mail, if_neg (by omega), if_pos (show q.1 = 1 ∧ q.2.1 = m from ⟨hc.2, hc.1⟩)]
        generalize hX : x_host E.1 E.2.1 q.2.2.1 bits v = X
        refine wg_iload (d147_54 L xs) rfl ?_
        refine wg_aload_n (d147_56 L xs) rfl ?_
        refine wg_get (d147_57 L xs) (kd := 1) (cj := 9) (k0 := 3) rfl (Or.inl rfl) (by decide) rfl rfl ?_
        refine wg_top (y := (nI E.1.length)) hE.1.1 ?_
        refine wn_icmp_ge (d147_60 L xs) (x := k) (y := E.1.length) (by omega) (by omega) (t := 172) (by decide) (fun h1 => by omega) (fun h1 => ?_)
        refine wg_iload_n (d147_63 L xs) rfl ?_
        refine wg_iload_n (d147_64 L xs) rfl ?_
        refine wn_icmp_ge (d147_65 L xs) (x := seen) (y := last) (by omega) (by omega) (t := 172) (by decide) (fun h2 => by omega) (fun h2 => ?_)
        refine wg_iload (d147_68 L xs) rfl ?_
        refine wg_if_ne (d147_70 L xs) (t := 172) (by decide) (fun hp => absurd hp (by decide)) (fun _ => ?_)
        refine wg_aload_n (d147_73 L xs) rfl ?_
        refine wg_iload (d147_74 L xs) rfl ?_
        refine wg_invv (d147_76 L xs) (kd := 7) (mj := 149) (n := 1) rfl (Or.inl rfl) (ys := [.int (nI k)]) (r := []) rfl rfl (by decide) rfl rfl (Nat.le_of_ble_eq_true rfl) (md_isOf h10 hnm hqM (by omega) (by omega) (by omega) hqo.1) ?_
        rintro _ _ ⟨rfl, rfl⟩
        rw [hcv]
        refine wg_if_eq (d147_79 L xs) (t := 166) (by decide) (fun hp => absurd hp (by decide)) (fun _ => ?_)
        refine wg_iinc (d147_82 L xs) (y := (nI (seen + 1))) (ls' := [some (.ref 141), some (.int (nI bits)), some (.int (nI last)), some (.int (nI (seen + 1))), some (.int 0), some (.int (nI k)), c6, c7]) rfl (nI_add seen 1) rfl ?_
        refine wg_aload_n (d147_85 L xs) rfl ?_
        refine wg_get (d147_86 L xs) (kd := 1) (cj := 9) (k0 := 7) rfl (Or.inl rfl) (by decide) rfl rfl ?_
        refine wg_iload (d147_89 L xs) rfl ?_
        refine wg_iald (d147_91 L xs) (n := 16) (by decide) rfl (vp_in_nI (n := k) (by omega) (by omega)) ?_
        refine wg_top (y := (nI q.2.1.length)) (by rw [nI_nat (n := k) (by omega)]; exact hqM.2.1) ?_
        refine wg_iconst (d147_92 L xs) (x := 1) (by decide) ?_
        refine wg_iadd (d147_93 L xs) ?_
        refine wg_top (y := (nI (q.2.1.length + 1))) (nI_add q.2.1.length 1) ?_
        refine wg_istore (d147_94 L xs) (ls' := [some (.ref 141), some (.int (nI bits)), some (.int (nI last)), some (.int (nI (seen + 1))), some (.int 0), some (.int (nI k)), some (.int (nI (q.2.1.length + 1))), c7]) (Nat.le_of_ble_eq_true rfl) rfl ?_
        refine wg_aload_n (d147_96 L xs) rfl ?_
        refine wg_invv (d147_97 L xs) (kd := 7) (mj := 150) (n := 0) rfl (Or.inl rfl) (ys := []) (r := []) rfl rfl (by decide) rfl rfl (Nat.le_of_ble_eq_true rfl) (md_save hl48 h10 hnm) ?_
        rintro _ s1 ⟨rfl, hm1, l0, lh⟩
        refine wg_aload_n (d147_100 L xs) rfl ?_
        refine wg_aload_n (d147_101 L xs) rfl ?_
        refine wg_get (d147_102 L xs) (kd := 1) (cj := 9) (k0 := 6) rfl (Or.inl rfl) (by decide) rfl rfl ?_
        refine wg_iload (d147_105 L xs) rfl ?_
        refine wg_iald (d147_107 L xs) (n := 16) (by decide) rfl (vp_in_nI (n := k) (by omega) (by omega)) ?_
        refine wg_top (y := (nI (rowsz q))) (by rw [nI_nat (n := k) (by omega)]; exact ((congrFun (hm1.2.2.1 145 (by decide)) k).trans hqM.2.2.1)) ?_
        refine wg_iload (d147_108 L xs) rfl ?_
        refine wg_isub (d147_110 L xs) ?_
        refine wg_top (y := (nI (rowsz q - (q.2.1.length + 1)))) (pk_sub (a := rowsz q) (b := q.2.1.length + 1) (by omega)) ?_
        refine wg_puti (d147_111 L xs) (cj := 9) (k0 := 10) rfl (by decide) rfl (Nat.le_of_ble_eq_true rfl) rfl rfl rfl ?_
        refine wg_iconst (d147_114 L xs) (x := 0) (by decide) ?_
        refine wg_istore (d147_115 L xs) (ls' := [some (.ref 141), some (.int (nI bits)), some (.int (nI last)), some (.int (nI (seen + 1))), some (.int 0), some (.int (nI k)), some (.int (nI (q.2.1.length + 1))), some (.int 0)]) (Nat.le_of_ble_eq_true rfl) rfl ?_
        have hE1 := isE_of hE hm1 (by decide) (by decide)
        refine md_mc_l (l := q.2.2.1) (bits := bits) (last := last) (seen := seen + 1) (r := k) (fr := q.2.1.length + 1) (by omega) (by omega) (by omega) q.2.2.1.length 0 _ (by omega) (by show nI (rowsz q - (q.2.1.length + 1)) = _; rw [show rowsz q - (q.2.1.length + 1) = q.2.2.1.length by omega]) (holdA_of hqM.2.2.2.2.2 (hm1.2.2.1 144 (by decide))) (fun j hj => absurd hj (by omega)) (fun s2 m1 m2 m3 => ?_)
        have hms2 : mfr s s2 [10] [148, 164] := (hm1.more (by decide) (by decide)).trans ((mfr_I s1 (by decide)).trans (m1.more (by decide) (by decide)))
        have hE2 := isE_of hE hms2 (by decide) (by decide)
        have hsg2 := isSg_of hsg hms2 (by decide) (by decide)
        have b10 : s2.1 141 10 = nI q.2.2.1.length := (m1.2.1 10 (by decide)).trans (by show nI (rowsz q - (q.2.1.length + 1)) = _; rw [show rowsz q - (q.2.1.length + 1) = q.2.2.1.length by omega])
        have l02 : s2.2.1 164 0 = nI m.length := (congrFun (m1.2.2.1 164 (by decide)) 0).trans l0
        have lh2 : holdA s2 164 1 m := m1.hold (by decide) (holdA_of lh rfl)
        rcases (show X.1 = 0 ∨ X.1 = 1 ∨ (¬ X.1 = 0 ∧ ¬ X.1 = 1) by omega) with hx | hx | hx
        · refine wg_aload_n (d147_155 L xs) rfl ?_
          refine wg_iload_n (d147_156 L xs) rfl ?_
          refine wg_invv (d147_157 L xs) (kd := 7) (mj := 151) (n := 1) rfl (Or.inl rfl) (ys := [.int (nI bits)]) (r := []) rfl rfl (by decide) rfl rfl (Nat.le_of_ble_eq_true rfl) (by have h := md_hosts (L := L) (xs := xs) (d := d + 1) (E := E) (nm := q.2.2.1) (bits := bits) (σ := st_ask σ as v) hb32 hE2 b10 m2 (by omega) (by omega) hsg2 ⟨hs10, hv2⟩; rw [show (st_ask σ as v).2.1 = v from rfl, hX, hx] at h; exact h) ?_
          rintro _ s3 ⟨rfl, hm3, hp3⟩
          have c0 : s3.2.1 164 0 = nI m.length := (congrFun (hm3.2.2.1 164 (by decide)) 0).trans l02
          have ch : holdA s3 164 1 m := hm3.hold (by decide) lh2
          refine wg_istore (d147_160 L xs) (ls' := [some (.ref 141), some (.int (nI bits)), some (.int (nI last)), some (.int (nI (seen + 1))), some (.int 0), some (.int (nI k)), some (.int (nI (q.2.1.length + 1))), some (.int (nI q.2.2.1.length))]) (Nat.le_of_ble_eq_true rfl) rfl ?_
          refine wg_aload_n (d147_162 L xs) rfl ?_
          refine wg_invv (d147_163 L xs) (kd := 7) (mj := 152) (n := 0) rfl (Or.inl rfl) (ys := []) (r := []) rfl rfl (by decide) rfl rfl (Nat.le_of_ble_eq_true rfl) (md_load hl48 c0 ch) ?_
          rintro _ s4 ⟨rfl, hm4, d10, dnm⟩
          have hms4 : mfr s s4 [10, 12, 14, 15, 23, 36, 38] [148, 149, 150, 164] := ((hms2.more (by decide) (by decide)).trans (hm3.more (by decide) (by decide))).trans (hm4.more (by decide) (by decide))
          have hE4 := isE_of hE hms4 (by decide) (by decide)
          have d23 : s2.1 141 23 = s.1 141 23 := hms2.2.1 23 (by decide)
          have e23 : s4.1 141 23 = s3.1 141 23 := hm4.2.1 23 (by decide)
          have e36 : s4.1 141 36 = s3.1 141 36 := hm4.2.1 36 (by decide)
          have hsg4 := isSg_of hp3.1 hm4 (by decide) (by decide)
          refine wg_iinc (d147_166 L xs) (y := (nI (k + 1))) (ls' := [some (.ref 141), some (.int (nI bits)), some (.int (nI last)), some (.int (nI (seen + 1))), some (.int 0), some (.int (nI (k + 1))), some (.int (nI (q.2.1.length + 1))), some (.int (nI q.2.2.1.length))]) rfl (nI_add k 1) rfl ?_
          refine wg_goto (d147_169 L xs) (t := 54) (by decide) ?_
          rw [if_pos hx]
          have h0 := ih (k + 1) (seen + 1) X.2 q.2.2.1 (some (.int (nI (q.2.1.length + 1)))) (some (.int (nI q.2.2.1.length))) s4 hk2 (by omega) (by omega) hE4 d10 dnm hsg4 (by rw [← hX]; exact xh_v hv2 (by rw [hX]; exact hx))
          exact wp_mono h0 (fun r s' h => ⟨h.1, hms4.trans h.2.1, h.2.2.1, fun z => (h.2.2.2.1 z).trans (e23.trans ((hp3.2.1 (by omega)).trans d23)), h.2.2.2.2⟩)
        · refine wg_aload_n (d147_155 L xs) rfl ?_
          refine wg_iload_n (d147_156 L xs) rfl ?_
          refine wg_invv (d147_157 L xs) (kd := 7) (mj := 151) (n := 1) rfl (Or.inl rfl) (ys := [.int (nI bits)]) (r := []) rfl rfl (by decide) rfl rfl (Nat.le_of_ble_eq_true rfl) (by have h := md_hosts (L := L) (xs := xs) (d := d + 1) (E := E) (nm := q.2.2.1) (bits := bits) (σ := st_ask σ as v) hb32 hE2 b10 m2 (by omega) (by omega) hsg2 ⟨hs10, hv2⟩; rw [show (st_ask σ as v).2.1 = v from rfl, hX, hx] at h; exact h) ?_
          rintro _ s3 ⟨rfl, hm3, hp3⟩
          have c0 : s3.2.1 164 0 = nI m.length := (congrFun (hm3.2.2.1 164 (by decide)) 0).trans l02
          have ch : holdA s3 164 1 m := hm3.hold (by decide) lh2
          refine wg_istore (d147_160 L xs) (ls' := [some (.ref 141), some (.int (nI bits)), some (.int (nI last)), some (.int (nI (seen + 1))), some (.int 1), some (.int (nI k)), some (.int (nI (q.2.1.length + 1))), some (.int (nI q.2.2.1.length))]) (Nat.le_of_ble_eq_true rfl) rfl ?_
          refine wg_aload_n (d147_162 L xs) rfl ?_
          refine wg_invv (d147_163 L xs) (kd := 7) (mj := 152) (n := 0) rfl (Or.inl rfl) (ys := []) (r := []) rfl rfl (by decide) rfl rfl (Nat.le_of_ble_eq_true rfl) (md_load hl48 c0 ch) ?_
          rintro _ s4 ⟨rfl, hm4, d10, dnm⟩
          have hms4 : mfr s s4 [10, 12, 14, 15, 23, 36, 38] [148, 149, 150, 164] := ((hms2.more (by decide) (by decide)).trans (hm3.more (by decide) (by decide))).trans (hm4.more (by decide) (by decide))
          have hE4 := isE_of hE hms4 (by decide) (by decide)
          have d23 : s2.1 141 23 = s.1 141 23 := hms2.2.1 23 (by decide)
          have e23 : s4.1 141 23 = s3.1 141 23 := hm4.2.1 23 (by decide)
          have e36 : s4.1 141 36 = s3.1 141 36 := hm4.2.1 36 (by decide)
          have hsg4 := isSg_of hp3.1 hm4 (by decide) (by decide)
          refine wg_iinc (d147_166 L xs) (y := (nI (k + 1))) (ls' := [some (.ref 141), some (.int (nI bits)), some (.int (nI last)), some (.int (nI (seen + 1))), some (.int 1), some (.int (nI (k + 1))), some (.int (nI (q.2.1.length + 1))), some (.int (nI q.2.2.1.length))]) rfl (nI_add k 1) rfl ?_
          refine wg_goto (d147_169 L xs) (t := 54) (by decide) ?_
          refine wg_iload (d147_54 L xs) rfl ?_
          refine wg_aload_n (d147_56 L xs) rfl ?_
          refine wg_get (d147_57 L xs) (kd := 1) (cj := 9) (k0 := 3) rfl (Or.inl rfl) (by decide) rfl rfl ?_
          refine wg_top (y := (nI E.1.length)) hE4.1.1 ?_
          refine wn_icmp_ge (d147_60 L xs) (x := k + 1) (y := E.1.length) (by omega) (by omega) (t := 172) (by decide) (fun h31 => ?_) (fun h31 => ?_)
          · refine wg_iload (d147_172 L xs) rfl ?_
            exact wg_iret (d147_174 L xs) rfl rfl ⟨by rw [if_neg (by omega)]; show _ = some (Value.int (xI X.1)); rw [hx, xI_1], hms4, by rw [if_neg (by omega)]; exact ⟨hsg4, fun z => e23.trans ((hp3.2.1 (by omega)).trans d23), fun z => absurd z (by show ¬ 5 ≤ X.1; omega)⟩⟩
          · refine wg_iload_n (d147_63 L xs) rfl ?_
            refine wg_iload_n (d147_64 L xs) rfl ?_
            refine wn_icmp_ge (d147_65 L xs) (x := seen + 1) (y := last) (by omega) (by omega) (t := 172) (by decide) (fun h32 => ?_) (fun h32 => ?_)
            · refine wg_iload (d147_172 L xs) rfl ?_
              exact wg_iret (d147_174 L xs) rfl rfl ⟨by rw [if_neg (by omega)]; show _ = some (Value.int (xI X.1)); rw [hx, xI_1], hms4, by rw [if_neg (by omega)]; exact ⟨hsg4, fun z => e23.trans ((hp3.2.1 (by omega)).trans d23), fun z => absurd z (by show ¬ 5 ≤ X.1; omega)⟩⟩
            · refine wg_iload (d147_68 L xs) rfl ?_
              refine wg_if_ne (d147_70 L xs) (t := 172) (by decide) (fun _ => ?_) (fun hn => absurd (by decide) hn)
              refine wg_iload (d147_172 L xs) rfl ?_
              exact wg_iret (d147_174 L xs) rfl rfl ⟨by rw [if_neg (by omega)]; show _ = some (Value.int (xI X.1)); rw [hx, xI_1], hms4, by rw [if_neg (by omega)]; exact ⟨hsg4, fun z => e23.trans ((hp3.2.1 (by omega)).trans d23), fun z => absurd z (by show ¬ 5 ≤ X.1; omega)⟩⟩
        · refine wg_aload_n (d147_155 L xs) rfl ?_
          refine wg_iload_n (d147_156 L xs) rfl ?_
          refine wg_invv (d147_157 L xs) (kd := 7) (mj := 151) (n := 1) rfl (Or.inl rfl) (ys := [.int (nI bits)]) (r := []) rfl rfl (by decide) rfl rfl (Nat.le_of_ble_eq_true rfl) (by have h := md_hosts (L := L) (xs := xs) (d := d + 1) (E := E) (nm := q.2.2.1) (bits := bits) (σ := st_ask σ as v) hb32 hE2 b10 m2 (by omega) (by omega) hsg2 ⟨hs10, hv2⟩; rw [show (st_ask σ as v).2.1 = v from rfl, hX, xI_n hx.1 hx.2] at h; exact h) ?_
          rintro _ s3 ⟨rfl, hm3, hp3⟩
          have c0 : s3.2.1 164 0 = nI m.length := (congrFun (hm3.2.2.1 164 (by decide)) 0).trans l02
          have ch : holdA s3 164 1 m := hm3.hold (by decide) lh2
          refine wg_istore (d147_160 L xs) (ls' := [some (.ref 141), some (.int (nI bits)), some (.int (nI last)), some (.int (nI (seen + 1))), some (.int (-1)), some (.int (nI k)), some (.int (nI (q.2.1.length + 1))), some (.int (nI q.2.2.1.length))]) (Nat.le_of_ble_eq_true rfl) rfl ?_
          refine wg_aload_n (d147_162 L xs) rfl ?_
          refine wg_invv (d147_163 L xs) (kd := 7) (mj := 152) (n := 0) rfl (Or.inl rfl) (ys := []) (r := []) rfl rfl (by decide) rfl rfl (Nat.le_of_ble_eq_true rfl) (md_load hl48 c0 ch) ?_
          rintro _ s4 ⟨rfl, hm4, d10, dnm⟩
          have hms4 : mfr s s4 [10, 12, 14, 15, 23, 36, 38] [148, 149, 150, 164] := ((hms2.more (by decide) (by decide)).trans (hm3.more (by decide) (by decide))).trans (hm4.more (by decide) (by decide))
          have hE4 := isE_of hE hms4 (by decide) (by decide)
          have d23 : s2.1 141 23 = s.1 141 23 := hms2.2.1 23 (by decide)
          have e23 : s4.1 141 23 = s3.1 141 23 := hm4.2.1 23 (by decide)
          have e36 : s4.1 141 36 = s3.1 141 36 := hm4.2.1 36 (by decide)
          have hsg4 := isSg_of hp3.1 hm4 (by decide) (by decide)
          refine wg_iinc (d147_166 L xs) (y := (nI (k + 1))) (ls' := [some (.ref 141), some (.int (nI bits)), some (.int (nI last)), some (.int (nI (seen + 1))), some (.int (-1)), some (.int (nI (k + 1))), some (.int (nI (q.2.1.length + 1))), some (.int (nI q.2.2.1.length))]) rfl (nI_add k 1) rfl ?_
          refine wg_goto (d147_169 L xs) (t := 54) (by decide) ?_
          refine wg_iload (d147_54 L xs) rfl ?_
          refine wg_aload_n (d147_56 L xs) rfl ?_
          refine wg_get (d147_57 L xs) (kd := 1) (cj := 9) (k0 := 3) rfl (Or.inl rfl) (by decide) rfl rfl ?_
          refine wg_top (y := (nI E.1.length)) hE4.1.1 ?_
          refine wn_icmp_ge (d147_60 L xs) (x := k + 1) (y := E.1.length) (by omega) (by omega) (t := 172) (by decide) (fun h31 => ?_) (fun h31 => ?_)
          · refine wg_iload (d147_172 L xs) rfl ?_
            exact wg_iret (d147_174 L xs) rfl rfl ⟨by rw [if_neg (by omega)]; show _ = some (Value.int (xI X.1)); rw [xI_n hx.1 hx.2], hms4, by rw [if_neg (by omega)]; exact ⟨hsg4, fun z => e23.trans ((hp3.2.1 (by exact z)).trans d23), fun z => ⟨e23.trans (hp3.2.2 z).1, e36.trans (hp3.2.2 z).2⟩⟩⟩
          · refine wg_iload_n (d147_63 L xs) rfl ?_
            refine wg_iload_n (d147_64 L xs) rfl ?_
            refine wn_icmp_ge (d147_65 L xs) (x := seen + 1) (y := last) (by omega) (by omega) (t := 172) (by decide) (fun h32 => ?_) (fun h32 => ?_)
            · refine wg_iload (d147_172 L xs) rfl ?_
              exact wg_iret (d147_174 L xs) rfl rfl ⟨by rw [if_neg (by omega)]; show _ = some (Value.int (xI X.1)); rw [xI_n hx.1 hx.2], hms4, by rw [if_neg (by omega)]; exact ⟨hsg4, fun z => e23.trans ((hp3.2.1 (by exact z)).trans d23), fun z => ⟨e23.trans (hp3.2.2 z).1, e36.trans (hp3.2.2 z).2⟩⟩⟩
            · refine wg_iload (d147_68 L xs) rfl ?_
              refine wg_if_ne (d147_70 L xs) (t := 172) (by decide) (fun _ => ?_) (fun hn => absurd (by decide) hn)
              refine wg_iload (d147_172 L xs) rfl ?_
              exact wg_iret (d147_174 L xs) rfl rfl ⟨by rw [if_neg (by omega)]; show _ = some (Value.int (xI X.1)); rw [xI_n hx.1 hx.2], hms4, by rw [if_neg (by omega)]; exact ⟨hsg4, fun z => e23.trans ((hp3.2.1 (by exact z)).trans d23), fun z => ⟨e23.trans (hp3.2.2 z).1, e36.trans (hp3.2.2 z).2⟩⟩⟩
      · have hcv : bI (decide (q.1 = 1) && decide (q.2.1 = m)) = 0 := by
          by_cases e1 : q.1 = 1
          · rw [decide_eq_false (show ¬ q.2.1 = m from fun e2 => hc ⟨e2, e1⟩), Bool.and_false]; rfl
          · rw [decide_eq_false e1]; rfl
        rw [f_hits, if_neg hc] at hsn
        rw [f_mail, if_neg (by omega), if_neg (show ¬ (q.1 = 1 ∧ q.2.1 = m) from fun z => hc ⟨z.2, z.1⟩)]
        refine wg_iload (d147_54 L xs) rfl ?_
        refine wg_aload_n (d147_56 L xs) rfl ?_
        refine wg_get (d147_57 L xs) (kd := 1) (cj := 9) (k0 := 3) rfl (Or.inl rfl) (by decide) rfl rfl ?_
        refine wg_top (y := (nI E.1.length)) hE.1.1 ?_
        refine wn_icmp_ge (d147_60 L xs) (x := k) (y := E.1.length) (by omega) (by omega) (t := 172) (by decide) (fun h1 => by omega) (fun h1 => ?_)
        refine wg_iload_n (d147_63 L xs) rfl ?_
        refine wg_iload_n (d147_64 L xs) rfl ?_
        refine wn_icmp_ge (d147_65 L xs) (x := seen) (y := last) (by omega) (by omega) (t := 172) (by decide) (fun h2 => by omega) (fun h2 => ?_)
        refine wg_iload (d147_68 L xs) rfl ?_
        refine wg_if_ne (d147_70 L xs) (t := 172) (by decide) (fun hp => absurd hp (by decide)) (fun _ => ?_)
        refine wg_aload_n (d147_73 L xs) rfl ?_
        refine wg_iload (d147_74 L xs) rfl ?_
        refine wg_invv (d147_76 L xs) (kd := 7) (mj := 149) (n := 1) rfl (Or.inl rfl) (ys := [.int (nI k)]) (r := []) rfl rfl (by decide) rfl rfl (Nat.le_of_ble_eq_true rfl) (md_isOf h10 hnm hqM (by omega) (by omega) (by omega) hqo.1) ?_
        rintro _ _ ⟨rfl, rfl⟩
        rw [hcv]
        refine wg_if_eq (d147_79 L xs) (t := 166) (by decide) (fun _ => ?_) (fun hn => absurd (by decide) hn)
        refine wg_iinc (d147_166 L xs) (y := (nI (k + 1))) (ls' := [some (.ref 141), some (.int (nI bits)), some (.int (nI last)), some (.int (nI seen)), some (.int 0), some (.int (nI (k + 1))), c6, c7]) rfl (nI_add k 1) rfl ?_
        refine wg_goto (d147_169 L xs) (t := 54) (by decide) ?_
        exact ih (k + 1) seen v as _ _ s hk2 (by omega) hsn hE h10 hnm hsg hv2
theorem md_mails {bits : Nat} {σ : ckS} (hb32 : bits ≤ 32) (hE : isE s E) (h10 : s.1 141 10 = nI m.length) (hnm : holdA s 148 0 m) (hl1 : 1 ≤ m.length) (hl48 : m.length ≤ 48) (hsg : isSg s σ) (hok : okS σ) : ca L xs (d + 5) 147 [.ref 141, .int (nI bits)] s (fun r s' => r = some (.int (xI (x_mail E.1 E.2.1 m bits σ.2.1).1)) ∧ mfr s s' [10, 12, 14, 15, 23, 36, 38] [148, 149, 150, 164] ∧ hPost s s' (st_ask σ (x_mail E.1 E.2.1 m bits σ.2.1).2.2 (x_mail E.1 E.2.1 m bits σ.2.1).2.1) (x_mail E.1 E.2.1 m bits σ.2.1).1) := by
  refine wg_call (Nat.le_of_ble_eq_true rfl) ?_
  have hR16 := hE.1.2.1
  have hv2 := hok.2
  show wp L xs (d + 4) 147 0 [some (.ref 141), some (.int (nI bits)), none, none, none, none, none, none] [] s _
  cases hfi : f_fine m E.1 with
  | false =>
    refine wg_aload_n (d147_0 L xs) rfl ?_
    refine wg_iconst (d147_1 L xs) (x := 1) (by decide) ?_
    refine wg_invv (d147_2 L xs) (kd := 7) (mj := 121) (n := 1) rfl (Or.inl rfl) (ys := [.int 1]) (r := []) rfl rfl (by decide) rfl rfl (Nat.le_of_ble_eq_true rfl) (by have h := md_ask (L := L) (xs := xs) (d := d + 2) (kd := 1) hE.1 h10 hnm (by omega) (by omega); rw [hfi] at h; exact h) ?_
    rintro _ s1 ⟨rfl, hm1, a14, a12, a49, aH⟩
    have hsg1s := isSg_ask hsg hm1 (by decide) a14 a12 a49 hl1
    have c23 := hm1.2.1 23 (by decide)
    refine wg_if_ne (d147_5 L xs) (t := 15) (by decide) (fun hp => absurd hp (by decide)) (fun _ => ?_)
    refine wg_aload_n (d147_8 L xs) rfl ?_
    refine wg_iconst (d147_9 L xs) (x := 5) (by decide) ?_
    refine wg_invv (d147_10 L xs) (kd := 7) (mj := 119) (n := 1) rfl (Or.inl rfl) (ys := [.int 5]) (r := []) rfl rfl (by decide) rfl rfl (Nat.le_of_ble_eq_true rfl) (md_end) ?_
    rintro _ _ ⟨rfl, rfl⟩
    refine wg_iconst (d147_13 L xs) (x := (-1)) (by decide) ?_
    exact wg_iret (d147_14 L xs) rfl rfl ⟨by rw [xm_5 hfi]; rfl, (hm1.more (by decide) (by decide)).trans ((mfr_I s1 (by decide)).trans (mfr_I _ (by decide))), by rw [xm_5 hfi]; exact ⟨isSg_I (isSg_I hsg1s (by decide)) (by decide), fun q => absurd q (by show ¬ 5 < 5; omega), fun _ => ⟨rfl, rfl⟩⟩⟩
  | true =>
    cases hhs : f_hits m 1 E.1 0 with
    | nil =>
      by_cases hv : σ.2.1 = 2
      · refine wg_aload_n (d147_0 L xs) rfl ?_
        refine wg_iconst (d147_1 L xs) (x := 1) (by decide) ?_
        refine wg_invv (d147_2 L xs) (kd := 7) (mj := 121) (n := 1) rfl (Or.inl rfl) (ys := [.int 1]) (r := []) rfl rfl (by decide) rfl rfl (Nat.le_of_ble_eq_true rfl) (by have h := md_ask (L := L) (xs := xs) (d := d + 2) (kd := 1) hE.1 h10 hnm (by omega) (by omega); rw [hfi] at h; exact h) ?_
        rintro _ s1 ⟨rfl, hm1, a14, a12, a49, aH⟩
        have hsg1s := isSg_ask hsg hm1 (by decide) a14 a12 a49 hl1
        have c23 := hm1.2.1 23 (by decide)
        refine wg_if_ne (d147_5 L xs) (t := 15) (by decide) (fun _ => ?_) (fun hn => absurd (by decide) hn)
        refine wg_aload_n (d147_15 L xs) rfl ?_
        refine wg_get (d147_16 L xs) (kd := 1) (cj := 9) (k0 := 15) rfl (Or.inl rfl) (by decide) rfl rfl ?_
        refine wg_top (y := 0) (by rw [aH.1, hhs]; rfl) ?_
        refine wg_if_ne (d147_19 L xs) (t := 27) (by decide) (fun hp => absurd hp (by decide)) (fun _ => ?_)
        refine wg_aload_n (d147_22 L xs) rfl ?_
        refine wg_invv (d147_23 L xs) (kd := 7) (mj := 148) (n := 0) rfl (Or.inl rfl) (ys := []) (r := []) rfl rfl (by decide) rfl rfl (Nat.le_of_ble_eq_true rfl) (md_empty6 (n := σ.2.1) hsg1s.2.1 (by omega)) ?_
        rintro _ _ ⟨rfl, rfl⟩
        exact wg_iret (d147_26 L xs) rfl rfl ⟨by rw [xm_0 hfi hhs, if_pos (by omega)]; rfl, (hm1.more (by decide) (by decide)).trans (((mfr_I s1 (by decide)).trans (mfr_I _ (by decide))).trans (mfr_I _ (by decide))), by rw [xm_0 hfi hhs, if_pos (by omega)]; exact ⟨isSg_I (isSg_I (isSg_v hsg1s) (by decide)) (by decide), fun q => absurd q (by show ¬ 6 < 5; omega), fun _ => ⟨rfl, rfl⟩⟩⟩
      · refine wg_aload_n (d147_0 L xs) rfl ?_
        refine wg_iconst (d147_1 L xs) (x := 1) (by decide) ?_
        refine wg_invv (d147_2 L xs) (kd := 7) (mj := 121) (n := 1) rfl (Or.inl rfl) (ys := [.int 1]) (r := []) rfl rfl (by decide) rfl rfl (Nat.le_of_ble_eq_true rfl) (by have h := md_ask (L := L) (xs := xs) (d := d + 2) (kd := 1) hE.1 h10 hnm (by omega) (by omega); rw [hfi] at h; exact h) ?_
        rintro _ s1 ⟨rfl, hm1, a14, a12, a49, aH⟩
        have hsg1s := isSg_ask hsg hm1 (by decide) a14 a12 a49 hl1
        have c23 := hm1.2.1 23 (by decide)
        refine wg_if_ne (d147_5 L xs) (t := 15) (by decide) (fun _ => ?_) (fun hn => absurd (by decide) hn)
        refine wg_aload_n (d147_15 L xs) rfl ?_
        refine wg_get (d147_16 L xs) (kd := 1) (cj := 9) (k0 := 15) rfl (Or.inl rfl) (by decide) rfl rfl ?_
        refine wg_top (y := 0) (by rw [aH.1, hhs]; rfl) ?_
        refine wg_if_ne (d147_19 L xs) (t := 27) (by decide) (fun hp => absurd hp (by decide)) (fun _ => ?_)
        refine wg_aload_n (d147_22 L xs) rfl ?_
        refine wg_invv (d147_23 L xs) (kd := 7) (mj := 148) (n := 0) rfl (Or.inl rfl) (ys := []) (r := []) rfl rfl (by decide) rfl rfl (Nat.le_of_ble_eq_true rfl) (md_empty0 (n := σ.2.1) hsg1s.2.1 (by omega)) ?_
        rintro _ _ ⟨rfl, rfl⟩
        exact wg_iret (d147_26 L xs) rfl rfl ⟨by rw [xm_0 hfi hhs, if_neg (by omega)]; rfl, (hm1.more (by decide) (by decide)).trans (mfr_I s1 (by decide)), by rw [xm_0 hfi hhs, if_neg (by omega)]; exact ⟨isSg_v hsg1s, fun _ => c23, fun q => absurd q (by show ¬ 5 ≤ 0; omega)⟩⟩
    | cons x hs =>
      have hlenH : (f_hits m 1 E.1 0).length ≤ 16 := hits_len (m := m) (kd := 1) E.1 0 hR16
      have hlx : (f_hits m 1 E.1 0).length = hs.length + 1 := by rw [hhs]; rfl
      rw [xm_1 hfi hhs]
      refine wg_aload_n (d147_0 L xs) rfl ?_
      refine wg_iconst (d147_1 L xs) (x := 1) (by decide) ?_
      refine wg_invv (d147_2 L xs) (kd := 7) (mj := 121) (n := 1) rfl (Or.inl rfl) (ys := [.int 1]) (r := []) rfl rfl (by decide) rfl rfl (Nat.le_of_ble_eq_true rfl) (by have h := md_ask (L := L) (xs := xs) (d := d + 2) (kd := 1) hE.1 h10 hnm (by omega) (by omega); rw [hfi] at h; exact h) ?_
      rintro _ s1 ⟨rfl, hm1, a14, a12, a49, aH⟩
      have hsg1s := isSg_ask hsg hm1 (by decide) a14 a12 a49 hl1
      have c23 := hm1.2.1 23 (by decide)
      refine wg_if_ne (d147_5 L xs) (t := 15) (by decide) (fun _ => ?_) (fun hn => absurd (by decide) hn)
      refine wg_aload_n (d147_15 L xs) rfl ?_
      refine wg_get (d147_16 L xs) (kd := 1) (cj := 9) (k0 := 15) rfl (Or.inl rfl) (by decide) rfl rfl ?_
      refine wg_top (y := (nI (hs.length + 1))) (by rw [aH.1, hhs]; rfl) ?_
      refine wn_if_ne (d147_19 L xs) (x := hs.length + 1) (by omega) (t := 27) (by decide) (fun h2 => ?_) (fun h2 => by omega)
      refine wg_aload_n (d147_27 L xs) rfl ?_
      refine wg_get (d147_28 L xs) (kd := 1) (cj := 9) (k0 := 15) rfl (Or.inl rfl) (by decide) rfl rfl ?_
      refine wg_top (y := (nI (hs.length + 1))) (by rw [aH.1, hhs]; rfl) ?_
      refine wg_bipush (d147_31 L xs) (x := 10) (by decide) ?_
      refine wn_icmp_le (d147_33 L xs) (x := hs.length + 1) (y := 10) (by omega) (by omega) (t := 41) (by decide) (fun h3 => ?_) (fun h3 => ?_)
      · refine wg_aload_n (d147_41 L xs) rfl ?_
        refine wg_get (d147_42 L xs) (kd := 1) (cj := 9) (k0 := 15) rfl (Or.inl rfl) (by decide) rfl rfl ?_
        refine wg_top (y := (nI (hs.length + 1))) (by rw [aH.1, hhs]; rfl) ?_
        refine wg_istore_n (d147_45 L xs) (ls' := [some (.ref 141), some (.int (nI bits)), some (.int (nI (hs.length + 1))), none, none, none, none, none]) (Nat.le_of_ble_eq_true rfl) rfl ?_
        refine wg_iconst (d147_46 L xs) (x := 0) (by decide) ?_
        refine wg_istore_n (d147_47 L xs) (ls' := [some (.ref 141), some (.int (nI bits)), some (.int (nI (hs.length + 1))), some (.int 0), none, none, none, none]) (Nat.le_of_ble_eq_true rfl) rfl ?_
        refine wg_iconst (d147_48 L xs) (x := 0) (by decide) ?_
        refine wg_istore (d147_49 L xs) (ls' := [some (.ref 141), some (.int (nI bits)), some (.int (nI (hs.length + 1))), some (.int 0), some (.int 0), none, none, none]) (Nat.le_of_ble_eq_true rfl) rfl ?_
        refine wg_iconst (d147_51 L xs) (x := 0) (by decide) ?_
        refine wg_istore (d147_52 L xs) (ls' := [some (.ref 141), some (.int (nI bits)), some (.int (nI (hs.length + 1))), some (.int 0), some (.int 0), some (.int 0), none, none]) (Nat.le_of_ble_eq_true rfl) rfl ?_
        have h0 := md_ma_l (L := L) (xs := xs) (d := d) (E := E) (m := m) (bits := bits) (last := hs.length + 1) (H := hs.length + 1) (σ := σ) hb32 hl1 hl48 (by omega) (by omega) hok.1 E.1 0 0 σ.2.1 m none none s1 rfl (Nat.zero_le _) (by rw [Nat.zero_add]; exact hlx) (isE_of hE hm1 (by decide) (by decide)) ((hm1.2.1 10 (by decide)).trans h10) (hm1.hold (by decide) hnm) hsg1s hv2
        exact wp_mono h0 (fun r s' h => ⟨h.1, (hm1.more (by decide) (by decide)).trans h.2.1, h.2.2.1, fun z => (h.2.2.2.1 z).trans c23, h.2.2.2.2⟩)
      · refine wg_bipush (d147_36 L xs) (x := 10) (by decide) ?_
        refine wg_goto (d147_38 L xs) (t := 45) (by decide) ?_
        refine wg_istore_n (d147_45 L xs) (ls' := [some (.ref 141), some (.int (nI bits)), some (.int 10), none, none, none, none, none]) (Nat.le_of_ble_eq_true rfl) rfl ?_
        refine wg_iconst (d147_46 L xs) (x := 0) (by decide) ?_
        refine wg_istore_n (d147_47 L xs) (ls' := [some (.ref 141), some (.int (nI bits)), some (.int 10), some (.int 0), none, none, none, none]) (Nat.le_of_ble_eq_true rfl) rfl ?_
        refine wg_iconst (d147_48 L xs) (x := 0) (by decide) ?_
        refine wg_istore (d147_49 L xs) (ls' := [some (.ref 141), some (.int (nI bits)), some (.int 10), some (.int 0), some (.int 0), none, none, none]) (Nat.le_of_ble_eq_true rfl) rfl ?_
        refine wg_iconst (d147_51 L xs) (x := 0) (by decide) ?_
        refine wg_istore (d147_52 L xs) (ls' := [some (.ref 141), some (.int (nI bits)), some (.int 10), some (.int 0), some (.int 0), some (.int 0), none, none]) (Nat.le_of_ble_eq_true rfl) rfl ?_
        have h0 := md_ma_l (L := L) (xs := xs) (d := d) (E := E) (m := m) (bits := bits) (last := 10) (H := hs.length + 1) (σ := σ) hb32 hl1 hl48 (by omega) (by omega) hok.1 E.1 0 0 σ.2.1 m none none s1 rfl (Nat.zero_le _) (by rw [Nat.zero_add]; exact hlx) (isE_of hE hm1 (by decide) (by decide)) ((hm1.2.1 10 (by decide)).trans h10) (hm1.hold (by decide) hnm) hsg1s hv2
        exact wp_mono h0 (fun r s' h => ⟨h.1, (hm1.more (by decide) (by decide)).trans h.2.1, h.2.2.1, fun z => (h.2.2.2.1 z).trans c23, h.2.2.2.2⟩)
end KM
