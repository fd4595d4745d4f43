/-! the reference: what a mechanism does -/
theorem d138_0 (L : Nat) (xs : Nat → Int32) : decode (ax_code (mgT L xs) 138) 0 = .ok (.aload_n 0, 1) := by
  show decode prog_11_method_47_code 0 = _
  decide +kernel
theorem d138_1 (L : Nat) (xs : Nat → Int32) : decode (ax_code (mgT L xs) 138) 1 = .ok (.getfield 52, 3) := by
  show decode prog_11_method_47_code 1 = _
  decide +kernel
theorem d138_4 (L : Nat) (xs : Nat → Int32) : decode (ax_code (mgT L xs) 138) 4 = .ok (.iload_n 1, 1) := by
  show decode prog_11_method_47_code 4 = _
  decide +kernel
theorem d138_5 (L : Nat) (xs : Nat → Int32) : decode (ax_code (mgT L xs) 138) 5 = .ok (.iaload, 1) := by
  show decode prog_11_method_47_code 5 = _
  decide +kernel
theorem d138_6 (L : Nat) (xs : Nat → Int32) : decode (ax_code (mgT L xs) 138) 6 = .ok (.istore 5, 2) := by
  show decode prog_11_method_47_code 6 = _
  decide +kernel
theorem d138_8 (L : Nat) (xs : Nat → Int32) : decode (ax_code (mgT L xs) 138) 8 = .ok (.aload_n 0, 1) := by
  show decode prog_11_method_47_code 8 = _
  decide +kernel
theorem d138_9 (L : Nat) (xs : Nat → Int32) : decode (ax_code (mgT L xs) 138) 9 = .ok (.iload 5, 2) := by
  show decode prog_11_method_47_code 9 = _
  decide +kernel
theorem d138_11 (L : Nat) (xs : Nat → Int32) : decode (ax_code (mgT L xs) 138) 11 = .ok (.iload_n 3, 1) := by
  show decode prog_11_method_47_code 11 = _
  decide +kernel
theorem d138_12 (L : Nat) (xs : Nat → Int32) : decode (ax_code (mgT L xs) 138) 12 = .ok (.iload 4, 2) := by
  show decode prog_11_method_47_code 12 = _
  decide +kernel
theorem d138_14 (L : Nat) (xs : Nat → Int32) : decode (ax_code (mgT L xs) 138) 14 = .ok (.invokevirtual 181, 3) := by
  show decode prog_11_method_47_code 14 = _
  decide +kernel
theorem d138_17 (L : Nat) (xs : Nat → Int32) : decode (ax_code (mgT L xs) 138) 17 = .ok (.istore 6, 2) := by
  show decode prog_11_method_47_code 17 = _
  decide +kernel
theorem d138_19 (L : Nat) (xs : Nat → Int32) : decode (ax_code (mgT L xs) 138) 19 = .ok (.bipush 32, 2) := by
  show decode prog_11_method_47_code 19 = _
  decide +kernel
theorem d138_21 (L : Nat) (xs : Nat → Int32) : decode (ax_code (mgT L xs) 138) 21 = .ok (.istore 7, 2) := by
  show decode prog_11_method_47_code 21 = _
  decide +kernel
theorem d138_23 (L : Nat) (xs : Nat → Int32) : decode (ax_code (mgT L xs) 138) 23 = .ok (.iload_n 2, 1) := by
  show decode prog_11_method_47_code 23 = _
  decide +kernel
theorem d138_24 (L : Nat) (xs : Nat → Int32) : decode (ax_code (mgT L xs) 138) 24 = .ok (.iconst 1, 1) := by
  show decode prog_11_method_47_code 24 = _
  decide +kernel
theorem d138_25 (L : Nat) (xs : Nat → Int32) : decode (ax_code (mgT L xs) 138) 25 = .ok (.if_icmp .le 45, 3) := by
  show decode prog_11_method_47_code 25 = _
  decide +kernel
theorem d138_28 (L : Nat) (xs : Nat → Int32) : decode (ax_code (mgT L xs) 138) 28 = .ok (.iload_n 2, 1) := by
  show decode prog_11_method_47_code 28 = _
  decide +kernel
theorem d138_29 (L : Nat) (xs : Nat → Int32) : decode (ax_code (mgT L xs) 138) 29 = .ok (.iconst 5, 1) := by
  show decode prog_11_method_47_code 29 = _
  decide +kernel
theorem d138_30 (L : Nat) (xs : Nat → Int32) : decode (ax_code (mgT L xs) 138) 30 = .ok (.if_icmp .ge 40, 3) := by
  show decode prog_11_method_47_code 30 = _
  decide +kernel
theorem d138_33 (L : Nat) (xs : Nat → Int32) : decode (ax_code (mgT L xs) 138) 33 = .ok (.iload 6, 2) := by
  show decode prog_11_method_47_code 33 = _
  decide +kernel
theorem d138_35 (L : Nat) (xs : Nat → Int32) : decode (ax_code (mgT L xs) 138) 35 = .ok (.iload 4, 2) := by
  show decode prog_11_method_47_code 35 = _
  decide +kernel
theorem d138_37 (L : Nat) (xs : Nat → Int32) : decode (ax_code (mgT L xs) 138) 37 = .ok (.if_icmp .ge 33, 3) := by
  show decode prog_11_method_47_code 37 = _
  decide +kernel
theorem d138_40 (L : Nat) (xs : Nat → Int32) : decode (ax_code (mgT L xs) 138) 40 = .ok (.aload_n 0, 1) := by
  show decode prog_11_method_47_code 40 = _
  decide +kernel
theorem d138_41 (L : Nat) (xs : Nat → Int32) : decode (ax_code (mgT L xs) 138) 41 = .ok (.aload_n 0, 1) := by
  show decode prog_11_method_47_code 41 = _
  decide +kernel
theorem d138_42 (L : Nat) (xs : Nat → Int32) : decode (ax_code (mgT L xs) 138) 42 = .ok (.getfield 16, 3) := by
  show decode prog_11_method_47_code 42 = _
  decide +kernel
theorem d138_45 (L : Nat) (xs : Nat → Int32) : decode (ax_code (mgT L xs) 138) 45 = .ok (.bipush 100, 2) := by
  show decode prog_11_method_47_code 45 = _
  decide +kernel
theorem d138_47 (L : Nat) (xs : Nat → Int32) : decode (ax_code (mgT L xs) 138) 47 = .ok (.iload 5, 2) := by
  show decode prog_11_method_47_code 47 = _
  decide +kernel
theorem d138_49 (L : Nat) (xs : Nat → Int32) : decode (ax_code (mgT L xs) 138) 49 = .ok (.imul, 1) := by
  show decode prog_11_method_47_code 49 = _
  decide +kernel
theorem d138_50 (L : Nat) (xs : Nat → Int32) : decode (ax_code (mgT L xs) 138) 50 = .ok (.iload 6, 2) := by
  show decode prog_11_method_47_code 50 = _
  decide +kernel
theorem d138_52 (L : Nat) (xs : Nat → Int32) : decode (ax_code (mgT L xs) 138) 52 = .ok (.iadd, 1) := by
  show decode prog_11_method_47_code 52 = _
  decide +kernel
theorem d138_53 (L : Nat) (xs : Nat → Int32) : decode (ax_code (mgT L xs) 138) 53 = .ok (.iconst 1, 1) := by
  show decode prog_11_method_47_code 53 = _
  decide +kernel
theorem d138_54 (L : Nat) (xs : Nat → Int32) : decode (ax_code (mgT L xs) 138) 54 = .ok (.iadd, 1) := by
  show decode prog_11_method_47_code 54 = _
  decide +kernel
theorem d138_55 (L : Nat) (xs : Nat → Int32) : decode (ax_code (mgT L xs) 138) 55 = .ok (.bipush 100, 2) := by
  show decode prog_11_method_47_code 55 = _
  decide +kernel
theorem d138_57 (L : Nat) (xs : Nat → Int32) : decode (ax_code (mgT L xs) 138) 57 = .ok (.iload 5, 2) := by
  show decode prog_11_method_47_code 57 = _
  decide +kernel
theorem d138_59 (L : Nat) (xs : Nat → Int32) : decode (ax_code (mgT L xs) 138) 59 = .ok (.imul, 1) := by
  show decode prog_11_method_47_code 59 = _
  decide +kernel
theorem d138_60 (L : Nat) (xs : Nat → Int32) : decode (ax_code (mgT L xs) 138) 60 = .ok (.iload 4, 2) := by
  show decode prog_11_method_47_code 60 = _
  decide +kernel
theorem d138_62 (L : Nat) (xs : Nat → Int32) : decode (ax_code (mgT L xs) 138) 62 = .ok (.iadd, 1) := by
  show decode prog_11_method_47_code 62 = _
  decide +kernel
theorem d138_63 (L : Nat) (xs : Nat → Int32) : decode (ax_code (mgT L xs) 138) 63 = .ok (.bipush 32, 2) := by
  show decode prog_11_method_47_code 63 = _
  decide +kernel
theorem d138_65 (L : Nat) (xs : Nat → Int32) : decode (ax_code (mgT L xs) 138) 65 = .ok (.invokevirtual 99, 3) := by
  show decode prog_11_method_47_code 65 = _
  decide +kernel
theorem d138_68 (L : Nat) (xs : Nat → Int32) : decode (ax_code (mgT L xs) 138) 68 = .ok (.istore 7, 2) := by
  show decode prog_11_method_47_code 68 = _
  decide +kernel
theorem d138_70 (L : Nat) (xs : Nat → Int32) : decode (ax_code (mgT L xs) 138) 70 = .ok (.iload_n 2, 1) := by
  show decode prog_11_method_47_code 70 = _
  decide +kernel
theorem d138_71 (L : Nat) (xs : Nat → Int32) : decode (ax_code (mgT L xs) 138) 71 = .ok (.ifCond .ne 5, 3) := by
  show decode prog_11_method_47_code 71 = _
  decide +kernel
theorem d138_74 (L : Nat) (xs : Nat → Int32) : decode (ax_code (mgT L xs) 138) 74 = .ok (.iconst 1, 1) := by
  show decode prog_11_method_47_code 74 = _
  decide +kernel
theorem d138_75 (L : Nat) (xs : Nat → Int32) : decode (ax_code (mgT L xs) 138) 75 = .ok (.ireturn, 1) := by
  show decode prog_11_method_47_code 75 = _
  decide +kernel
theorem d138_76 (L : Nat) (xs : Nat → Int32) : decode (ax_code (mgT L xs) 138) 76 = .ok (.iload_n 2, 1) := by
  show decode prog_11_method_47_code 76 = _
  decide +kernel
theorem d138_77 (L : Nat) (xs : Nat → Int32) : decode (ax_code (mgT L xs) 138) 77 = .ok (.iconst 4, 1) := by
  show decode prog_11_method_47_code 77 = _
  decide +kernel
theorem d138_78 (L : Nat) (xs : Nat → Int32) : decode (ax_code (mgT L xs) 138) 78 = .ok (.if_icmp .ne 46, 3) := by
  show decode prog_11_method_47_code 78 = _
  decide +kernel
theorem d138_81 (L : Nat) (xs : Nat → Int32) : decode (ax_code (mgT L xs) 138) 81 = .ok (.aload_n 0, 1) := by
  show decode prog_11_method_47_code 81 = _
  decide +kernel
theorem d138_82 (L : Nat) (xs : Nat → Int32) : decode (ax_code (mgT L xs) 138) 82 = .ok (.aload_n 0, 1) := by
  show decode prog_11_method_47_code 82 = _
  decide +kernel
theorem d138_83 (L : Nat) (xs : Nat → Int32) : decode (ax_code (mgT L xs) 138) 83 = .ok (.getfield 16, 3) := by
  show decode prog_11_method_47_code 83 = _
  decide +kernel
theorem d138_86 (L : Nat) (xs : Nat → Int32) : decode (ax_code (mgT L xs) 138) 86 = .ok (.bipush 100, 2) := by
  show decode prog_11_method_47_code 86 = _
  decide +kernel
theorem d138_88 (L : Nat) (xs : Nat → Int32) : decode (ax_code (mgT L xs) 138) 88 = .ok (.iload 5, 2) := by
  show decode prog_11_method_47_code 88 = _
  decide +kernel
theorem d138_90 (L : Nat) (xs : Nat → Int32) : decode (ax_code (mgT L xs) 138) 90 = .ok (.imul, 1) := by
  show decode prog_11_method_47_code 90 = _
  decide +kernel
theorem d138_91 (L : Nat) (xs : Nat → Int32) : decode (ax_code (mgT L xs) 138) 91 = .ok (.iload_n 3, 1) := by
  show decode prog_11_method_47_code 91 = _
  decide +kernel
theorem d138_92 (L : Nat) (xs : Nat → Int32) : decode (ax_code (mgT L xs) 138) 92 = .ok (.iadd, 1) := by
  show decode prog_11_method_47_code 92 = _
  decide +kernel
theorem d138_93 (L : Nat) (xs : Nat → Int32) : decode (ax_code (mgT L xs) 138) 93 = .ok (.iconst 1, 1) := by
  show decode prog_11_method_47_code 93 = _
  decide +kernel
theorem d138_94 (L : Nat) (xs : Nat → Int32) : decode (ax_code (mgT L xs) 138) 94 = .ok (.iadd, 1) := by
  show decode prog_11_method_47_code 94 = _
  decide +kernel
theorem d138_95 (L : Nat) (xs : Nat → Int32) : decode (ax_code (mgT L xs) 138) 95 = .ok (.bipush 100, 2) := by
  show decode prog_11_method_47_code 95 = _
  decide +kernel
theorem d138_97 (L : Nat) (xs : Nat → Int32) : decode (ax_code (mgT L xs) 138) 97 = .ok (.iload 5, 2) := by
  show decode prog_11_method_47_code 97 = _
  decide +kernel
theorem d138_99 (L : Nat) (xs : Nat → Int32) : decode (ax_code (mgT L xs) 138) 99 = .ok (.imul, 1) := by
  show decode prog_11_method_47_code 99 = _
  decide +kernel
theorem d138_100 (L : Nat) (xs : Nat → Int32) : decode (ax_code (mgT L xs) 138) 100 = .ok (.iload 6, 2) := by
  show decode prog_11_method_47_code 100 = _
  decide +kernel
theorem d138_102 (L : Nat) (xs : Nat → Int32) : decode (ax_code (mgT L xs) 138) 102 = .ok (.iadd, 1) := by
  show decode prog_11_method_47_code 102 = _
  decide +kernel
theorem d138_103 (L : Nat) (xs : Nat → Int32) : decode (ax_code (mgT L xs) 138) 103 = .ok (.invokevirtual 107, 3) := by
  show decode prog_11_method_47_code 103 = _
  decide +kernel
theorem d138_106 (L : Nat) (xs : Nat → Int32) : decode (ax_code (mgT L xs) 138) 106 = .ok (.aload_n 0, 1) := by
  show decode prog_11_method_47_code 106 = _
  decide +kernel
theorem d138_107 (L : Nat) (xs : Nat → Int32) : decode (ax_code (mgT L xs) 138) 107 = .ok (.getfield 143, 3) := by
  show decode prog_11_method_47_code 107 = _
  decide +kernel
theorem d138_110 (L : Nat) (xs : Nat → Int32) : decode (ax_code (mgT L xs) 138) 110 = .ok (.iload 7, 2) := by
  show decode prog_11_method_47_code 110 = _
  decide +kernel
theorem d138_112 (L : Nat) (xs : Nat → Int32) : decode (ax_code (mgT L xs) 138) 112 = .ok (.invokestatic 234, 3) := by
  show decode prog_11_method_47_code 112 = _
  decide +kernel
theorem d138_115 (L : Nat) (xs : Nat → Int32) : decode (ax_code (mgT L xs) 138) 115 = .ok (.ifCond .eq 7, 3) := by
  show decode prog_11_method_47_code 115 = _
  decide +kernel
theorem d138_118 (L : Nat) (xs : Nat → Int32) : decode (ax_code (mgT L xs) 138) 118 = .ok (.iconst 1, 1) := by
  show decode prog_11_method_47_code 118 = _
  decide +kernel
theorem d138_119 (L : Nat) (xs : Nat → Int32) : decode (ax_code (mgT L xs) 138) 119 = .ok (.goto 4, 3) := by
  show decode prog_11_method_47_code 119 = _
  decide +kernel
theorem d138_122 (L : Nat) (xs : Nat → Int32) : decode (ax_code (mgT L xs) 138) 122 = .ok (.iconst 0, 1) := by
  show decode prog_11_method_47_code 122 = _
  decide +kernel
theorem d138_123 (L : Nat) (xs : Nat → Int32) : decode (ax_code (mgT L xs) 138) 123 = .ok (.ireturn, 1) := by
  show decode prog_11_method_47_code 123 = _
  decide +kernel
theorem d138_124 (L : Nat) (xs : Nat → Int32) : decode (ax_code (mgT L xs) 138) 124 = .ok (.aload_n 0, 1) := by
  show decode prog_11_method_47_code 124 = _
  decide +kernel
theorem d138_125 (L : Nat) (xs : Nat → Int32) : decode (ax_code (mgT L xs) 138) 125 = .ok (.invokevirtual 253, 3) := by
  show decode prog_11_method_47_code 125 = _
  decide +kernel
theorem d138_128 (L : Nat) (xs : Nat → Int32) : decode (ax_code (mgT L xs) 138) 128 = .ok (.ifCond .ne 5, 3) := by
  show decode prog_11_method_47_code 128 = _
  decide +kernel
theorem d138_131 (L : Nat) (xs : Nat → Int32) : decode (ax_code (mgT L xs) 138) 131 = .ok (.iconst (-1), 1) := by
  show decode prog_11_method_47_code 131 = _
  decide +kernel
theorem d138_132 (L : Nat) (xs : Nat → Int32) : decode (ax_code (mgT L xs) 138) 132 = .ok (.ireturn, 1) := by
  show decode prog_11_method_47_code 132 = _
  decide +kernel
theorem d138_133 (L : Nat) (xs : Nat → Int32) : decode (ax_code (mgT L xs) 138) 133 = .ok (.iload_n 2, 1) := by
  show decode prog_11_method_47_code 133 = _
  decide +kernel
theorem d138_134 (L : Nat) (xs : Nat → Int32) : decode (ax_code (mgT L xs) 138) 134 = .ok (.iconst 1, 1) := by
  show decode prog_11_method_47_code 134 = _
  decide +kernel
theorem d138_135 (L : Nat) (xs : Nat → Int32) : decode (ax_code (mgT L xs) 138) 135 = .ok (.if_icmp .eq 8, 3) := by
  show decode prog_11_method_47_code 135 = _
  decide +kernel
theorem d138_138 (L : Nat) (xs : Nat → Int32) : decode (ax_code (mgT L xs) 138) 138 = .ok (.iload_n 2, 1) := by
  show decode prog_11_method_47_code 138 = _
  decide +kernel
theorem d138_139 (L : Nat) (xs : Nat → Int32) : decode (ax_code (mgT L xs) 138) 139 = .ok (.iconst 5, 1) := by
  show decode prog_11_method_47_code 139 = _
  decide +kernel
theorem d138_140 (L : Nat) (xs : Nat → Int32) : decode (ax_code (mgT L xs) 138) 140 = .ok (.if_icmp .ne 8, 3) := by
  show decode prog_11_method_47_code 140 = _
  decide +kernel
theorem d138_143 (L : Nat) (xs : Nat → Int32) : decode (ax_code (mgT L xs) 138) 143 = .ok (.iload 4, 2) := by
  show decode prog_11_method_47_code 143 = _
  decide +kernel
theorem d138_145 (L : Nat) (xs : Nat → Int32) : decode (ax_code (mgT L xs) 138) 145 = .ok (.goto 5, 3) := by
  show decode prog_11_method_47_code 145 = _
  decide +kernel
theorem d138_148 (L : Nat) (xs : Nat → Int32) : decode (ax_code (mgT L xs) 138) 148 = .ok (.iload 6, 2) := by
  show decode prog_11_method_47_code 148 = _
  decide +kernel
theorem d138_150 (L : Nat) (xs : Nat → Int32) : decode (ax_code (mgT L xs) 138) 150 = .ok (.istore 8, 2) := by
  show decode prog_11_method_47_code 150 = _
  decide +kernel
theorem d138_152 (L : Nat) (xs : Nat → Int32) : decode (ax_code (mgT L xs) 138) 152 = .ok (.iconst 1, 1) := by
  show decode prog_11_method_47_code 152 = _
  decide +kernel
theorem d138_153 (L : Nat) (xs : Nat → Int32) : decode (ax_code (mgT L xs) 138) 153 = .ok (.istore 9, 2) := by
  show decode prog_11_method_47_code 153 = _
  decide +kernel
theorem d138_155 (L : Nat) (xs : Nat → Int32) : decode (ax_code (mgT L xs) 138) 155 = .ok (.iload_n 3, 1) := by
  show decode prog_11_method_47_code 155 = _
  decide +kernel
theorem d138_156 (L : Nat) (xs : Nat → Int32) : decode (ax_code (mgT L xs) 138) 156 = .ok (.iload 8, 2) := by
  show decode prog_11_method_47_code 156 = _
  decide +kernel
theorem d138_158 (L : Nat) (xs : Nat → Int32) : decode (ax_code (mgT L xs) 138) 158 = .ok (.if_icmp .ge 19, 3) := by
  show decode prog_11_method_47_code 158 = _
  decide +kernel
theorem d138_161 (L : Nat) (xs : Nat → Int32) : decode (ax_code (mgT L xs) 138) 161 = .ok (.aload_n 0, 1) := by
  show decode prog_11_method_47_code 161 = _
  decide +kernel
theorem d138_162 (L : Nat) (xs : Nat → Int32) : decode (ax_code (mgT L xs) 138) 162 = .ok (.iload 5, 2) := by
  show decode prog_11_method_47_code 162 = _
  decide +kernel
theorem d138_164 (L : Nat) (xs : Nat → Int32) : decode (ax_code (mgT L xs) 138) 164 = .ok (.iload_n 3, 1) := by
  show decode prog_11_method_47_code 164 = _
  decide +kernel
theorem d138_165 (L : Nat) (xs : Nat → Int32) : decode (ax_code (mgT L xs) 138) 165 = .ok (.iconst 1, 1) := by
  show decode prog_11_method_47_code 165 = _
  decide +kernel
theorem d138_166 (L : Nat) (xs : Nat → Int32) : decode (ax_code (mgT L xs) 138) 166 = .ok (.iadd, 1) := by
  show decode prog_11_method_47_code 166 = _
  decide +kernel
theorem d138_167 (L : Nat) (xs : Nat → Int32) : decode (ax_code (mgT L xs) 138) 167 = .ok (.iload 8, 2) := by
  show decode prog_11_method_47_code 167 = _
  decide +kernel
theorem d138_169 (L : Nat) (xs : Nat → Int32) : decode (ax_code (mgT L xs) 138) 169 = .ok (.invokevirtual 257, 3) := by
  show decode prog_11_method_47_code 169 = _
  decide +kernel
theorem d138_172 (L : Nat) (xs : Nat → Int32) : decode (ax_code (mgT L xs) 138) 172 = .ok (.istore 9, 2) := by
  show decode prog_11_method_47_code 172 = _
  decide +kernel
theorem d138_174 (L : Nat) (xs : Nat → Int32) : decode (ax_code (mgT L xs) 138) 174 = .ok (.goto 7, 3) := by
  show decode prog_11_method_47_code 174 = _
  decide +kernel
theorem d138_177 (L : Nat) (xs : Nat → Int32) : decode (ax_code (mgT L xs) 138) 177 = .ok (.aload_n 0, 1) := by
  show decode prog_11_method_47_code 177 = _
  decide +kernel
theorem d138_178 (L : Nat) (xs : Nat → Int32) : decode (ax_code (mgT L xs) 138) 178 = .ok (.invokevirtual 260, 3) := by
  show decode prog_11_method_47_code 178 = _
  decide +kernel
theorem d138_181 (L : Nat) (xs : Nat → Int32) : decode (ax_code (mgT L xs) 138) 181 = .ok (.iload_n 2, 1) := by
  show decode prog_11_method_47_code 181 = _
  decide +kernel
theorem d138_182 (L : Nat) (xs : Nat → Int32) : decode (ax_code (mgT L xs) 138) 182 = .ok (.iconst 1, 1) := by
  show decode prog_11_method_47_code 182 = _
  decide +kernel
theorem d138_183 (L : Nat) (xs : Nat → Int32) : decode (ax_code (mgT L xs) 138) 183 = .ok (.if_icmp .ne 28, 3) := by
  show decode prog_11_method_47_code 183 = _
  decide +kernel
theorem d138_186 (L : Nat) (xs : Nat → Int32) : decode (ax_code (mgT L xs) 138) 186 = .ok (.iload 9, 2) := by
  show decode prog_11_method_47_code 186 = _
  decide +kernel
theorem d138_188 (L : Nat) (xs : Nat → Int32) : decode (ax_code (mgT L xs) 138) 188 = .ok (.ifCond .eq 15, 3) := by
  show decode prog_11_method_47_code 188 = _
  decide +kernel
theorem d138_191 (L : Nat) (xs : Nat → Int32) : decode (ax_code (mgT L xs) 138) 191 = .ok (.aload_n 0, 1) := by
  show decode prog_11_method_47_code 191 = _
  decide +kernel
theorem d138_192 (L : Nat) (xs : Nat → Int32) : decode (ax_code (mgT L xs) 138) 192 = .ok (.iconst 1, 1) := by
  show decode prog_11_method_47_code 192 = _
  decide +kernel
theorem d138_193 (L : Nat) (xs : Nat → Int32) : decode (ax_code (mgT L xs) 138) 193 = .ok (.aload_n 0, 1) := by
  show decode prog_11_method_47_code 193 = _
  decide +kernel
theorem d138_194 (L : Nat) (xs : Nat → Int32) : decode (ax_code (mgT L xs) 138) 194 = .ok (.getfield 263, 3) := by
  show decode prog_11_method_47_code 194 = _
  decide +kernel
theorem d138_197 (L : Nat) (xs : Nat → Int32) : decode (ax_code (mgT L xs) 138) 197 = .ok (.invokevirtual 266, 3) := by
  show decode prog_11_method_47_code 197 = _
  decide +kernel
theorem d138_200 (L : Nat) (xs : Nat → Int32) : decode (ax_code (mgT L xs) 138) 200 = .ok (.goto 9, 3) := by
  show decode prog_11_method_47_code 200 = _
  decide +kernel
theorem d138_203 (L : Nat) (xs : Nat → Int32) : decode (ax_code (mgT L xs) 138) 203 = .ok (.aload_n 0, 1) := by
  show decode prog_11_method_47_code 203 = _
  decide +kernel
theorem d138_204 (L : Nat) (xs : Nat → Int32) : decode (ax_code (mgT L xs) 138) 204 = .ok (.bipush 6, 2) := by
  show decode prog_11_method_47_code 204 = _
  decide +kernel
theorem d138_206 (L : Nat) (xs : Nat → Int32) : decode (ax_code (mgT L xs) 138) 206 = .ok (.invokevirtual 215, 3) := by
  show decode prog_11_method_47_code 206 = _
  decide +kernel
theorem d138_209 (L : Nat) (xs : Nat → Int32) : decode (ax_code (mgT L xs) 138) 209 = .ok (.iconst (-1), 1) := by
  show decode prog_11_method_47_code 209 = _
  decide +kernel
theorem d138_210 (L : Nat) (xs : Nat → Int32) : decode (ax_code (mgT L xs) 138) 210 = .ok (.ireturn, 1) := by
  show decode prog_11_method_47_code 210 = _
  decide +kernel
theorem d138_211 (L : Nat) (xs : Nat → Int32) : decode (ax_code (mgT L xs) 138) 211 = .ok (.iload 9, 2) := by
  show decode prog_11_method_47_code 211 = _
  decide +kernel
theorem d138_213 (L : Nat) (xs : Nat → Int32) : decode (ax_code (mgT L xs) 138) 213 = .ok (.ifCond .ne 7, 3) := by
  show decode prog_11_method_47_code 213 = _
  decide +kernel
theorem d138_216 (L : Nat) (xs : Nat → Int32) : decode (ax_code (mgT L xs) 138) 216 = .ok (.iconst 0, 1) := by
  show decode prog_11_method_47_code 216 = _
  decide +kernel
theorem d138_217 (L : Nat) (xs : Nat → Int32) : decode (ax_code (mgT L xs) 138) 217 = .ok (.goto 32, 3) := by
  show decode prog_11_method_47_code 217 = _
  decide +kernel
theorem d138_220 (L : Nat) (xs : Nat → Int32) : decode (ax_code (mgT L xs) 138) 220 = .ok (.iload_n 2, 1) := by
  show decode prog_11_method_47_code 220 = _
  decide +kernel
theorem d138_221 (L : Nat) (xs : Nat → Int32) : decode (ax_code (mgT L xs) 138) 221 = .ok (.iconst 3, 1) := by
  show decode prog_11_method_47_code 221 = _
  decide +kernel
theorem d138_222 (L : Nat) (xs : Nat → Int32) : decode (ax_code (mgT L xs) 138) 222 = .ok (.if_icmp .ne 12, 3) := by
  show decode prog_11_method_47_code 222 = _
  decide +kernel
theorem d138_225 (L : Nat) (xs : Nat → Int32) : decode (ax_code (mgT L xs) 138) 225 = .ok (.aload_n 0, 1) := by
  show decode prog_11_method_47_code 225 = _
  decide +kernel
theorem d138_226 (L : Nat) (xs : Nat → Int32) : decode (ax_code (mgT L xs) 138) 226 = .ok (.iload 7, 2) := by
  show decode prog_11_method_47_code 226 = _
  decide +kernel
theorem d138_228 (L : Nat) (xs : Nat → Int32) : decode (ax_code (mgT L xs) 138) 228 = .ok (.invokevirtual 270, 3) := by
  show decode prog_11_method_47_code 228 = _
  decide +kernel
theorem d138_231 (L : Nat) (xs : Nat → Int32) : decode (ax_code (mgT L xs) 138) 231 = .ok (.goto 18, 3) := by
  show decode prog_11_method_47_code 231 = _
  decide +kernel
theorem d138_234 (L : Nat) (xs : Nat → Int32) : decode (ax_code (mgT L xs) 138) 234 = .ok (.aload_n 0, 1) := by
  show decode prog_11_method_47_code 234 = _
  decide +kernel
theorem d138_235 (L : Nat) (xs : Nat → Int32) : decode (ax_code (mgT L xs) 138) 235 = .ok (.iload_n 2, 1) := by
  show decode prog_11_method_47_code 235 = _
  decide +kernel
theorem d138_236 (L : Nat) (xs : Nat → Int32) : decode (ax_code (mgT L xs) 138) 236 = .ok (.iconst 5, 1) := by
  show decode prog_11_method_47_code 236 = _
  decide +kernel
theorem d138_237 (L : Nat) (xs : Nat → Int32) : decode (ax_code (mgT L xs) 138) 237 = .ok (.if_icmp .ne 7, 3) := by
  show decode prog_11_method_47_code 237 = _
  decide +kernel
theorem d138_240 (L : Nat) (xs : Nat → Int32) : decode (ax_code (mgT L xs) 138) 240 = .ok (.iconst 0, 1) := by
  show decode prog_11_method_47_code 240 = _
  decide +kernel
theorem d138_241 (L : Nat) (xs : Nat → Int32) : decode (ax_code (mgT L xs) 138) 241 = .ok (.goto 5, 3) := by
  show decode prog_11_method_47_code 241 = _
  decide +kernel
theorem d138_244 (L : Nat) (xs : Nat → Int32) : decode (ax_code (mgT L xs) 138) 244 = .ok (.iload 7, 2) := by
  show decode prog_11_method_47_code 244 = _
  decide +kernel
theorem d138_246 (L : Nat) (xs : Nat → Int32) : decode (ax_code (mgT L xs) 138) 246 = .ok (.invokevirtual 246, 3) := by
  show decode prog_11_method_47_code 246 = _
  decide +kernel
theorem d138_249 (L : Nat) (xs : Nat → Int32) : decode (ax_code (mgT L xs) 138) 249 = .ok (.ireturn, 1) := by
  show decode prog_11_method_47_code 249 = _
  decide +kernel
theorem rest_facts {D : List Nat} {st te res : Nat} {t : tmT} (hj : te ≤ D.length) (hi : st ≤ te) (h32 : ga D te = 32) (h : t_rest (gl D) st te res = some t) : ∃ k rd S b v, r_m1 D st te = (some k, rd) ∧ f_find (gl D) 47 rd (te - rd) = S ∧ t = (k, res, if rd < S then rd + 1 else S, S, b, v) ∧ k ≤ 5 ∧ st < rd ∧ rd ≤ S ∧ S ≤ te ∧ b ≤ 32 ∧ (S < te → r_num (gl D) (S + 1) 32 (r_dg (gl D) te (S + 1)) = some b) ∧ (¬ S < te → b = 32) ∧ (k = 4 → rd < S ∧ r_addr (gl D) S 4 0 (rd + 1) = some (v, S)) ∧ (k = 1 ∨ k = 5 → S = te ∧ rd < S) ∧ (¬ k = 4 → rd < S → t_tgt (gl D) (rd + 1) S = true) := by
  cases hm : r_m1 D st te with
  | mk o rd =>
    cases o with
    | none => rw [r_m_none hj hi h32 hm] at h; cases h
    | some k =>
      obtain ⟨k5, hlt, hle, hk, hco, hsl, h145, h0, hrd⟩ := r_m_some hj hi h32 hm
      obtain ⟨f1, f2, f3, f4⟩ := f_find_s (g := gl D) (c := 47) (te - rd) rd
      generalize hS : f_find (gl D) 47 rd (te - rd) = S at *
      have htf : t_tf (gl D) st te = if rd < S then rd + 1 else S := by unfold t_tf; rw [hco, hsl]
      have hrS : (k = 1 ∨ k = 4 ∨ k = 5) → rd < S := fun z => by
        obtain ⟨h1, h2⟩ := h145 z
        rcases Nat.lt_or_ge rd S with q | q
        · exact q
        · have e1 : S = rd := by omega
          have := f4 (by omega)
          rw [e1, h2] at this
          omega
      unfold t_rest at h
      rw [hco, hk] at h
      change (t_bits (gl D) st te).bind (fun b => t_rk (gl D) st te res k b) = some t at h
      cases hb : t_bits (gl D) st te with
      | none => rw [hb] at h; cases h
      | some b =>
        rw [hb] at h
        change t_rk (gl D) st te res k b = some t at h
        have hb1 : S < te → r_num (gl D) (S + 1) 32 (r_dg (gl D) te (S + 1)) = some b := fun z => by
          unfold t_bits at hb
          rw [hsl, if_pos z, num_eq (by omega)] at hb
          split at hb
          · exact hb
          · cases hb
        have hb2 : ¬ S < te → b = 32 := fun z => by
          unfold t_bits at hb
          rw [hsl, if_neg z] at hb
          cases hb; rfl
        have hb3 : b ≤ 32 := by
          by_cases z : S < te
          · exact r_num_le (hb1 z)
          · rw [hb2 z]; exact Nat.le_refl _
        unfold t_rk at h
        rw [hco, hsl, htf] at h
        by_cases c0 : k = 0
        · subst c0
          rw [if_pos rfl] at h
          split at h
          · cases h
            exact ⟨0, rd, S, b, 0, rfl, hS, rfl, by omega, hlt, f1, by omega, hb3, hb1, hb2, fun z => absurd z (by decide), fun z => absurd z (by decide), fun _ z => absurd z (by have := h0 rfl; omega)⟩
          · cases h
        · rw [if_neg c0] at h
          by_cases c1 : k = 1 ∨ k = 5
          · rw [if_pos c1] at h
            have hr := hrS (by omega)
            rw [if_pos hr] at h
            split at h
            · rename_i hh
              cases h
              exact ⟨k, rd, S, b, 0, rfl, hS, by rw [if_pos hr], k5, hlt, f1, by omega, hb3, hb1, hb2, fun z => by omega, fun _ => ⟨by omega, hr⟩, fun _ _ => hh.2⟩
            · cases h
          · rw [if_neg c1] at h
            by_cases c2 : k = 2 ∨ k = 3
            · rw [if_pos c2] at h
              by_cases z : rd < S
              · rw [if_pos z] at h
                split at h
                · rename_i hh
                  cases h
                  exact ⟨k, rd, S, b, 0, rfl, hS, by rw [if_pos z], k5, hlt, f1, by omega, hb3, hb1, hb2, fun z => by omega, fun z => by omega, fun _ _ => hh.resolve_left (fun q => q z)⟩
                · cases h
              · rw [if_neg z, if_pos (Or.inl z)] at h
                cases h
                exact ⟨k, rd, S, b, 0, rfl, hS, by rw [if_neg z], k5, hlt, f1, by omega, hb3, hb1, hb2, fun z => by omega, fun z => by omega, fun _ q => absurd q z⟩
            · rw [if_neg c2] at h
              have c4 : k = 4 := by omega
              subst c4
              have hr := hrS (by omega)
              rw [if_pos hr, adr_same (by omega)] at h
              cases hq : r_addr (gl D) S 4 0 (rd + 1) with
              | none => rw [hq] at h; cases h
              | some p =>
                rw [hq] at h
                change ((if p.2 = S then some p.1 else none).map _) = some t at h
                by_cases e : p.2 = S
                · rw [if_pos e] at h
                  cases h
                  exact ⟨4, rd, S, b, p.1, rfl, hS, by rw [if_pos hr], by omega, hlt, f1, by omega, hb3, hb1, hb2, fun _ => ⟨hr, by rw [hq, ← e]⟩, fun z => by omega, fun z => absurd rfl z⟩
                · rw [if_neg e] at h; cases h
theorem xh_ex {R : List rowT} {adr : Int32} {nm : List Nat} {v : Nat} : x_host R adr nm 0 v = v_cnt (f_ask nm 0 R 0) v := by
  cases hf : f_fine nm R with
  | false => rw [xh_5 hf, cnt_5 hf]
  | true =>
    cases hh : f_hits nm 0 R 0 with
    | nil => rw [xh_0 hf hh, cnt_0 hf hh]
    | cons x hs =>
      rw [xh_1 hf hh, cnt_1 hf hh]
      have : (x :: hs).any (h_sb R adr 0) = true := by
        rw [List.any_cons]
        obtain ⟨q, hq, _⟩ := hits_mem (R := R) (m := nm) (kd := 0) R 0 rfl x (by rw [hh]; exact List.mem_cons_self ..)
        have : h_sb R adr 0 x = true := by unfold h_sb; rw [hq]; rfl
        rw [this, Bool.true_or]
      rw [this]; rfl
theorem tm_fuel {E : ckE} {inn : List Nat → ckS → Nat × ckS} {dep : Nat} {D dom : List Nat} {o : Nat × Nat} : ∀ (m m' p n : Nat) (σ : ckS), D.length ≤ p + m → D.length ≤ p + m' → x_tm E inn dep D dom o m p n σ = x_tm E inn dep D dom o m' p n σ := by
  intro m
  induction m with
  | zero =>
    intro m' p n σ h h'
    cases m' with
    | zero => rfl
    | succ m' => rw [x_tm, x_tm, if_neg (by omega)]
  | succ m ih =>
    intro m' p n σ h h'
    cases m' with
    | zero => rw [x_tm, x_tm, if_neg (by omega)]
    | succ m' =>
      rw [x_tm, x_tm]
      by_cases e : p < D.length
      · have hte := te_s (D := D) (p := p) (by omega)
        have hI := fun n' σ' => ih m' (t_te D p + 1) n' σ' (by omega) (by omega)
        simp only [hI]
      · rw [if_neg e, if_neg e]
/-- the frame behind the term that ends at te, with one mechanism more or none -/
def fr_nx (F : frT) (te k : Nat) : frT := (F.1, F.2.1, fr_dom F, fr_D F, te + 1, fr_n F + k, fr_o F)
def k_aft (E : ckE) (fs : List frT) (F : frT) (te : Nat) (t : tmT) (X : Nat × ckS) : Nat × ckS := if X.1 = 1 then (t.2.1, st_mt X.2 fs.length (fr_n F)) else if X.1 = 0 then k_fr E fs.length (fr_nx F te 1) X.2 else X
theorem kfr_end {E : ckE} {dep : Nat} {F : frT} {σ : ckS} (h : (fr_D F).length ≤ fr_p F) : k_fr E dep F σ = x_rd E (k_in E dep) (fr_D F) (fr_dom F) (fr_o F).1 (fr_o F).2 σ := by
  unfold k_fr
  cases hl : (fr_D F).length with
  | zero => rw [x_tm]
  | succ m => rw [x_tm, if_neg (by omega)]
theorem kfr_step {E : ckE} {fs : List frT} {F : frT} {σ : ckS} (h : fr_p F < (fr_D F).length) : k_fr E fs.length F σ = if fr_p F < t_te (fr_D F) (fr_p F) then (match t_term (gl (fr_D F)) (fr_p F) (t_te (fr_D F) (fr_p F)) with
      | none => k_fr E fs.length (fr_nx F (t_te (fr_D F) (fr_p F)) 0) σ
      | some t => if t.1 < 6 then k_aft E fs F (t_te (fr_D F) (fr_p F)) t (x_ma E (k_in E fs.length) (fr_D F) (fr_dom F) t σ) else k_fr E fs.length (fr_nx F (t_te (fr_D F) (fr_p F)) 0) σ) else k_fr E fs.length (fr_nx F (t_te (fr_D F) (fr_p F)) 0) σ := by
  have hte := te_s (D := fr_D F) (p := fr_p F) (by omega)
  have hl : (fr_D F).length = ((fr_D F).length - 1) + 1 := by omega
  have hI := fun n σ' => tm_fuel (E := E) (inn := k_in E fs.length) (dep := fs.length) (D := fr_D F) (dom := fr_dom F) (o := fr_o F) ((fr_D F).length - 1) (fr_D F).length (t_te (fr_D F) (fr_p F) + 1) n σ' (by omega) (by omega)
  have e : k_fr E fs.length F σ = x_tm E (k_in E fs.length) fs.length (fr_D F) (fr_dom F) (fr_o F) (((fr_D F).length - 1) + 1) (fr_p F) (fr_n F) σ := by rw [← hl]; rfl
  rw [e, x_tm, if_pos h]
  simp only [hI]
  rfl
theorem ma_0 {E : ckE} {inn : List Nat → ckS → Nat × ckS} {D dom : List Nat} {t : tmT} {σ : ckS} (h : t.1 = 0) : x_ma E inn D dom t σ = (1, σ) := by unfold x_ma; rw [if_pos h]
theorem ma_4 {E : ckE} {inn : List Nat → ckS → Nat × ckS} {D dom : List Nat} {t : tmT} {σ : ckS} (h : t.1 = 4) : x_ma E inn D dom t σ = (bI (c_sb (nI t.2.2.2.2.2) E.2.1 t.2.2.2.2.1), σ) := by unfold x_ma; rw [if_neg (by omega), if_pos h]
theorem ma_6 {E : ckE} {inn : List Nat → ckS → Nat × ckS} {D dom : List Nat} {t : tmT} {σ : ckS} (h0 : ¬ t.1 = 0) (h4 : ¬ t.1 = 4) (h : ¬ σ.1 < 10) : x_ma E inn D dom t σ = (6, σ) := by unfold x_ma; rw [if_neg h0, if_neg h4, if_neg h]
theorem ma_b {E : ckE} {inn : List Nat → ckS → Nat × ckS} {D dom : List Nat} {t : tmT} {σ : ckS} (h0 : ¬ t.1 = 0) (h4 : ¬ t.1 = 4) (h : σ.1 < 10) : x_ma E inn D dom t σ = x_mb E inn t (x_nm E D dom t) (st_lk σ) := by unfold x_ma; rw [if_neg h0, if_neg h4, if_pos h]
theorem mb_n {E : ckE} {inn : List Nat → ckS → Nat × ckS} {t : tmT} {nm : List Nat} {σ : ckS} (h1 : ¬ t.1 = 1) (hN : t_name (gl nm) 0 nm.length = false) : x_mb E inn t nm σ = (0, σ) := by unfold x_mb; rw [if_neg h1, if_neg (by rw [hN]; decide)]
theorem mb_c {E : ckE} {inn : List Nat → ckS → Nat × ckS} {t : tmT} {nm : List Nat} {σ : ckS} (h1 : ¬ t.1 = 1) (hN : t_name (gl nm) 0 nm.length = true) : x_mb E inn t nm σ = x_mc E t.1 t.2.2.2.2.1 nm σ := by unfold x_mb; rw [if_neg h1, if_pos hN]
theorem inc_no {E : ckE} {fs : List frT} {F : frT} {te : Nat} {t : tmT} {D dom : List Nat} {σ : ckS} (h1 : t.1 = 1) (hl : σ.1 < 10) (hd : fs.length < 10) (hN : t_name (gl (x_nm E D dom t)) 0 (x_nm E D dom t).length = false) : k_ret E fs F.1 F.2.1 (k_aft E fs F te t (x_ma E (k_in E fs.length) D dom t σ)) = (6, st_lk σ) := by
  have hX : x_ma E (k_in E fs.length) D dom t σ = (6, st_lk σ) := by
    rw [ma_b (by omega) (by omega) hl]
    unfold x_mb
    rw [if_pos h1, k_in_lt hd]
    unfold x_in
    rw [if_neg (by rw [hN]; decide)]
    rfl
  rw [hX]
  unfold k_aft
  rw [if_neg (show ¬ (6 : Nat) = 1 by omega), if_neg (show ¬ (6 : Nat) = 0 by omega)]
  exact k_ret_err (show 5 ≤ 6 by omega)
theorem inc_fin {E : ckE} {fs : List frT} {F : frT} {te : Nat} {t : tmT} {D dom : List Nat} {σ : ckS} (h1 : t.1 = 1) (hl : σ.1 < 10) (hd : fs.length < 10) (hok : okS σ) (hN : t_name (gl (x_nm E D dom t)) 0 (x_nm E D dom t).length = true) : k_ret E fs F.1 F.2.1 (k_aft E fs F te t (x_ma E (k_in E fs.length) D dom t σ)) = k_ret E (fr_nx F te 1 :: fs) 1 t.2.1 (x_ev E (10 - (fs.length + 1)) (fs.length + 1) (x_nm E D dom t) (st_lk σ)) := by
  have ho := ok_ev (E := E) (10 - (fs.length + 1)) (fs.length + 1) (x_nm E D dom t) (st_lk σ) ⟨hl, hok.2⟩
  rw [ma_b (by omega) (by omega) hl]
  unfold x_mb
  rw [if_pos h1, k_in_lt hd]
  unfold x_in
  rw [if_pos hN]
  generalize hy : x_ev E (10 - (fs.length + 1)) (fs.length + 1) (x_nm E D dom t) (st_lk σ) = y at *
  obtain ⟨y, σ'⟩ := y
  have hy6 : y ≤ 6 := ho.1
  dsimp only
  by_cases c0 : y = 0
  · subst c0
    rw [if_pos rfl, k_ret_0]
    unfold k_aft
    rw [show v_inc 6 = 6 from rfl, if_neg (show ¬ (6 : Nat) = 1 by omega), if_neg (show ¬ (6 : Nat) = 0 by omega)]
    exact k_ret_err (show 5 ≤ 6 by omega)
  · rw [if_neg c0]
    by_cases c2 : y = 2
    · subst c2
      rw [k_ret_p (by omega)]
      unfold k_aft
      rw [show v_inc 2 = 1 from rfl, if_pos rfl]
      rfl
    · by_cases c5 : 5 ≤ y
      · rw [k_ret_err (r := (y, σ')) c5]
        unfold k_aft
        have hv : v_inc y = y := by unfold v_inc; rw [if_pos (by omega)]
        rw [hv, if_neg (show ¬ y = 1 by omega), if_neg c0]
        exact k_ret_err c5
      · rw [k_ret_n (by omega) c0 c2 (by omega)]
        unfold k_aft
        have hv : v_inc y = 0 := by unfold v_inc; rw [if_neg (by omega), if_neg c2]
        rw [hv, if_neg (show ¬ (0 : Nat) = 1 by omega), if_pos rfl]
        rfl
theorem rd_fin {E : ckE} {fs : List frT} {F : frT} {D dom : List Nat} {rf rt : Nat} {σ : ckS} (h1 : rf < rt) (hl : σ.1 < 10) (hd : fs.length < 10) (hok : okS σ) (hN : t_name (gl (x_w E D dom rf rt)) 0 (x_w E D dom rf rt).length = true) : k_ret E fs F.1 F.2.1 (x_rd E (k_in E fs.length) D dom rf rt σ) = k_ret E (F :: fs) 2 0 (x_ev E (10 - (fs.length + 1)) (fs.length + 1) (x_w E D dom rf rt) (st_lk σ)) := by
  have ho := ok_ev (E := E) (10 - (fs.length + 1)) (fs.length + 1) (x_w E D dom rf rt) (st_lk σ) ⟨hl, hok.2⟩
  unfold x_rd
  rw [if_pos h1, if_pos hl, k_in_lt hd]
  unfold x_in
  rw [if_pos hN]
  generalize hy : x_ev E (10 - (fs.length + 1)) (fs.length + 1) (x_w E D dom rf rt) (st_lk σ) = y at *
  obtain ⟨y, σ'⟩ := y
  dsimp only
  by_cases c0 : y = 0
  · subst c0
    rw [if_pos rfl, k_ret_0]
    exact k_ret_err (show 5 ≤ 6 by omega)
  · rw [if_neg c0]
    by_cases c5 : 5 ≤ y
    · rw [k_ret_err (r := (y, σ')) c5, k_ret_err (r := (y, σ')) c5]
    · rw [k_ret_2 c0 (by omega)]
theorem rd_no {E : ckE} {fs : List frT} {F : frT} {D dom : List Nat} {rf rt : Nat} {σ : ckS} (h1 : rf < rt) (hl : σ.1 < 10) (hd : fs.length < 10) (hN : t_name (gl (x_w E D dom rf rt)) 0 (x_w E D dom rf rt).length = false) : k_ret E fs F.1 F.2.1 (x_rd E (k_in E fs.length) D dom rf rt σ) = (6, st_lk σ) := by
  unfold x_rd
  rw [if_pos h1, if_pos hl, k_in_lt hd]
  unfold x_in
  rw [if_neg (by rw [hN]; decide)]
  exact k_ret_err (show 5 ≤ 6 by omega)
section KW
variable {L : Nat} {xs : Nat → Int32} {d r c f rd te S b : Nat} {D dom nm : List Nat} {s : mg_s} {E : ckE} {σ : ckS} {inn : List Nat → ckS → Nat × ckS} {Q : Option Value → mg_s → Prop}
def nF : List Nat := [9, 10, 12, 14, 15, 17, 19, 22, 23, 36, 37, 38]
def nA : List Nat := [148, 149, 150, 151, 152, 153, 164]
theorem isSg_lk {s : mg_s} {σ : ckS} (h : isSg s σ) : isSg (mg_I s 141 37 (nI (σ.1 + 1))) (st_lk σ) := ⟨rfl, h.2.1, h.2.2.1, h.2.2.2.1, h.2.2.2.2.1, h.2.2.2.2.2⟩
theorem md_do181_2 {k8 : Nat} (hE : isE s E) (h10 : s.1 141 10 = nI nm.length) (hnm : holdA s 148 0 nm) (hN : t_name (gl nm) 0 nm.length = true) (hb32 : b ≤ 32) (hsg : isSg s σ) (hok : okS σ) : wp L xs (d + 8) 138 181 [some (.ref 141), some (.int (nI f)), some (.int 2), some (.int (nI (c + rd))), some (.int (nI (c + te))), some (.int (nI r)), some (.int (nI (c + S))), some (.int (nI b)), some (.int (nI k8)), some (.int 1)] [] s (fun rv s' => rv = some (.int (xI (x_mc E 2 b nm σ).1)) ∧ mfr s s' nF nA ∧ hPost s s' (x_mc E 2 b nm σ).2 (x_mc E 2 b nm σ).1) := by
  have hnl := t_name_len hN
  refine wg_iload_n (d138_181 L xs) rfl ?_
  refine wg_iconst (d138_182 L xs) (x := 1) (by decide) ?_
  refine wg_icmp_ne (d138_183 L xs) (t := 211) (by decide) (fun _ => ?_) (fun hn => absurd (by decide) hn)
  refine wg_iload (d138_211 L xs) rfl ?_
  refine wg_if_ne (d138_213 L xs) (t := 220) (by decide) (fun _ => ?_) (fun hn => absurd (by decide) hn)
  refine wg_iload_n (d138_220 L xs) rfl ?_
  refine wg_iconst (d138_221 L xs) (x := 3) (by decide) ?_
  refine wg_icmp_ne (d138_222 L xs) (t := 234) (by decide) (fun _ => ?_) (fun hn => absurd (by decide) hn)
  refine wg_aload_n (d138_234 L xs) rfl ?_
  refine wg_iload_n (d138_235 L xs) rfl ?_
  refine wg_iconst (d138_236 L xs) (x := 5) (by decide) ?_
  refine wg_icmp_ne (d138_237 L xs) (t := 244) (by decide) (fun _ => ?_) (fun hn => absurd (by decide) hn)
  refine wg_iload (d138_244 L xs) rfl ?_
  refine wg_invv (d138_246 L xs) (kd := 7) (mj := 151) (n := 1) rfl (Or.inl rfl) (ys := [.int (nI b)]) (r := []) rfl rfl (by decide) rfl rfl (Nat.le_of_ble_eq_true rfl) (by have h := md_hosts (L := L) (xs := xs) (d := d + 5) (E := E) (nm := nm) (bits := b) (σ := σ) hb32 hE h10 hnm (by omega) (by omega) hsg hok; exact h) ?_
  rintro _ s1 ⟨rfl, hm1, hp1⟩
  exact wg_iret (d138_249 L xs) rfl rfl ⟨rfl, hm1.more (by decide) (by decide), hp1⟩
theorem md_do181_3 {k8 : Nat} (hE : isE s E) (h10 : s.1 141 10 = nI nm.length) (hnm : holdA s 148 0 nm) (hN : t_name (gl nm) 0 nm.length = true) (hb32 : b ≤ 32) (hsg : isSg s σ) (hok : okS σ) : wp L xs (d + 8) 138 181 [some (.ref 141), some (.int (nI f)), some (.int 3), some (.int (nI (c + rd))), some (.int (nI (c + te))), some (.int (nI r)), some (.int (nI (c + S))), some (.int (nI b)), some (.int (nI k8)), some (.int 1)] [] s (fun rv s' => rv = some (.int (xI (x_mc E 3 b nm σ).1)) ∧ mfr s s' nF nA ∧ hPost s s' (x_mc E 3 b nm σ).2 (x_mc E 3 b nm σ).1) := by
  have hnl := t_name_len hN
  refine wg_iload_n (d138_181 L xs) rfl ?_
  refine wg_iconst (d138_182 L xs) (x := 1) (by decide) ?_
  refine wg_icmp_ne (d138_183 L xs) (t := 211) (by decide) (fun _ => ?_) (fun hn => absurd (by decide) hn)
  refine wg_iload (d138_211 L xs) rfl ?_
  refine wg_if_ne (d138_213 L xs) (t := 220) (by decide) (fun _ => ?_) (fun hn => absurd (by decide) hn)
  refine wg_iload_n (d138_220 L xs) rfl ?_
  refine wg_iconst (d138_221 L xs) (x := 3) (by decide) ?_
  refine wg_icmp_ne (d138_222 L xs) (t := 234) (by decide) (fun hp => absurd hp (by decide)) (fun _ => ?_)
  refine wg_aload_n (d138_225 L xs) rfl ?_
  refine wg_iload (d138_226 L xs) rfl ?_
  refine wg_invv (d138_228 L xs) (kd := 7) (mj := 147) (n := 1) rfl (Or.inl rfl) (ys := [.int (nI b)]) (r := []) rfl rfl (by decide) rfl rfl (Nat.le_of_ble_eq_true rfl) (by have h := md_mails (L := L) (xs := xs) (d := d + 3) (E := E) (m := nm) (bits := b) (σ := σ) hb32 hE h10 hnm (by omega) (by omega) hsg hok; exact h) ?_
  rintro _ s1 ⟨rfl, hm1, hp1⟩
  refine wg_goto (d138_231 L xs) (t := 249) (by decide) ?_
  exact wg_iret (d138_249 L xs) rfl rfl ⟨rfl, hm1.more (by decide) (by decide), hp1⟩
theorem md_do181_5 {k8 : Nat} (hE : isE s E) (h10 : s.1 141 10 = nI nm.length) (hnm : holdA s 148 0 nm) (hN : t_name (gl nm) 0 nm.length = true) (hb32 : b ≤ 32) (hsg : isSg s σ) (hok : okS σ) : wp L xs (d + 8) 138 181 [some (.ref 141), some (.int (nI f)), some (.int 5), some (.int (nI (c + rd))), some (.int (nI (c + te))), some (.int (nI r)), some (.int (nI (c + S))), some (.int 32), some (.int (nI k8)), some (.int 1)] [] s (fun rv s' => rv = some (.int (xI (x_mc E 5 b nm σ).1)) ∧ mfr s s' nF nA ∧ hPost s s' (x_mc E 5 b nm σ).2 (x_mc E 5 b nm σ).1) := by
  have hnl := t_name_len hN
  refine wg_iload_n (d138_181 L xs) rfl ?_
  refine wg_iconst (d138_182 L xs) (x := 1) (by decide) ?_
  refine wg_icmp_ne (d138_183 L xs) (t := 211) (by decide) (fun _ => ?_) (fun hn => absurd (by decide) hn)
  refine wg_iload (d138_211 L xs) rfl ?_
  refine wg_if_ne (d138_213 L xs) (t := 220) (by decide) (fun _ => ?_) (fun hn => absurd (by decide) hn)
  refine wg_iload_n (d138_220 L xs) rfl ?_
  refine wg_iconst (d138_221 L xs) (x := 3) (by decide) ?_
  refine wg_icmp_ne (d138_222 L xs) (t := 234) (by decide) (fun _ => ?_) (fun hn => absurd (by decide) hn)
  refine wg_aload_n (d138_234 L xs) rfl ?_
  refine wg_iload_n (d138_235 L xs) rfl ?_
  refine wg_iconst (d138_236 L xs) (x := 5) (by decide) ?_
  refine wg_icmp_ne (d138_237 L xs) (t := 244) (by decide) (fun hp => absurd hp (by decide)) (fun _ => ?_)
  refine wg_iconst (d138_240 L xs) (x := 0) (by decide) ?_
  refine wg_goto (d138_241 L xs) (t := 246) (by decide) ?_
  refine wg_invv (d138_246 L xs) (kd := 7) (mj := 151) (n := 1) rfl (Or.inl rfl) (ys := [.int 0]) (r := []) rfl rfl (by decide) rfl rfl (Nat.le_of_ble_eq_true rfl) (by have h := md_hosts (L := L) (xs := xs) (d := d + 5) (E := E) (nm := nm) (bits := 0) (σ := σ) (by omega) hE h10 hnm (by omega) (by omega) hsg hok; rw [xh_ex] at h; exact h) ?_
  rintro _ s1 ⟨rfl, hm1, hp1⟩
  exact wg_iret (d138_249 L xs) rfl rfl ⟨rfl, hm1.more (by decide) (by decide), hp1⟩
theorem md_do124_2 {res v : Nat} (hX : isX s E r c f D dom) (hSl : S ≤ D.length) (hrS : rd ≤ S) (htg : rd < S → t_tgt (gl D) (rd + 1) S = true) (hb32 : b ≤ 32) (hsg : isSg s σ) (hok : okS σ) : wp L xs (d + 8) 138 124 [some (.ref 141), some (.int (nI f)), some (.int 2), some (.int (nI (c + rd))), some (.int (nI (c + te))), some (.int (nI r)), some (.int (nI (c + S))), some (.int (nI b)), none, none] [] s (fun rv s' => rv = some (.int (xI (x_ma E inn D dom ((2 : Nat), res, (if rd < S then rd + 1 else S), S, b, v) σ).1)) ∧ mfr s s' nF nA ∧ hPost s s' (x_ma E inn D dom ((2 : Nat), res, (if rd < S then rd + 1 else S), S, b, v) σ).2 (x_ma E inn D dom ((2 : Nat), res, (if rd < S then rd + 1 else S), S, b, v) σ).1) := by
  have hR := hX.1
  have hr16 := hR.1
  have hc1 := hR.2.1
  have hcl := hR.2.2.1
  have hl10 := hok.1
  have hdl := t_name_len hX.2.2.2.2.2.2
  by_cases hl : σ.1 < 10
  · rw [ma_b (show ¬ (2 : Nat) = 0 by omega) (show ¬ (2 : Nat) = 4 by omega) hl]
    have hX1 := isX_of hX (mfr_I s (k := 37) (x := nI (σ.1 + 1)) (F := [37]) (A := []) (by decide)) (by decide) (by decide) (by decide) (by decide)
    have hsg1 := isSg_lk hsg
    have hok1 : okS (st_lk σ) := ⟨hl, hok.2⟩
    have m01 : mfr s (mg_I s 141 37 (nI (σ.1 + 1))) nF nA := mfr_I s (by decide)
    by_cases hrd : rd < S
    · have h1S := of_decide_eq_true (Bool.and_eq_true_iff.mp (htg hrd)).1
      have hxn : x_nm E D dom ((2 : Nat), res, (if rd < S then rd + 1 else S), S, b, v) = x_w E D dom (rd + 1) S := by unfold x_nm; dsimp only; rw [if_pos hrd, if_pos h1S]
      cases hN : t_name (gl (x_w E D dom (rd + 1) S)) 0 (x_w E D dom (rd + 1) S).length with
      | false =>
        refine wg_aload_n (d138_124 L xs) rfl ?_
        refine wg_invv (d138_125 L xs) (kd := 7) (mj := 140) (n := 0) rfl (Or.inl rfl) (ys := []) (r := []) rfl rfl (by decide) rfl rfl (Nat.le_of_ble_eq_true rfl) (md_look1 (n := σ.1) hsg.1 hl) ?_
        rintro _ _ ⟨rfl, rfl⟩
        refine wg_if_ne (d138_128 L xs) (t := 133) (by decide) (fun _ => ?_) (fun hn => absurd (by decide) hn)
        refine wg_iload_n (d138_133 L xs) rfl ?_
        refine wg_iconst (d138_134 L xs) (x := 1) (by decide) ?_
        refine wg_icmp_eq (d138_135 L xs) (t := 143) (by decide) (fun hp => absurd hp (by decide)) (fun _ => ?_)
        refine wg_iload_n (d138_138 L xs) rfl ?_
        refine wg_iconst (d138_139 L xs) (x := 5) (by decide) ?_
        refine wg_icmp_ne (d138_140 L xs) (t := 148) (by decide) (fun _ => ?_) (fun hn => absurd (by decide) hn)
        refine wg_iload (d138_148 L xs) rfl ?_
        refine wg_istore (d138_150 L xs) (ls' := [some (.ref 141), some (.int (nI f)), some (.int 2), some (.int (nI (c + rd))), some (.int (nI (c + te))), some (.int (nI r)), some (.int (nI (c + S))), some (.int (nI b)), some (.int (nI (c + S))), none]) (Nat.le_of_ble_eq_true rfl) rfl ?_
        refine wg_iconst (d138_152 L xs) (x := 1) (by decide) ?_
        refine wg_istore (d138_153 L xs) (ls' := [some (.ref 141), some (.int (nI f)), some (.int 2), some (.int (nI (c + rd))), some (.int (nI (c + te))), some (.int (nI r)), some (.int (nI (c + S))), some (.int (nI b)), some (.int (nI (c + S))), some (.int 1)]) (Nat.le_of_ble_eq_true rfl) rfl ?_
        refine wg_iload_n (d138_155 L xs) rfl ?_
        refine wg_iload (d138_156 L xs) rfl ?_
        refine wn_icmp_ge (d138_158 L xs) (x := c + rd) (y := c + S) (by omega) (by omega) (t := 177) (by decide) (fun h24 => by omega) (fun h24 => ?_)
        refine wg_aload_n (d138_161 L xs) rfl ?_
        refine wg_iload (d138_162 L xs) rfl ?_
        refine wg_iload_n (d138_164 L xs) rfl ?_
        refine wg_iconst (d138_165 L xs) (x := 1) (by decide) ?_
        refine wg_iadd (d138_166 L xs) ?_
        refine wg_top (y := (nI (c + rd + 1))) (nI_add (c + rd) 1) ?_
        refine wg_iload (d138_167 L xs) rfl ?_
        refine wg_invv (d138_169 L xs) (kd := 7) (mj := 141) (n := 3) rfl (Or.inl rfl) (ys := [.int (nI (c + S)), .int (nI (c + rd + 1)), .int (nI r)]) (r := []) rfl rfl (by decide) rfl rfl (Nat.le_of_ble_eq_true rfl) (by have h := md_expand (L := L) (xs := xs) (d := d + 5) (s := mg_I s 141 37 (nI (σ.1 + 1))) (i := rd + 1) (j := S) hX1 hSl (htg hrd); rw [hN] at h; exact h) ?_
        rintro _ s2 ⟨rfl, hm2, hn2⟩
        refine wg_istore (d138_172 L xs) (ls' := [some (.ref 141), some (.int (nI f)), some (.int 2), some (.int (nI (c + rd))), some (.int (nI (c + te))), some (.int (nI r)), some (.int (nI (c + S))), some (.int (nI b)), some (.int (nI (c + S))), some (.int 0)]) (Nat.le_of_ble_eq_true rfl) rfl ?_
        refine wg_goto (d138_174 L xs) (t := 181) (by decide) ?_
        refine wg_iload_n (d138_181 L xs) rfl ?_
        refine wg_iconst (d138_182 L xs) (x := 1) (by decide) ?_
        refine wg_icmp_ne (d138_183 L xs) (t := 211) (by decide) (fun _ => ?_) (fun hn => absurd (by decide) hn)
        refine wg_iload (d138_211 L xs) rfl ?_
        refine wg_if_ne (d138_213 L xs) (t := 220) (by decide) (fun hp => absurd hp (by decide)) (fun _ => ?_)
        refine wg_iconst (d138_216 L xs) (x := 0) (by decide) ?_
        refine wg_goto (d138_217 L xs) (t := 249) (by decide) ?_
        exact wg_iret (d138_249 L xs) rfl rfl ⟨by rw [mb_n (show ¬ (2 : Nat) = 1 by omega) (by rw [hxn]; exact hN)]; rfl, m01.trans (hm2.more (by decide) (by decide)), by rw [mb_n (show ¬ (2 : Nat) = 1 by omega) (by rw [hxn]; exact hN)]; exact ⟨isSg_of hsg1 hm2 (by decide) (by decide), fun _ => hm2.2.1 23 (by decide), fun z => absurd z (by show ¬ 5 ≤ 0; omega)⟩⟩
      | true =>
        refine wg_aload_n (d138_124 L xs) rfl ?_
        refine wg_invv (d138_125 L xs) (kd := 7) (mj := 140) (n := 0) rfl (Or.inl rfl) (ys := []) (r := []) rfl rfl (by decide) rfl rfl (Nat.le_of_ble_eq_true rfl) (md_look1 (n := σ.1) hsg.1 hl) ?_
        rintro _ _ ⟨rfl, rfl⟩
        refine wg_if_ne (d138_128 L xs) (t := 133) (by decide) (fun _ => ?_) (fun hn => absurd (by decide) hn)
        refine wg_iload_n (d138_133 L xs) rfl ?_
        refine wg_iconst (d138_134 L xs) (x := 1) (by decide) ?_
        refine wg_icmp_eq (d138_135 L xs) (t := 143) (by decide) (fun hp => absurd hp (by decide)) (fun _ => ?_)
        refine wg_iload_n (d138_138 L xs) rfl ?_
        refine wg_iconst (d138_139 L xs) (x := 5) (by decide) ?_
        refine wg_icmp_ne (d138_140 L xs) (t := 148) (by decide) (fun _ => ?_) (fun hn => absurd (by decide) hn)
        refine wg_iload (d138_148 L xs) rfl ?_
        refine wg_istore (d138_150 L xs) (ls' := [some (.ref 141), some (.int (nI f)), some (.int 2), some (.int (nI (c + rd))), some (.int (nI (c + te))), some (.int (nI r)), some (.int (nI (c + S))), some (.int (nI b)), some (.int (nI (c + S))), none]) (Nat.le_of_ble_eq_true rfl) rfl ?_
        refine wg_iconst (d138_152 L xs) (x := 1) (by decide) ?_
        refine wg_istore (d138_153 L xs) (ls' := [some (.ref 141), some (.int (nI f)), some (.int 2), some (.int (nI (c + rd))), some (.int (nI (c + te))), some (.int (nI r)), some (.int (nI (c + S))), some (.int (nI b)), some (.int (nI (c + S))), some (.int 1)]) (Nat.le_of_ble_eq_true rfl) rfl ?_
        refine wg_iload_n (d138_155 L xs) rfl ?_
        refine wg_iload (d138_156 L xs) rfl ?_
        refine wn_icmp_ge (d138_158 L xs) (x := c + rd) (y := c + S) (by omega) (by omega) (t := 177) (by decide) (fun h24 => by omega) (fun h24 => ?_)
        refine wg_aload_n (d138_161 L xs) rfl ?_
        refine wg_iload (d138_162 L xs) rfl ?_
        refine wg_iload_n (d138_164 L xs) rfl ?_
        refine wg_iconst (d138_165 L xs) (x := 1) (by decide) ?_
        refine wg_iadd (d138_166 L xs) ?_
        refine wg_top (y := (nI (c + rd + 1))) (nI_add (c + rd) 1) ?_
        refine wg_iload (d138_167 L xs) rfl ?_
        refine wg_invv (d138_169 L xs) (kd := 7) (mj := 141) (n := 3) rfl (Or.inl rfl) (ys := [.int (nI (c + S)), .int (nI (c + rd + 1)), .int (nI r)]) (r := []) rfl rfl (by decide) rfl rfl (Nat.le_of_ble_eq_true rfl) (by have h := md_expand (L := L) (xs := xs) (d := d + 5) (s := mg_I s 141 37 (nI (σ.1 + 1))) (i := rd + 1) (j := S) hX1 hSl (htg hrd); rw [hN] at h; exact h) ?_
        rintro _ s2 ⟨rfl, hm2, hn2⟩
        refine wg_istore (d138_172 L xs) (ls' := [some (.ref 141), some (.int (nI f)), some (.int 2), some (.int (nI (c + rd))), some (.int (nI (c + te))), some (.int (nI r)), some (.int (nI (c + S))), some (.int (nI b)), some (.int (nI (c + S))), some (.int 1)]) (Nat.le_of_ble_eq_true rfl) rfl ?_
        refine wg_goto (d138_174 L xs) (t := 181) (by decide) ?_
        rw [mb_c (show ¬ (2 : Nat) = 1 by omega) (by rw [hxn]; exact hN), hxn]
        have hm02 := m01.trans (hm2.more (F' := nF) (A' := nA) (by decide) (by decide))
        have e23 : s2.1 141 23 = s.1 141 23 := hm2.2.1 23 (by decide)
        exact wp_mono (md_do181_2 (nm := (x_w E D dom (rd + 1) S)) (isE_of hX1.2.1 hm2 (by decide) (by decide)) (hn2 rfl).1 (hn2 rfl).2 hN hb32 (isSg_of hsg1 hm2 (by decide) (by decide)) hok1) (fun r s' h => ⟨h.1, hm02.trans h.2.1, h.2.2.1, fun z => (h.2.2.2.1 z).trans e23, h.2.2.2.2⟩)
    · have hxn : x_nm E D dom ((2 : Nat), res, (if rd < S then rd + 1 else S), S, b, v) = dom := by unfold x_nm; dsimp only; rw [if_neg hrd, if_neg (by omega)]
      refine wg_aload_n (d138_124 L xs) rfl ?_
      refine wg_invv (d138_125 L xs) (kd := 7) (mj := 140) (n := 0) rfl (Or.inl rfl) (ys := []) (r := []) rfl rfl (by decide) rfl rfl (Nat.le_of_ble_eq_true rfl) (md_look1 (n := σ.1) hsg.1 hl) ?_
      rintro _ _ ⟨rfl, rfl⟩
      refine wg_if_ne (d138_128 L xs) (t := 133) (by decide) (fun _ => ?_) (fun hn => absurd (by decide) hn)
      refine wg_iload_n (d138_133 L xs) rfl ?_
      refine wg_iconst (d138_134 L xs) (x := 1) (by decide) ?_
      refine wg_icmp_eq (d138_135 L xs) (t := 143) (by decide) (fun hp => absurd hp (by decide)) (fun _ => ?_)
      refine wg_iload_n (d138_138 L xs) rfl ?_
      refine wg_iconst (d138_139 L xs) (x := 5) (by decide) ?_
      refine wg_icmp_ne (d138_140 L xs) (t := 148) (by decide) (fun _ => ?_) (fun hn => absurd (by decide) hn)
      refine wg_iload (d138_148 L xs) rfl ?_
      refine wg_istore (d138_150 L xs) (ls' := [some (.ref 141), some (.int (nI f)), some (.int 2), some (.int (nI (c + rd))), some (.int (nI (c + te))), some (.int (nI r)), some (.int (nI (c + S))), some (.int (nI b)), some (.int (nI (c + S))), none]) (Nat.le_of_ble_eq_true rfl) rfl ?_
      refine wg_iconst (d138_152 L xs) (x := 1) (by decide) ?_
      refine wg_istore (d138_153 L xs) (ls' := [some (.ref 141), some (.int (nI f)), some (.int 2), some (.int (nI (c + rd))), some (.int (nI (c + te))), some (.int (nI r)), some (.int (nI (c + S))), some (.int (nI b)), some (.int (nI (c + S))), some (.int 1)]) (Nat.le_of_ble_eq_true rfl) rfl ?_
      refine wg_iload_n (d138_155 L xs) rfl ?_
      refine wg_iload (d138_156 L xs) rfl ?_
      refine wn_icmp_ge (d138_158 L xs) (x := c + rd) (y := c + S) (by omega) (by omega) (t := 177) (by decide) (fun h24 => ?_) (fun h24 => by omega)
      refine wg_aload_n (d138_177 L xs) rfl ?_
      refine wg_invv (d138_178 L xs) (kd := 7) (mj := 146) (n := 0) rfl (Or.inl rfl) (ys := []) (r := []) rfl rfl (by decide) rfl rfl (Nat.le_of_ble_eq_true rfl) (md_named (l := dom) hX1.2.2.1 (by omega) hX1.2.2.2.1 hX1.2.2.2.2.1 hX1.2.2.2.2.2.1) ?_
      rintro _ s2 ⟨rfl, hm2, b10, bnm⟩
      rw [mb_c (show ¬ (2 : Nat) = 1 by omega) (by rw [hxn]; exact hX.2.2.2.2.2.2), hxn]
      have hm02 := m01.trans (hm2.more (F' := nF) (A' := nA) (by decide) (by decide))
      have e23 : s2.1 141 23 = s.1 141 23 := hm2.2.1 23 (by decide)
      exact wp_mono (md_do181_2 (nm := dom) (isE_of hX1.2.1 hm2 (by decide) (by decide)) b10 bnm hX.2.2.2.2.2.2 hb32 (isSg_of hsg1 hm2 (by decide) (by decide)) hok1) (fun r s' h => ⟨h.1, hm02.trans h.2.1, h.2.2.1, fun z => (h.2.2.2.1 z).trans e23, h.2.2.2.2⟩)
  · refine wg_aload_n (d138_124 L xs) rfl ?_
    refine wg_invv (d138_125 L xs) (kd := 7) (mj := 140) (n := 0) rfl (Or.inl rfl) (ys := []) (r := []) rfl rfl (by decide) rfl rfl (Nat.le_of_ble_eq_true rfl) (md_look0 (n := σ.1) hsg.1 (by omega)) ?_
    rintro _ _ ⟨rfl, rfl⟩
    refine wg_if_ne (d138_128 L xs) (t := 133) (by decide) (fun hp => absurd hp (by decide)) (fun _ => ?_)
    refine wg_iconst (d138_131 L xs) (x := (-1)) (by decide) ?_
    exact wg_iret (d138_132 L xs) rfl rfl ⟨by rw [ma_6 (show ¬ (2 : Nat) = 0 by omega) (show ¬ (2 : Nat) = 4 by omega) hl]; rfl, (mfr_I s (by decide)).trans (mfr_I _ (by decide)), by rw [ma_6 (show ¬ (2 : Nat) = 0 by omega) (show ¬ (2 : Nat) = 4 by omega) hl]; exact ⟨isSg_I (isSg_I hsg (by decide)) (by decide), fun z => absurd z (by show ¬ 6 < 5; omega), fun _ => ⟨rfl, rfl⟩⟩⟩
theorem md_do124_3 {res v : Nat} (hX : isX s E r c f D dom) (hSl : S ≤ D.length) (hrS : rd ≤ S) (htg : rd < S → t_tgt (gl D) (rd + 1) S = true) (hb32 : b ≤ 32) (hsg : isSg s σ) (hok : okS σ) : wp L xs (d + 8) 138 124 [some (.ref 141), some (.int (nI f)), some (.int 3), some (.int (nI (c + rd))), some (.int (nI (c + te))), some (.int (nI r)), some (.int (nI (c + S))), some (.int (nI b)), none, none] [] s (fun rv s' => rv = some (.int (xI (x_ma E inn D dom ((3 : Nat), res, (if rd < S then rd + 1 else S), S, b, v) σ).1)) ∧ mfr s s' nF nA ∧ hPost s s' (x_ma E inn D dom ((3 : Nat), res, (if rd < S then rd + 1 else S), S, b, v) σ).2 (x_ma E inn D dom ((3 : Nat), res, (if rd < S then rd + 1 else S), S, b, v) σ).1) := by
  have hR := hX.1
  have hr16 := hR.1
  have hc1 := hR.2.1
  have hcl := hR.2.2.1
  have hl10 := hok.1
  have hdl := t_name_len hX.2.2.2.2.2.2
  by_cases hl : σ.1 < 10
  · rw [ma_b (show ¬ (3 : Nat) = 0 by omega) (show ¬ (3 : Nat) = 4 by omega) hl]
    have hX1 := isX_of hX (mfr_I s (k := 37) (x := nI (σ.1 + 1)) (F := [37]) (A := []) (by decide)) (by decide) (by decide) (by decide) (by decide)
    have hsg1 := isSg_lk hsg
    have hok1 : okS (st_lk σ) := ⟨hl, hok.2⟩
    have m01 : mfr s (mg_I s 141 37 (nI (σ.1 + 1))) nF nA := mfr_I s (by decide)
    by_cases hrd : rd < S
    · have h1S := of_decide_eq_true (Bool.and_eq_true_iff.mp (htg hrd)).1
      have hxn : x_nm E D dom ((3 : Nat), res, (if rd < S then rd + 1 else S), S, b, v) = x_w E D dom (rd + 1) S := by unfold x_nm; dsimp only; rw [if_pos hrd, if_pos h1S]
      cases hN : t_name (gl (x_w E D dom (rd + 1) S)) 0 (x_w E D dom (rd + 1) S).length with
      | false =>
        refine wg_aload_n (d138_124 L xs) rfl ?_
        refine wg_invv (d138_125 L xs) (kd := 7) (mj := 140) (n := 0) rfl (Or.inl rfl) (ys := []) (r := []) rfl rfl (by decide) rfl rfl (Nat.le_of_ble_eq_true rfl) (md_look1 (n := σ.1) hsg.1 hl) ?_
        rintro _ _ ⟨rfl, rfl⟩
        refine wg_if_ne (d138_128 L xs) (t := 133) (by decide) (fun _ => ?_) (fun hn => absurd (by decide) hn)
        refine wg_iload_n (d138_133 L xs) rfl ?_
        refine wg_iconst (d138_134 L xs) (x := 1) (by decide) ?_
        refine wg_icmp_eq (d138_135 L xs) (t := 143) (by decide) (fun hp => absurd hp (by decide)) (fun _ => ?_)
        refine wg_iload_n (d138_138 L xs) rfl ?_
        refine wg_iconst (d138_139 L xs) (x := 5) (by decide) ?_
        refine wg_icmp_ne (d138_140 L xs) (t := 148) (by decide) (fun _ => ?_) (fun hn => absurd (by decide) hn)
        refine wg_iload (d138_148 L xs) rfl ?_
        refine wg_istore (d138_150 L xs) (ls' := [some (.ref 141), some (.int (nI f)), some (.int 3), some (.int (nI (c + rd))), some (.int (nI (c + te))), some (.int (nI r)), some (.int (nI (c + S))), some (.int (nI b)), some (.int (nI (c + S))), none]) (Nat.le_of_ble_eq_true rfl) rfl ?_
        refine wg_iconst (d138_152 L xs) (x := 1) (by decide) ?_
        refine wg_istore (d138_153 L xs) (ls' := [some (.ref 141), some (.int (nI f)), some (.int 3), some (.int (nI (c + rd))), some (.int (nI (c + te))), some (.int (nI r)), some (.int (nI (c + S))), some (.int (nI b)), some (.int (nI (c + S))), some (.int 1)]) (Nat.le_of_ble_eq_true rfl) rfl ?_
        refine wg_iload_n (d138_155 L xs) rfl ?_
        refine wg_iload (d138_156 L xs) rfl ?_
        refine wn_icmp_ge (d138_158 L xs) (x := c + rd) (y := c + S) (by omega) (by omega) (t := 177) (by decide) (fun h24 => by omega) (fun h24 => ?_)
        refine wg_aload_n (d138_161 L xs) rfl ?_
        refine wg_iload (d138_162 L xs) rfl ?_
        refine wg_iload_n (d138_164 L xs) rfl ?_
        refine wg_iconst (d138_165 L xs) (x := 1) (by decide) ?_
        refine wg_iadd (d138_166 L xs) ?_
        refine wg_top (y := (nI (c + rd + 1))) (nI_add (c + rd) 1) ?_
        refine wg_iload (d138_167 L xs) rfl ?_
        refine wg_invv (d138_169 L xs) (kd := 7) (mj := 141) (n := 3) rfl (Or.inl rfl) (ys := [.int (nI (c + S)), .int (nI (c + rd + 1)), .int (nI r)]) (r := []) rfl rfl (by decide) rfl rfl (Nat.le_of_ble_eq_true rfl) (by have h := md_expand (L := L) (xs := xs) (d := d + 5) (s := mg_I s 141 37 (nI (σ.1 + 1))) (i := rd + 1) (j := S) hX1 hSl (htg hrd); rw [hN] at h; exact h) ?_
        rintro _ s2 ⟨rfl, hm2, hn2⟩
        refine wg_istore (d138_172 L xs) (ls' := [some (.ref 141), some (.int (nI f)), some (.int 3), some (.int (nI (c + rd))), some (.int (nI (c + te))), some (.int (nI r)), some (.int (nI (c + S))), some (.int (nI b)), some (.int (nI (c + S))), some (.int 0)]) (Nat.le_of_ble_eq_true rfl) rfl ?_
        refine wg_goto (d138_174 L xs) (t := 181) (by decide) ?_
        refine wg_iload_n (d138_181 L xs) rfl ?_
        refine wg_iconst (d138_182 L xs) (x := 1) (by decide) ?_
        refine wg_icmp_ne (d138_183 L xs) (t := 211) (by decide) (fun _ => ?_) (fun hn => absurd (by decide) hn)
        refine wg_iload (d138_211 L xs) rfl ?_
        refine wg_if_ne (d138_213 L xs) (t := 220) (by decide) (fun hp => absurd hp (by decide)) (fun _ => ?_)
        refine wg_iconst (d138_216 L xs) (x := 0) (by decide) ?_
        refine wg_goto (d138_217 L xs) (t := 249) (by decide) ?_
        exact wg_iret (d138_249 L xs) rfl rfl ⟨by rw [mb_n (show ¬ (3 : Nat) = 1 by omega) (by rw [hxn]; exact hN)]; rfl, m01.trans (hm2.more (by decide) (by decide)), by rw [mb_n (show ¬ (3 : Nat) = 1 by omega) (by rw [hxn]; exact hN)]; exact ⟨isSg_of hsg1 hm2 (by decide) (by decide), fun _ => hm2.2.1 23 (by decide), fun z => absurd z (by show ¬ 5 ≤ 0; omega)⟩⟩
      | true =>
        refine wg_aload_n (d138_124 L xs) rfl ?_
        refine wg_invv (d138_125 L xs) (kd := 7) (mj := 140) (n := 0) rfl (Or.inl rfl) (ys := []) (r := []) rfl rfl (by decide) rfl rfl (Nat.le_of_ble_eq_true rfl) (md_look1 (n := σ.1) hsg.1 hl) ?_
        rintro _ _ ⟨rfl, rfl⟩
        refine wg_if_ne (d138_128 L xs) (t := 133) (by decide) (fun _ => ?_) (fun hn => absurd (by decide) hn)
        refine wg_iload_n (d138_133 L xs) rfl ?_
        refine wg_iconst (d138_134 L xs) (x := 1) (by decide) ?_
        refine wg_icmp_eq (d138_135 L xs) (t := 143) (by decide) (fun hp => absurd hp (by decide)) (fun _ => ?_)
        refine wg_iload_n (d138_138 L xs) rfl ?_
        refine wg_iconst (d138_139 L xs) (x := 5) (by decide) ?_
        refine wg_icmp_ne (d138_140 L xs) (t := 148) (by decide) (fun _ => ?_) (fun hn => absurd (by decide) hn)
        refine wg_iload (d138_148 L xs) rfl ?_
        refine wg_istore (d138_150 L xs) (ls' := [some (.ref 141), some (.int (nI f)), some (.int 3), some (.int (nI (c + rd))), some (.int (nI (c + te))), some (.int (nI r)), some (.int (nI (c + S))), some (.int (nI b)), some (.int (nI (c + S))), none]) (Nat.le_of_ble_eq_true rfl) rfl ?_
        refine wg_iconst (d138_152 L xs) (x := 1) (by decide) ?_
        refine wg_istore (d138_153 L xs) (ls' := [some (.ref 141), some (.int (nI f)), some (.int 3), some (.int (nI (c + rd))), some (.int (nI (c + te))), some (.int (nI r)), some (.int (nI (c + S))), some (.int (nI b)), some (.int (nI (c + S))), some (.int 1)]) (Nat.le_of_ble_eq_true rfl) rfl ?_
        refine wg_iload_n (d138_155 L xs) rfl ?_
        refine wg_iload (d138_156 L xs) rfl ?_
        refine wn_icmp_ge (d138_158 L xs) (x := c + rd) (y := c + S) (by omega) (by omega) (t := 177) (by decide) (fun h24 => by omega) (fun h24 => ?_)
        refine wg_aload_n (d138_161 L xs) rfl ?_
        refine wg_iload (d138_162 L xs) rfl ?_
        refine wg_iload_n (d138_164 L xs) rfl ?_
        refine wg_iconst (d138_165 L xs) (x := 1) (by decide) ?_
        refine wg_iadd (d138_166 L xs) ?_
        refine wg_top (y := (nI (c + rd + 1))) (nI_add (c + rd) 1) ?_
        refine wg_iload (d138_167 L xs) rfl ?_
        refine wg_invv (d138_169 L xs) (kd := 7) (mj := 141) (n := 3) rfl (Or.inl rfl) (ys := [.int (nI (c + S)), .int (nI (c + rd + 1)), .int (nI r)]) (r := []) rfl rfl (by decide) rfl rfl (Nat.le_of_ble_eq_true rfl) (by have h := md_expand (L := L) (xs := xs) (d := d + 5) (s := mg_I s 141 37 (nI (σ.1 + 1))) (i := rd + 1) (j := S) hX1 hSl (htg hrd); rw [hN] at h; exact h) ?_
        rintro _ s2 ⟨rfl, hm2, hn2⟩
        refine wg_istore (d138_172 L xs) (ls' := [some (.ref 141), some (.int (nI f)), some (.int 3), some (.int (nI (c + rd))), some (.int (nI (c + te))), some (.int (nI r)), some (.int (nI (c + S))), some (.int (nI b)), some (.int (nI (c + S))), some (.int 1)]) (Nat.le_of_ble_eq_true rfl) rfl ?_
        refine wg_goto (d138_174 L xs) (t := 181) (by decide) ?_
        rw [mb_c (show ¬ (3 : Nat) = 1 by omega) (by rw [hxn]; exact hN), hxn]
        have hm02 := m01.trans (hm2.more (F' := nF) (A' := nA) (by decide) (by decide))
        have e23 : s2.1 141 23 = s.1 141 23 := hm2.2.1 23 (by decide)
        exact wp_mono (md_do181_3 (nm := (x_w E D dom (rd + 1) S)) (isE_of hX1.2.1 hm2 (by decide) (by decide)) (hn2 rfl).1 (hn2 rfl).2 hN hb32 (isSg_of hsg1 hm2 (by decide) (by decide)) hok1) (fun r s' h => ⟨h.1, hm02.trans h.2.1, h.2.2.1, fun z => (h.2.2.2.1 z).trans e23, h.2.2.2.2⟩)
    · have hxn : x_nm E D dom ((3 : Nat), res, (if rd < S then rd + 1 else S), S, b, v) = dom := by unfold x_nm; dsimp only; rw [if_neg hrd, if_neg (by omega)]
      refine wg_aload_n (d138_124 L xs) rfl ?_
      refine wg_invv (d138_125 L xs) (kd := 7) (mj := 140) (n := 0) rfl (Or.inl rfl) (ys := []) (r := []) rfl rfl (by decide) rfl rfl (Nat.le_of_ble_eq_true rfl) (md_look1 (n := σ.1) hsg.1 hl) ?_
      rintro _ _ ⟨rfl, rfl⟩
      refine wg_if_ne (d138_128 L xs) (t := 133) (by decide) (fun _ => ?_) (fun hn => absurd (by decide) hn)
      refine wg_iload_n (d138_133 L xs) rfl ?_
      refine wg_iconst (d138_134 L xs) (x := 1) (by decide) ?_
      refine wg_icmp_eq (d138_135 L xs) (t := 143) (by decide) (fun hp => absurd hp (by decide)) (fun _ => ?_)
      refine wg_iload_n (d138_138 L xs) rfl ?_
      refine wg_iconst (d138_139 L xs) (x := 5) (by decide) ?_
      refine wg_icmp_ne (d138_140 L xs) (t := 148) (by decide) (fun _ => ?_) (fun hn => absurd (by decide) hn)
      refine wg_iload (d138_148 L xs) rfl ?_
      refine wg_istore (d138_150 L xs) (ls' := [some (.ref 141), some (.int (nI f)), some (.int 3), some (.int (nI (c + rd))), some (.int (nI (c + te))), some (.int (nI r)), some (.int (nI (c + S))), some (.int (nI b)), some (.int (nI (c + S))), none]) (Nat.le_of_ble_eq_true rfl) rfl ?_
      refine wg_iconst (d138_152 L xs) (x := 1) (by decide) ?_
      refine wg_istore (d138_153 L xs) (ls' := [some (.ref 141), some (.int (nI f)), some (.int 3), some (.int (nI (c + rd))), some (.int (nI (c + te))), some (.int (nI r)), some (.int (nI (c + S))), some (.int (nI b)), some (.int (nI (c + S))), some (.int 1)]) (Nat.le_of_ble_eq_true rfl) rfl ?_
      refine wg_iload_n (d138_155 L xs) rfl ?_
      refine wg_iload (d138_156 L xs) rfl ?_
      refine wn_icmp_ge (d138_158 L xs) (x := c + rd) (y := c + S) (by omega) (by omega) (t := 177) (by decide) (fun h24 => ?_) (fun h24 => by omega)
      refine wg_aload_n (d138_177 L xs) rfl ?_
      refine wg_invv (d138_178 L xs) (kd := 7) (mj := 146) (n := 0) rfl (Or.inl rfl) (ys := []) (r := []) rfl rfl (by decide) rfl rfl (Nat.le_of_ble_eq_true rfl) (md_named (l := dom) hX1.2.2.1 (by omega) hX1.2.2.2.1 hX1.2.2.2.2.1 hX1.2.2.2.2.2.1) ?_
      rintro _ s2 ⟨rfl, hm2, b10, bnm⟩
      rw [mb_c (show ¬ (3 : Nat) = 1 by omega) (by rw [hxn]; exact hX.2.2.2.2.2.2), hxn]
      have hm02 := m01.trans (hm2.more (F' := nF) (A' := nA) (by decide) (by decide))
      have e23 : s2.1 141 23 = s.1 141 23 := hm2.2.1 23 (by decide)
      exact wp_mono (md_do181_3 (nm := dom) (isE_of hX1.2.1 hm2 (by decide) (by decide)) b10 bnm hX.2.2.2.2.2.2 hb32 (isSg_of hsg1 hm2 (by decide) (by decide)) hok1) (fun r s' h => ⟨h.1, hm02.trans h.2.1, h.2.2.1, fun z => (h.2.2.2.1 z).trans e23, h.2.2.2.2⟩)
  · refine wg_aload_n (d138_124 L xs) rfl ?_
    refine wg_invv (d138_125 L xs) (kd := 7) (mj := 140) (n := 0) rfl (Or.inl rfl) (ys := []) (r := []) rfl rfl (by decide) rfl rfl (Nat.le_of_ble_eq_true rfl) (md_look0 (n := σ.1) hsg.1 (by omega)) ?_
    rintro _ _ ⟨rfl, rfl⟩
    refine wg_if_ne (d138_128 L xs) (t := 133) (by decide) (fun hp => absurd hp (by decide)) (fun _ => ?_)
    refine wg_iconst (d138_131 L xs) (x := (-1)) (by decide) ?_
    exact wg_iret (d138_132 L xs) rfl rfl ⟨by rw [ma_6 (show ¬ (3 : Nat) = 0 by omega) (show ¬ (3 : Nat) = 4 by omega) hl]; rfl, (mfr_I s (by decide)).trans (mfr_I _ (by decide)), by rw [ma_6 (show ¬ (3 : Nat) = 0 by omega) (show ¬ (3 : Nat) = 4 by omega) hl]; exact ⟨isSg_I (isSg_I hsg (by decide)) (by decide), fun z => absurd z (by show ¬ 6 < 5; omega), fun _ => ⟨rfl, rfl⟩⟩⟩
theorem md_do124_5 {res v : Nat} (hX : isX s E r c f D dom) (hSl : S ≤ D.length) (hrS : rd ≤ S) (htg : rd < S → t_tgt (gl D) (rd + 1) S = true) (hb32 : b ≤ 32) (hsg : isSg s σ) (hok : okS σ) : wp L xs (d + 8) 138 124 [some (.ref 141), some (.int (nI f)), some (.int 5), some (.int (nI (c + rd))), some (.int (nI (c + S))), some (.int (nI r)), some (.int (nI (c + S))), some (.int 32), none, none] [] s (fun rv s' => rv = some (.int (xI (x_ma E inn D dom ((5 : Nat), res, (if rd < S then rd + 1 else S), S, b, v) σ).1)) ∧ mfr s s' nF nA ∧ hPost s s' (x_ma E inn D dom ((5 : Nat), res, (if rd < S then rd + 1 else S), S, b, v) σ).2 (x_ma E inn D dom ((5 : Nat), res, (if rd < S then rd + 1 else S), S, b, v) σ).1) := by
  have hR := hX.1
  have hr16 := hR.1
  have hc1 := hR.2.1
  have hcl := hR.2.2.1
  have hl10 := hok.1
  have hdl := t_name_len hX.2.2.2.2.2.2
  by_cases hl : σ.1 < 10
  · rw [ma_b (show ¬ (5 : Nat) = 0 by omega) (show ¬ (5 : Nat) = 4 by omega) hl]
    have hX1 := isX_of hX (mfr_I s (k := 37) (x := nI (σ.1 + 1)) (F := [37]) (A := []) (by decide)) (by decide) (by decide) (by decide) (by decide)
    have hsg1 := isSg_lk hsg
    have hok1 : okS (st_lk σ) := ⟨hl, hok.2⟩
    have m01 : mfr s (mg_I s 141 37 (nI (σ.1 + 1))) nF nA := mfr_I s (by decide)
    by_cases hrd : rd < S
    · have h1S := of_decide_eq_true (Bool.and_eq_true_iff.mp (htg hrd)).1
      have hxn : x_nm E D dom ((5 : Nat), res, (if rd < S then rd + 1 else S), S, b, v) = x_w E D dom (rd + 1) S := by unfold x_nm; dsimp only; rw [if_pos hrd, if_pos h1S]
      cases hN : t_name (gl (x_w E D dom (rd + 1) S)) 0 (x_w E D dom (rd + 1) S).length with
      | false =>
        refine wg_aload_n (d138_124 L xs) rfl ?_
        refine wg_invv (d138_125 L xs) (kd := 7) (mj := 140) (n := 0) rfl (Or.inl rfl) (ys := []) (r := []) rfl rfl (by decide) rfl rfl (Nat.le_of_ble_eq_true rfl) (md_look1 (n := σ.1) hsg.1 hl) ?_
        rintro _ _ ⟨rfl, rfl⟩
        refine wg_if_ne (d138_128 L xs) (t := 133) (by decide) (fun _ => ?_) (fun hn => absurd (by decide) hn)
        refine wg_iload_n (d138_133 L xs) rfl ?_
        refine wg_iconst (d138_134 L xs) (x := 1) (by decide) ?_
        refine wg_icmp_eq (d138_135 L xs) (t := 143) (by decide) (fun hp => absurd hp (by decide)) (fun _ => ?_)
        refine wg_iload_n (d138_138 L xs) rfl ?_
        refine wg_iconst (d138_139 L xs) (x := 5) (by decide) ?_
        refine wg_icmp_ne (d138_140 L xs) (t := 148) (by decide) (fun hp => absurd hp (by decide)) (fun _ => ?_)
        refine wg_iload (d138_143 L xs) rfl ?_
        refine wg_goto (d138_145 L xs) (t := 150) (by decide) ?_
        refine wg_istore (d138_150 L xs) (ls' := [some (.ref 141), some (.int (nI f)), some (.int 5), some (.int (nI (c + rd))), some (.int (nI (c + S))), some (.int (nI r)), some (.int (nI (c + S))), some (.int 32), some (.int (nI (c + S))), none]) (Nat.le_of_ble_eq_true rfl) rfl ?_
        refine wg_iconst (d138_152 L xs) (x := 1) (by decide) ?_
        refine wg_istore (d138_153 L xs) (ls' := [some (.ref 141), some (.int (nI f)), some (.int 5), some (.int (nI (c + rd))), some (.int (nI (c + S))), some (.int (nI r)), some (.int (nI (c + S))), some (.int 32), some (.int (nI (c + S))), some (.int 1)]) (Nat.le_of_ble_eq_true rfl) rfl ?_
        refine wg_iload_n (d138_155 L xs) rfl ?_
        refine wg_iload (d138_156 L xs) rfl ?_
        refine wn_icmp_ge (d138_158 L xs) (x := c + rd) (y := c + S) (by omega) (by omega) (t := 177) (by decide) (fun h24 => by omega) (fun h24 => ?_)
        refine wg_aload_n (d138_161 L xs) rfl ?_
        refine wg_iload (d138_162 L xs) rfl ?_
        refine wg_iload_n (d138_164 L xs) rfl ?_
        refine wg_iconst (d138_165 L xs) (x := 1) (by decide) ?_
        refine wg_iadd (d138_166 L xs) ?_
        refine wg_top (y := (nI (c + rd + 1))) (nI_add (c + rd) 1) ?_
        refine wg_iload (d138_167 L xs) rfl ?_
        refine wg_invv (d138_169 L xs) (kd := 7) (mj := 141) (n := 3) rfl (Or.inl rfl) (ys := [.int (nI (c + S)), .int (nI (c + rd + 1)), .int (nI r)]) (r := []) rfl rfl (by decide) rfl rfl (Nat.le_of_ble_eq_true rfl) (by have h := md_expand (L := L) (xs := xs) (d := d + 5) (s := mg_I s 141 37 (nI (σ.1 + 1))) (i := rd + 1) (j := S) hX1 hSl (htg hrd); rw [hN] at h; exact h) ?_
        rintro _ s2 ⟨rfl, hm2, hn2⟩
        refine wg_istore (d138_172 L xs) (ls' := [some (.ref 141), some (.int (nI f)), some (.int 5), some (.int (nI (c + rd))), some (.int (nI (c + S))), some (.int (nI r)), some (.int (nI (c + S))), some (.int 32), some (.int (nI (c + S))), some (.int 0)]) (Nat.le_of_ble_eq_true rfl) rfl ?_
        refine wg_goto (d138_174 L xs) (t := 181) (by decide) ?_
        refine wg_iload_n (d138_181 L xs) rfl ?_
        refine wg_iconst (d138_182 L xs) (x := 1) (by decide) ?_
        refine wg_icmp_ne (d138_183 L xs) (t := 211) (by decide) (fun _ => ?_) (fun hn => absurd (by decide) hn)
        refine wg_iload (d138_211 L xs) rfl ?_
        refine wg_if_ne (d138_213 L xs) (t := 220) (by decide) (fun hp => absurd hp (by decide)) (fun _ => ?_)
        refine wg_iconst (d138_216 L xs) (x := 0) (by decide) ?_
        refine wg_goto (d138_217 L xs) (t := 249) (by decide) ?_
        exact wg_iret (d138_249 L xs) rfl rfl ⟨by rw [mb_n (show ¬ (5 : Nat) = 1 by omega) (by rw [hxn]; exact hN)]; rfl, m01.trans (hm2.more (by decide) (by decide)), by rw [mb_n (show ¬ (5 : Nat) = 1 by omega) (by rw [hxn]; exact hN)]; exact ⟨isSg_of hsg1 hm2 (by decide) (by decide), fun _ => hm2.2.1 23 (by decide), fun z => absurd z (by show ¬ 5 ≤ 0; omega)⟩⟩
      | true =>
        refine wg_aload_n (d138_124 L xs) rfl ?_
        refine wg_invv (d138_125 L xs) (kd := 7) (mj := 140) (n := 0) rfl (Or.inl rfl) (ys := []) (r := []) rfl rfl (by decide) rfl rfl (Nat.le_of_ble_eq_true rfl) (md_look1 (n := σ.1) hsg.1 hl) ?_
        rintro _ _ ⟨rfl, rfl⟩
        refine wg_if_ne (d138_128 L xs) (t := 133) (by decide) (fun _ => ?_) (fun hn => absurd (by decide) hn)
        refine wg_iload_n (d138_133 L xs) rfl ?_
        refine wg_iconst (d138_134 L xs) (x := 1) (by decide) ?_
        refine wg_icmp_eq (d138_135 L xs) (t := 143) (by decide) (fun hp => absurd hp (by decide)) (fun _ => ?_)
        refine wg_iload_n (d138_138 L xs) rfl ?_
        refine wg_iconst (d138_139 L xs) (x := 5) (by decide) ?_
        refine wg_icmp_ne (d138_140 L xs) (t := 148) (by decide) (fun hp => absurd hp (by decide)) (fun _ => ?_)
        refine wg_iload (d138_143 L xs) rfl ?_
        refine wg_goto (d138_145 L xs) (t := 150) (by decide) ?_
        refine wg_istore (d138_150 L xs) (ls' := [some (.ref 141), some (.int (nI f)), some (.int 5), some (.int (nI (c + rd))), some (.int (nI (c + S))), some (.int (nI r)), some (.int (nI (c + S))), some (.int 32), some (.int (nI (c + S))), none]) (Nat.le_of_ble_eq_true rfl) rfl ?_
        refine wg_iconst (d138_152 L xs) (x := 1) (by decide) ?_
        refine wg_istore (d138_153 L xs) (ls' := [some (.ref 141), some (.int (nI f)), some (.int 5), some (.int (nI (c + rd))), some (.int (nI (c + S))), some (.int (nI r)), some (.int (nI (c + S))), some (.int 32), some (.int (nI (c + S))), some (.int 1)]) (Nat.le_of_ble_eq_true rfl) rfl ?_
        refine wg_iload_n (d138_155 L xs) rfl ?_
        refine wg_iload (d138_156 L xs) rfl ?_
        refine wn_icmp_ge (d138_158 L xs) (x := c + rd) (y := c + S) (by omega) (by omega) (t := 177) (by decide) (fun h24 => by omega) (fun h24 => ?_)
        refine wg_aload_n (d138_161 L xs) rfl ?_
        refine wg_iload (d138_162 L xs) rfl ?_
        refine wg_iload_n (d138_164 L xs) rfl ?_
        refine wg_iconst (d138_165 L xs) (x := 1) (by decide) ?_
        refine wg_iadd (d138_166 L xs) ?_
        refine wg_top (y := (nI (c + rd + 1))) (nI_add (c + rd) 1) ?_
        refine wg_iload (d138_167 L xs) rfl ?_
        refine wg_invv (d138_169 L xs) (kd := 7) (mj := 141) (n := 3) rfl (Or.inl rfl) (ys := [.int (nI (c + S)), .int (nI (c + rd + 1)), .int (nI r)]) (r := []) rfl rfl (by decide) rfl rfl (Nat.le_of_ble_eq_true rfl) (by have h := md_expand (L := L) (xs := xs) (d := d + 5) (s := mg_I s 141 37 (nI (σ.1 + 1))) (i := rd + 1) (j := S) hX1 hSl (htg hrd); rw [hN] at h; exact h) ?_
        rintro _ s2 ⟨rfl, hm2, hn2⟩
        refine wg_istore (d138_172 L xs) (ls' := [some (.ref 141), some (.int (nI f)), some (.int 5), some (.int (nI (c + rd))), some (.int (nI (c + S))), some (.int (nI r)), some (.int (nI (c + S))), some (.int 32), some (.int (nI (c + S))), some (.int 1)]) (Nat.le_of_ble_eq_true rfl) rfl ?_
        refine wg_goto (d138_174 L xs) (t := 181) (by decide) ?_
        rw [mb_c (show ¬ (5 : Nat) = 1 by omega) (by rw [hxn]; exact hN), hxn]
        have hm02 := m01.trans (hm2.more (F' := nF) (A' := nA) (by decide) (by decide))
        have e23 : s2.1 141 23 = s.1 141 23 := hm2.2.1 23 (by decide)
        exact wp_mono (md_do181_5 (nm := (x_w E D dom (rd + 1) S)) (isE_of hX1.2.1 hm2 (by decide) (by decide)) (hn2 rfl).1 (hn2 rfl).2 hN hb32 (isSg_of hsg1 hm2 (by decide) (by decide)) hok1) (fun r s' h => ⟨h.1, hm02.trans h.2.1, h.2.2.1, fun z => (h.2.2.2.1 z).trans e23, h.2.2.2.2⟩)
    · have hxn : x_nm E D dom ((5 : Nat), res, (if rd < S then rd + 1 else S), S, b, v) = dom := by unfold x_nm; dsimp only; rw [if_neg hrd, if_neg (by omega)]
      refine wg_aload_n (d138_124 L xs) rfl ?_
      refine wg_invv (d138_125 L xs) (kd := 7) (mj := 140) (n := 0) rfl (Or.inl rfl) (ys := []) (r := []) rfl rfl (by decide) rfl rfl (Nat.le_of_ble_eq_true rfl) (md_look1 (n := σ.1) hsg.1 hl) ?_
      rintro _ _ ⟨rfl, rfl⟩
      refine wg_if_ne (d138_128 L xs) (t := 133) (by decide) (fun _ => ?_) (fun hn => absurd (by decide) hn)
      refine wg_iload_n (d138_133 L xs) rfl ?_
      refine wg_iconst (d138_134 L xs) (x := 1) (by decide) ?_
      refine wg_icmp_eq (d138_135 L xs) (t := 143) (by decide) (fun hp => absurd hp (by decide)) (fun _ => ?_)
      refine wg_iload_n (d138_138 L xs) rfl ?_
      refine wg_iconst (d138_139 L xs) (x := 5) (by decide) ?_
      refine wg_icmp_ne (d138_140 L xs) (t := 148) (by decide) (fun hp => absurd hp (by decide)) (fun _ => ?_)
      refine wg_iload (d138_143 L xs) rfl ?_
      refine wg_goto (d138_145 L xs) (t := 150) (by decide) ?_
      refine wg_istore (d138_150 L xs) (ls' := [some (.ref 141), some (.int (nI f)), some (.int 5), some (.int (nI (c + rd))), some (.int (nI (c + S))), some (.int (nI r)), some (.int (nI (c + S))), some (.int 32), some (.int (nI (c + S))), none]) (Nat.le_of_ble_eq_true rfl) rfl ?_
      refine wg_iconst (d138_152 L xs) (x := 1) (by decide) ?_
      refine wg_istore (d138_153 L xs) (ls' := [some (.ref 141), some (.int (nI f)), some (.int 5), some (.int (nI (c + rd))), some (.int (nI (c + S))), some (.int (nI r)), some (.int (nI (c + S))), some (.int 32), some (.int (nI (c + S))), some (.int 1)]) (Nat.le_of_ble_eq_true rfl) rfl ?_
      refine wg_iload_n (d138_155 L xs) rfl ?_
      refine wg_iload (d138_156 L xs) rfl ?_
      refine wn_icmp_ge (d138_158 L xs) (x := c + rd) (y := c + S) (by omega) (by omega) (t := 177) (by decide) (fun h24 => ?_) (fun h24 => by omega)
      refine wg_aload_n (d138_177 L xs) rfl ?_
      refine wg_invv (d138_178 L xs) (kd := 7) (mj := 146) (n := 0) rfl (Or.inl rfl) (ys := []) (r := []) rfl rfl (by decide) rfl rfl (Nat.le_of_ble_eq_true rfl) (md_named (l := dom) hX1.2.2.1 (by omega) hX1.2.2.2.1 hX1.2.2.2.2.1 hX1.2.2.2.2.2.1) ?_
      rintro _ s2 ⟨rfl, hm2, b10, bnm⟩
      rw [mb_c (show ¬ (5 : Nat) = 1 by omega) (by rw [hxn]; exact hX.2.2.2.2.2.2), hxn]
      have hm02 := m01.trans (hm2.more (F' := nF) (A' := nA) (by decide) (by decide))
      have e23 : s2.1 141 23 = s.1 141 23 := hm2.2.1 23 (by decide)
      exact wp_mono (md_do181_5 (nm := dom) (isE_of hX1.2.1 hm2 (by decide) (by decide)) b10 bnm hX.2.2.2.2.2.2 hb32 (isSg_of hsg1 hm2 (by decide) (by decide)) hok1) (fun r s' h => ⟨h.1, hm02.trans h.2.1, h.2.2.1, fun z => (h.2.2.2.1 z).trans e23, h.2.2.2.2⟩)
  · refine wg_aload_n (d138_124 L xs) rfl ?_
    refine wg_invv (d138_125 L xs) (kd := 7) (mj := 140) (n := 0) rfl (Or.inl rfl) (ys := []) (r := []) rfl rfl (by decide) rfl rfl (Nat.le_of_ble_eq_true rfl) (md_look0 (n := σ.1) hsg.1 (by omega)) ?_
    rintro _ _ ⟨rfl, rfl⟩
    refine wg_if_ne (d138_128 L xs) (t := 133) (by decide) (fun hp => absurd hp (by decide)) (fun _ => ?_)
    refine wg_iconst (d138_131 L xs) (x := (-1)) (by decide) ?_
    exact wg_iret (d138_132 L xs) rfl rfl ⟨by rw [ma_6 (show ¬ (5 : Nat) = 0 by omega) (show ¬ (5 : Nat) = 4 by omega) hl]; rfl, (mfr_I s (by decide)).trans (mfr_I _ (by decide)), by rw [ma_6 (show ¬ (5 : Nat) = 0 by omega) (show ¬ (5 : Nat) = 4 by omega) hl]; exact ⟨isSg_I (isSg_I hsg (by decide)) (by decide), fun z => absurd z (by show ¬ 6 < 5; omega), fun _ => ⟨rfl, rfl⟩⟩⟩
theorem md_does0 {res v : Nat} (hX : isX s E r c f D dom) (h56 : s.2.1 156 f = nI r) (hte : te ≤ D.length) (hS : f_find (gl D) 47 rd (te - rd) = S) (hrS : rd ≤ S) (hSte : S ≤ te) (hb32 : b ≤ 32) (hb1 : S < te → r_num (gl D) (S + 1) 32 (r_dg (gl D) te (S + 1)) = some b) (hb2 : ¬ S < te → b = 32) (h4 : True) (htg : rd < S → True) (hsg : isSg s σ) (hok : okS σ) : ca L xs (d + 9) 138 [.ref 141, .int (nI f), .int 0, .int (nI (c + rd)), .int (nI (c + te))] s (fun rv s' => rv = some (.int (xI (x_ma E inn D dom ((0 : Nat), res, (if rd < S then rd + 1 else S), S, b, v) σ).1)) ∧ mfr s s' nF nA ∧ hPost s s' (x_ma E inn D dom ((0 : Nat), res, (if rd < S then rd + 1 else S), S, b, v) σ).2 (x_ma E inn D dom ((0 : Nat), res, (if rd < S then rd + 1 else S), S, b, v) σ).1) := by
  refine wg_call (Nat.le_of_ble_eq_true rfl) ?_
  have hR := hX.1
  have hr16 := hR.1
  have hc1 := hR.2.1
  have hcl := hR.2.2.1
  have hf13 := hX.2.2.1
  show wp L xs (d + 8) 138 0 [some (.ref 141), some (.int (nI f)), some (.int 0), some (.int (nI (c + rd))), some (.int (nI (c + te))), none, none, none, none, none] [] s _
  refine wg_aload_n (d138_0 L xs) rfl ?_
  refine wg_get (d138_1 L xs) (kd := 1) (cj := 9) (k0 := 26) rfl (Or.inl rfl) (by decide) rfl rfl ?_
  refine wg_iload_n (d138_4 L xs) rfl ?_
  refine wg_iald (d138_5 L xs) (n := 13) (by decide) rfl (vp_in_nI (n := f) (by omega) (by omega)) ?_
  refine wg_top (y := (nI r)) (by rw [nI_nat (n := f) (by omega)]; exact h56) ?_
  refine wg_istore (d138_6 L xs) (ls' := [some (.ref 141), some (.int (nI f)), some (.int 0), some (.int (nI (c + rd))), some (.int (nI (c + te))), some (.int (nI r)), none, none, none, none]) (Nat.le_of_ble_eq_true rfl) rfl ?_
  refine wg_aload_n (d138_8 L xs) rfl ?_
  refine wg_iload (d138_9 L xs) rfl ?_
  refine wg_iload_n (d138_11 L xs) rfl ?_
  refine wg_iload (d138_12 L xs) rfl ?_
  refine wg_invv (d138_14 L xs) (kd := 7) (mj := 135) (n := 3) rfl (Or.inl rfl) (ys := [.int (nI (c + te)), .int (nI (c + rd)), .int (nI r)]) (r := []) rfl rfl (by decide) rfl rfl (Nat.le_of_ble_eq_true rfl) (by have h := md_slash (L := L) (xs := xs) (d := d + 6) (i := rd) (j := te) hR (by omega) (by omega); rw [hS] at h; exact h) ?_
  rintro _ _ ⟨rfl, rfl⟩
  refine wg_istore (d138_17 L xs) (ls' := [some (.ref 141), some (.int (nI f)), some (.int 0), some (.int (nI (c + rd))), some (.int (nI (c + te))), some (.int (nI r)), some (.int (nI (c + S))), none, none, none]) (Nat.le_of_ble_eq_true rfl) rfl ?_
  refine wg_bipush (d138_19 L xs) (x := 32) (by decide) ?_
  refine wg_istore (d138_21 L xs) (ls' := [some (.ref 141), some (.int (nI f)), some (.int 0), some (.int (nI (c + rd))), some (.int (nI (c + te))), some (.int (nI r)), some (.int (nI (c + S))), some (.int 32), none, none]) (Nat.le_of_ble_eq_true rfl) rfl ?_
  refine wg_iload_n (d138_23 L xs) rfl ?_
  refine wg_iconst (d138_24 L xs) (x := 1) (by decide) ?_
  refine wg_icmp_le (d138_25 L xs) (t := 70) (by decide) (fun _ => ?_) (fun hn => absurd (by decide) hn)
  refine wg_iload_n (d138_70 L xs) rfl ?_
  refine wg_if_ne (d138_71 L xs) (t := 76) (by decide) (fun hp => absurd hp (by decide)) (fun _ => ?_)
  refine wg_iconst (d138_74 L xs) (x := 1) (by decide) ?_
  exact wg_iret (d138_75 L xs) rfl rfl ⟨by rw [ma_0 rfl]; rfl, mfr.rf s _ _, by rw [ma_0 rfl]; exact ⟨hsg, fun _ => rfl, fun z => absurd z (by show ¬ 5 ≤ 1; omega)⟩⟩
theorem md_does2 {res v : Nat} (hX : isX s E r c f D dom) (h56 : s.2.1 156 f = nI r) (hte : te ≤ D.length) (hS : f_find (gl D) 47 rd (te - rd) = S) (hrS : rd ≤ S) (hSte : S ≤ te) (hb32 : b ≤ 32) (hb1 : S < te → r_num (gl D) (S + 1) 32 (r_dg (gl D) te (S + 1)) = some b) (hb2 : ¬ S < te → b = 32) (h4 : True) (htg : rd < S → t_tgt (gl D) (rd + 1) S = true) (hsg : isSg s σ) (hok : okS σ) : ca L xs (d + 9) 138 [.ref 141, .int (nI f), .int 2, .int (nI (c + rd)), .int (nI (c + te))] s (fun rv s' => rv = some (.int (xI (x_ma E inn D dom ((2 : Nat), res, (if rd < S then rd + 1 else S), S, b, v) σ).1)) ∧ mfr s s' nF nA ∧ hPost s s' (x_ma E inn D dom ((2 : Nat), res, (if rd < S then rd + 1 else S), S, b, v) σ).2 (x_ma E inn D dom ((2 : Nat), res, (if rd < S then rd + 1 else S), S, b, v) σ).1) := by
  refine wg_call (Nat.le_of_ble_eq_true rfl) ?_
  have hR := hX.1
  have hr16 := hR.1
  have hc1 := hR.2.1
  have hcl := hR.2.2.1
  have hf13 := hX.2.2.1
  show wp L xs (d + 8) 138 0 [some (.ref 141), some (.int (nI f)), some (.int 2), some (.int (nI (c + rd))), some (.int (nI (c + te))), none, none, none, none, none] [] s _
  by_cases hlt : S < te
  · refine wg_aload_n (d138_0 L xs) rfl ?_
    refine wg_get (d138_1 L xs) (kd := 1) (cj := 9) (k0 := 26) rfl (Or.inl rfl) (by decide) rfl rfl ?_
    refine wg_iload_n (d138_4 L xs) rfl ?_
    refine wg_iald (d138_5 L xs) (n := 13) (by decide) rfl (vp_in_nI (n := f) (by omega) (by omega)) ?_
    refine wg_top (y := (nI r)) (by rw [nI_nat (n := f) (by omega)]; exact h56) ?_
    refine wg_istore (d138_6 L xs) (ls' := [some (.ref 141), some (.int (nI f)), some (.int 2), some (.int (nI (c + rd))), some (.int (nI (c + te))), some (.int (nI r)), none, none, none, none]) (Nat.le_of_ble_eq_true rfl) rfl ?_
    refine wg_aload_n (d138_8 L xs) rfl ?_
    refine wg_iload (d138_9 L xs) rfl ?_
    refine wg_iload_n (d138_11 L xs) rfl ?_
    refine wg_iload (d138_12 L xs) rfl ?_
    refine wg_invv (d138_14 L xs) (kd := 7) (mj := 135) (n := 3) rfl (Or.inl rfl) (ys := [.int (nI (c + te)), .int (nI (c + rd)), .int (nI r)]) (r := []) rfl rfl (by decide) rfl rfl (Nat.le_of_ble_eq_true rfl) (by have h := md_slash (L := L) (xs := xs) (d := d + 6) (i := rd) (j := te) hR (by omega) (by omega); rw [hS] at h; exact h) ?_
    rintro _ _ ⟨rfl, rfl⟩
    refine wg_istore (d138_17 L xs) (ls' := [some (.ref 141), some (.int (nI f)), some (.int 2), some (.int (nI (c + rd))), some (.int (nI (c + te))), some (.int (nI r)), some (.int (nI (c + S))), none, none, none]) (Nat.le_of_ble_eq_true rfl) rfl ?_
    refine wg_bipush (d138_19 L xs) (x := 32) (by decide) ?_
    refine wg_istore (d138_21 L xs) (ls' := [some (.ref 141), some (.int (nI f)), some (.int 2), some (.int (nI (c + rd))), some (.int (nI (c + te))), some (.int (nI r)), some (.int (nI (c + S))), some (.int 32), none, none]) (Nat.le_of_ble_eq_true rfl) rfl ?_
    refine wg_iload_n (d138_23 L xs) rfl ?_
    refine wg_iconst (d138_24 L xs) (x := 1) (by decide) ?_
    refine wg_icmp_le (d138_25 L xs) (t := 70) (by decide) (fun hp => absurd hp (by decide)) (fun _ => ?_)
    refine wg_iload_n (d138_28 L xs) rfl ?_
    refine wg_iconst (d138_29 L xs) (x := 5) (by decide) ?_
    refine wg_icmp_ge (d138_30 L xs) (t := 70) (by decide) (fun hp => absurd hp (by decide)) (fun _ => ?_)
    refine wg_iload (d138_33 L xs) rfl ?_
    refine wg_iload (d138_35 L xs) rfl ?_
    refine wn_icmp_ge (d138_37 L xs) (x := c + S) (y := c + te) (by omega) (by omega) (t := 70) (by decide) (fun h3 => by omega) (fun h3 => ?_)
    refine wg_aload_n (d138_40 L xs) rfl ?_
    refine wg_aload_n (d138_41 L xs) rfl ?_
    refine wg_get (d138_42 L xs) (kd := 1) (cj := 9) (k0 := 5) rfl (Or.inl rfl) (by decide) rfl rfl ?_
    refine wg_bipush (d138_45 L xs) (x := 100) (by decide) ?_
    refine wg_iload (d138_47 L xs) rfl ?_
    refine wg_imul (d138_49 L xs) ?_
    refine wg_top (y := (nI (100 * r))) (pk_mul 100 r) ?_
    refine wg_iload (d138_50 L xs) rfl ?_
    refine wg_iadd (d138_52 L xs) ?_
    refine wg_top (y := (nI ((100 * r) + (c + S)))) (nI_add (100 * r) (c + S)) ?_
    refine wg_iconst (d138_53 L xs) (x := 1) (by decide) ?_
    refine wg_iadd (d138_54 L xs) ?_
    refine wg_top (y := (nI (((100 * r) + (c + S)) + 1))) (nI_add ((100 * r) + (c + S)) 1) ?_
    refine wg_bipush (d138_55 L xs) (x := 100) (by decide) ?_
    refine wg_iload (d138_57 L xs) rfl ?_
    refine wg_imul (d138_59 L xs) ?_
    refine wg_top (y := (nI (100 * r))) (pk_mul 100 r) ?_
    refine wg_iload (d138_60 L xs) rfl ?_
    refine wg_iadd (d138_62 L xs) ?_
    refine wg_top (y := (nI ((100 * r) + (c + te)))) (nI_add (100 * r) (c + te)) ?_
    refine wg_bipush (d138_63 L xs) (x := 32) (by decide) ?_
    refine wg_invv (d138_65 L xs) (kd := 7) (mj := 114) (n := 4) rfl (Or.inl rfl) (ys := [.int 32, .int (nI ((100 * r) + (c + te))), .int (nI (((100 * r) + (c + S)) + 1)), .ref 144]) (r := []) rfl rfl (by decide) rfl rfl (Nat.le_of_ble_eq_true rfl) (by have h := md_numR (L := L) (xs := xs) (d := d + 6) (a := S + 1) (b := te) (most := 32) hR (by omega) hte (by omega); rw [hb1 hlt] at h; exact h) ?_
    rintro _ _ ⟨rfl, rfl⟩
    refine wg_istore (d138_68 L xs) (ls' := [some (.ref 141), some (.int (nI f)), some (.int 2), some (.int (nI (c + rd))), some (.int (nI (c + te))), some (.int (nI r)), some (.int (nI (c + S))), some (.int (nI b)), none, none]) (Nat.le_of_ble_eq_true rfl) rfl ?_
    refine wg_iload_n (d138_70 L xs) rfl ?_
    refine wg_if_ne (d138_71 L xs) (t := 76) (by decide) (fun _ => ?_) (fun hn => absurd (by decide) hn)
    refine wg_iload_n (d138_76 L xs) rfl ?_
    refine wg_iconst (d138_77 L xs) (x := 4) (by decide) ?_
    refine wg_icmp_ne (d138_78 L xs) (t := 124) (by decide) (fun _ => ?_) (fun hn => absurd (by decide) hn)
    exact wp_mono (md_do124_2 (inn := inn) (res := res) (v := v) (isX_of hX (mfr_I s (k := 9) (F := [9]) (A := []) (by decide)) (by decide) (by decide) (by decide) (by decide)) (by omega) hrS htg hb32 (isSg_I hsg (by decide)) hok) (fun r s' h => ⟨h.1, (mfr_I s (by decide)).trans h.2.1, h.2.2⟩)
  · have hbe := hb2 hlt
    subst hbe
    refine wg_aload_n (d138_0 L xs) rfl ?_
    refine wg_get (d138_1 L xs) (kd := 1) (cj := 9) (k0 := 26) rfl (Or.inl rfl) (by decide) rfl rfl ?_
    refine wg_iload_n (d138_4 L xs) rfl ?_
    refine wg_iald (d138_5 L xs) (n := 13) (by decide) rfl (vp_in_nI (n := f) (by omega) (by omega)) ?_
    refine wg_top (y := (nI r)) (by rw [nI_nat (n := f) (by omega)]; exact h56) ?_
    refine wg_istore (d138_6 L xs) (ls' := [some (.ref 141), some (.int (nI f)), some (.int 2), some (.int (nI (c + rd))), some (.int (nI (c + te))), some (.int (nI r)), none, none, none, none]) (Nat.le_of_ble_eq_true rfl) rfl ?_
    refine wg_aload_n (d138_8 L xs) rfl ?_
    refine wg_iload (d138_9 L xs) rfl ?_
    refine wg_iload_n (d138_11 L xs) rfl ?_
    refine wg_iload (d138_12 L xs) rfl ?_
    refine wg_invv (d138_14 L xs) (kd := 7) (mj := 135) (n := 3) rfl (Or.inl rfl) (ys := [.int (nI (c + te)), .int (nI (c + rd)), .int (nI r)]) (r := []) rfl rfl (by decide) rfl rfl (Nat.le_of_ble_eq_true rfl) (by have h := md_slash (L := L) (xs := xs) (d := d + 6) (i := rd) (j := te) hR (by omega) (by omega); rw [hS] at h; exact h) ?_
    rintro _ _ ⟨rfl, rfl⟩
    refine wg_istore (d138_17 L xs) (ls' := [some (.ref 141), some (.int (nI f)), some (.int 2), some (.int (nI (c + rd))), some (.int (nI (c + te))), some (.int (nI r)), some (.int (nI (c + S))), none, none, none]) (Nat.le_of_ble_eq_true rfl) rfl ?_
    refine wg_bipush (d138_19 L xs) (x := 32) (by decide) ?_
    refine wg_istore (d138_21 L xs) (ls' := [some (.ref 141), some (.int (nI f)), some (.int 2), some (.int (nI (c + rd))), some (.int (nI (c + te))), some (.int (nI r)), some (.int (nI (c + S))), some (.int 32), none, none]) (Nat.le_of_ble_eq_true rfl) rfl ?_
    refine wg_iload_n (d138_23 L xs) rfl ?_
    refine wg_iconst (d138_24 L xs) (x := 1) (by decide) ?_
    refine wg_icmp_le (d138_25 L xs) (t := 70) (by decide) (fun hp => absurd hp (by decide)) (fun _ => ?_)
    refine wg_iload_n (d138_28 L xs) rfl ?_
    refine wg_iconst (d138_29 L xs) (x := 5) (by decide) ?_
    refine wg_icmp_ge (d138_30 L xs) (t := 70) (by decide) (fun hp => absurd hp (by decide)) (fun _ => ?_)
    refine wg_iload (d138_33 L xs) rfl ?_
    refine wg_iload (d138_35 L xs) rfl ?_
    refine wn_icmp_ge (d138_37 L xs) (x := c + S) (y := c + te) (by omega) (by omega) (t := 70) (by decide) (fun h3 => ?_) (fun h3 => by omega)
    refine wg_iload_n (d138_70 L xs) rfl ?_
    refine wg_if_ne (d138_71 L xs) (t := 76) (by decide) (fun _ => ?_) (fun hn => absurd (by decide) hn)
    refine wg_iload_n (d138_76 L xs) rfl ?_
    refine wg_iconst (d138_77 L xs) (x := 4) (by decide) ?_
    refine wg_icmp_ne (d138_78 L xs) (t := 124) (by decide) (fun _ => ?_) (fun hn => absurd (by decide) hn)
    exact md_do124_2 (b := 32) (inn := inn) (res := res) (v := v) hX (by omega) hrS htg hb32 hsg hok
theorem md_does3 {res v : Nat} (hX : isX s E r c f D dom) (h56 : s.2.1 156 f = nI r) (hte : te ≤ D.length) (hS : f_find (gl D) 47 rd (te - rd) = S) (hrS : rd ≤ S) (hSte : S ≤ te) (hb32 : b ≤ 32) (hb1 : S < te → r_num (gl D) (S + 1) 32 (r_dg (gl D) te (S + 1)) = some b) (hb2 : ¬ S < te → b = 32) (h4 : True) (htg : rd < S → t_tgt (gl D) (rd + 1) S = true) (hsg : isSg s σ) (hok : okS σ) : ca L xs (d + 9) 138 [.ref 141, .int (nI f), .int 3, .int (nI (c + rd)), .int (nI (c + te))] s (fun rv s' => rv = some (.int (xI (x_ma E inn D dom ((3 : Nat), res, (if rd < S then rd + 1 else S), S, b, v) σ).1)) ∧ mfr s s' nF nA ∧ hPost s s' (x_ma E inn D dom ((3 : Nat), res, (if rd < S then rd + 1 else S), S, b, v) σ).2 (x_ma E inn D dom ((3 : Nat), res, (if rd < S then rd + 1 else S), S, b, v) σ).1) := by
  refine wg_call (Nat.le_of_ble_eq_true rfl) ?_
  have hR := hX.1
  have hr16 := hR.1
  have hc1 := hR.2.1
  have hcl := hR.2.2.1
  have hf13 := hX.2.2.1
  show wp L xs (d + 8) 138 0 [some (.ref 141), some (.int (nI f)), some (.int 3), some (.int (nI (c + rd))), some (.int (nI (c + te))), none, none, none, none, none] [] s _
  by_cases hlt : S < te
  · refine wg_aload_n (d138_0 L xs) rfl ?_
    refine wg_get (d138_1 L xs) (kd := 1) (cj := 9) (k0 := 26) rfl (Or.inl rfl) (by decide) rfl rfl ?_
    refine wg_iload_n (d138_4 L xs) rfl ?_
    refine wg_iald (d138_5 L xs) (n := 13) (by decide) rfl (vp_in_nI (n := f) (by omega) (by omega)) ?_
    refine wg_top (y := (nI r)) (by rw [nI_nat (n := f) (by omega)]; exact h56) ?_
    refine wg_istore (d138_6 L xs) (ls' := [some (.ref 141), some (.int (nI f)), some (.int 3), some (.int (nI (c + rd))), some (.int (nI (c + te))), some (.int (nI r)), none, none, none, none]) (Nat.le_of_ble_eq_true rfl) rfl ?_
    refine wg_aload_n (d138_8 L xs) rfl ?_
    refine wg_iload (d138_9 L xs) rfl ?_
    refine wg_iload_n (d138_11 L xs) rfl ?_
    refine wg_iload (d138_12 L xs) rfl ?_
    refine wg_invv (d138_14 L xs) (kd := 7) (mj := 135) (n := 3) rfl (Or.inl rfl) (ys := [.int (nI (c + te)), .int (nI (c + rd)), .int (nI r)]) (r := []) rfl rfl (by decide) rfl rfl (Nat.le_of_ble_eq_true rfl) (by have h := md_slash (L := L) (xs := xs) (d := d + 6) (i := rd) (j := te) hR (by omega) (by omega); rw [hS] at h; exact h) ?_
    rintro _ _ ⟨rfl, rfl⟩
    refine wg_istore (d138_17 L xs) (ls' := [some (.ref 141), some (.int (nI f)), some (.int 3), some (.int (nI (c + rd))), some (.int (nI (c + te))), some (.int (nI r)), some (.int (nI (c + S))), none, none, none]) (Nat.le_of_ble_eq_true rfl) rfl ?_
    refine wg_bipush (d138_19 L xs) (x := 32) (by decide) ?_
    refine wg_istore (d138_21 L xs) (ls' := [some (.ref 141), some (.int (nI f)), some (.int 3), some (.int (nI (c + rd))), some (.int (nI (c + te))), some (.int (nI r)), some (.int (nI (c + S))), some (.int 32), none, none]) (Nat.le_of_ble_eq_true rfl) rfl ?_
    refine wg_iload_n (d138_23 L xs) rfl ?_
    refine wg_iconst (d138_24 L xs) (x := 1) (by decide) ?_
    refine wg_icmp_le (d138_25 L xs) (t := 70) (by decide) (fun hp => absurd hp (by decide)) (fun _ => ?_)
    refine wg_iload_n (d138_28 L xs) rfl ?_
    refine wg_iconst (d138_29 L xs) (x := 5) (by decide) ?_
    refine wg_icmp_ge (d138_30 L xs) (t := 70) (by decide) (fun hp => absurd hp (by decide)) (fun _ => ?_)
    refine wg_iload (d138_33 L xs) rfl ?_
    refine wg_iload (d138_35 L xs) rfl ?_
    refine wn_icmp_ge (d138_37 L xs) (x := c + S) (y := c + te) (by omega) (by omega) (t := 70) (by decide) (fun h3 => by omega) (fun h3 => ?_)
    refine wg_aload_n (d138_40 L xs) rfl ?_
    refine wg_aload_n (d138_41 L xs) rfl ?_
    refine wg_get (d138_42 L xs) (kd := 1) (cj := 9) (k0 := 5) rfl (Or.inl rfl) (by decide) rfl rfl ?_
    refine wg_bipush (d138_45 L xs) (x := 100) (by decide) ?_
    refine wg_iload (d138_47 L xs) rfl ?_
    refine wg_imul (d138_49 L xs) ?_
    refine wg_top (y := (nI (100 * r))) (pk_mul 100 r) ?_
    refine wg_iload (d138_50 L xs) rfl ?_
    refine wg_iadd (d138_52 L xs) ?_
    refine wg_top (y := (nI ((100 * r) + (c + S)))) (nI_add (100 * r) (c + S)) ?_
    refine wg_iconst (d138_53 L xs) (x := 1) (by decide) ?_
    refine wg_iadd (d138_54 L xs) ?_
    refine wg_top (y := (nI (((100 * r) + (c + S)) + 1))) (nI_add ((100 * r) + (c + S)) 1) ?_
    refine wg_bipush (d138_55 L xs) (x := 100) (by decide) ?_
    refine wg_iload (d138_57 L xs) rfl ?_
    refine wg_imul (d138_59 L xs) ?_
    refine wg_top (y := (nI (100 * r))) (pk_mul 100 r) ?_
    refine wg_iload (d138_60 L xs) rfl ?_
    refine wg_iadd (d138_62 L xs) ?_
    refine wg_top (y := (nI ((100 * r) + (c + te)))) (nI_add (100 * r) (c + te)) ?_
    refine wg_bipush (d138_63 L xs) (x := 32) (by decide) ?_
    refine wg_invv (d138_65 L xs) (kd := 7) (mj := 114) (n := 4) rfl (Or.inl rfl) (ys := [.int 32, .int (nI ((100 * r) + (c + te))), .int (nI (((100 * r) + (c + S)) + 1)), .ref 144]) (r := []) rfl rfl (by decide) rfl rfl (Nat.le_of_ble_eq_true rfl) (by have h := md_numR (L := L) (xs := xs) (d := d + 6) (a := S + 1) (b := te) (most := 32) hR (by omega) hte (by omega); rw [hb1 hlt] at h; exact h) ?_
    rintro _ _ ⟨rfl, rfl⟩
    refine wg_istore (d138_68 L xs) (ls' := [some (.ref 141), some (.int (nI f)), some (.int 3), some (.int (nI (c + rd))), some (.int (nI (c + te))), some (.int (nI r)), some (.int (nI (c + S))), some (.int (nI b)), none, none]) (Nat.le_of_ble_eq_true rfl) rfl ?_
    refine wg_iload_n (d138_70 L xs) rfl ?_
    refine wg_if_ne (d138_71 L xs) (t := 76) (by decide) (fun _ => ?_) (fun hn => absurd (by decide) hn)
    refine wg_iload_n (d138_76 L xs) rfl ?_
    refine wg_iconst (d138_77 L xs) (x := 4) (by decide) ?_
    refine wg_icmp_ne (d138_78 L xs) (t := 124) (by decide) (fun _ => ?_) (fun hn => absurd (by decide) hn)
    exact wp_mono (md_do124_3 (inn := inn) (res := res) (v := v) (isX_of hX (mfr_I s (k := 9) (F := [9]) (A := []) (by decide)) (by decide) (by decide) (by decide) (by decide)) (by omega) hrS htg hb32 (isSg_I hsg (by decide)) hok) (fun r s' h => ⟨h.1, (mfr_I s (by decide)).trans h.2.1, h.2.2⟩)
  · have hbe := hb2 hlt
    subst hbe
    refine wg_aload_n (d138_0 L xs) rfl ?_
    refine wg_get (d138_1 L xs) (kd := 1) (cj := 9) (k0 := 26) rfl (Or.inl rfl) (by decide) rfl rfl ?_
    refine wg_iload_n (d138_4 L xs) rfl ?_
    refine wg_iald (d138_5 L xs) (n := 13) (by decide) rfl (vp_in_nI (n := f) (by omega) (by omega)) ?_
    refine wg_top (y := (nI r)) (by rw [nI_nat (n := f) (by omega)]; exact h56) ?_
    refine wg_istore (d138_6 L xs) (ls' := [some (.ref 141), some (.int (nI f)), some (.int 3), some (.int (nI (c + rd))), some (.int (nI (c + te))), some (.int (nI r)), none, none, none, none]) (Nat.le_of_ble_eq_true rfl) rfl ?_
    refine wg_aload_n (d138_8 L xs) rfl ?_
    refine wg_iload (d138_9 L xs) rfl ?_
    refine wg_iload_n (d138_11 L xs) rfl ?_
    refine wg_iload (d138_12 L xs) rfl ?_
    refine wg_invv (d138_14 L xs) (kd := 7) (mj := 135) (n := 3) rfl (Or.inl rfl) (ys := [.int (nI (c + te)), .int (nI (c + rd)), .int (nI r)]) (r := []) rfl rfl (by decide) rfl rfl (Nat.le_of_ble_eq_true rfl) (by have h := md_slash (L := L) (xs := xs) (d := d + 6) (i := rd) (j := te) hR (by omega) (by omega); rw [hS] at h; exact h) ?_
    rintro _ _ ⟨rfl, rfl⟩
    refine wg_istore (d138_17 L xs) (ls' := [some (.ref 141), some (.int (nI f)), some (.int 3), some (.int (nI (c + rd))), some (.int (nI (c + te))), some (.int (nI r)), some (.int (nI (c + S))), none, none, none]) (Nat.le_of_ble_eq_true rfl) rfl ?_
    refine wg_bipush (d138_19 L xs) (x := 32) (by decide) ?_
    refine wg_istore (d138_21 L xs) (ls' := [some (.ref 141), some (.int (nI f)), some (.int 3), some (.int (nI (c + rd))), some (.int (nI (c + te))), some (.int (nI r)), some (.int (nI (c + S))), some (.int 32), none, none]) (Nat.le_of_ble_eq_true rfl) rfl ?_
    refine wg_iload_n (d138_23 L xs) rfl ?_
    refine wg_iconst (d138_24 L xs) (x := 1) (by decide) ?_
    refine wg_icmp_le (d138_25 L xs) (t := 70) (by decide) (fun hp => absurd hp (by decide)) (fun _ => ?_)
    refine wg_iload_n (d138_28 L xs) rfl ?_
    refine wg_iconst (d138_29 L xs) (x := 5) (by decide) ?_
    refine wg_icmp_ge (d138_30 L xs) (t := 70) (by decide) (fun hp => absurd hp (by decide)) (fun _ => ?_)
    refine wg_iload (d138_33 L xs) rfl ?_
    refine wg_iload (d138_35 L xs) rfl ?_
    refine wn_icmp_ge (d138_37 L xs) (x := c + S) (y := c + te) (by omega) (by omega) (t := 70) (by decide) (fun h3 => ?_) (fun h3 => by omega)
    refine wg_iload_n (d138_70 L xs) rfl ?_
    refine wg_if_ne (d138_71 L xs) (t := 76) (by decide) (fun _ => ?_) (fun hn => absurd (by decide) hn)
    refine wg_iload_n (d138_76 L xs) rfl ?_
    refine wg_iconst (d138_77 L xs) (x := 4) (by decide) ?_
    refine wg_icmp_ne (d138_78 L xs) (t := 124) (by decide) (fun _ => ?_) (fun hn => absurd (by decide) hn)
    exact md_do124_3 (b := 32) (inn := inn) (res := res) (v := v) hX (by omega) hrS htg hb32 hsg hok
theorem md_does4 {res v : Nat} (hX : isX s E r c f D dom) (h56 : s.2.1 156 f = nI r) (hte : te ≤ D.length) (hS : f_find (gl D) 47 rd (te - rd) = S) (hrS : rd ≤ S) (hSte : S ≤ te) (hb32 : b ≤ 32) (hb1 : S < te → r_num (gl D) (S + 1) 32 (r_dg (gl D) te (S + 1)) = some b) (hb2 : ¬ S < te → b = 32) (h4 : rd < S ∧ r_addr (gl D) S 4 0 (rd + 1) = some (v, S)) (htg : rd < S → True) (hsg : isSg s σ) (hok : okS σ) : ca L xs (d + 9) 138 [.ref 141, .int (nI f), .int 4, .int (nI (c + rd)), .int (nI (c + te))] s (fun rv s' => rv = some (.int (xI (x_ma E inn D dom ((4 : Nat), res, (if rd < S then rd + 1 else S), S, b, v) σ).1)) ∧ mfr s s' nF nA ∧ hPost s s' (x_ma E inn D dom ((4 : Nat), res, (if rd < S then rd + 1 else S), S, b, v) σ).2 (x_ma E inn D dom ((4 : Nat), res, (if rd < S then rd + 1 else S), S, b, v) σ).1) := by
  refine wg_call (Nat.le_of_ble_eq_true rfl) ?_
  have hR := hX.1
  have hr16 := hR.1
  have hc1 := hR.2.1
  have hcl := hR.2.2.1
  have hf13 := hX.2.2.1
  show wp L xs (d + 8) 138 0 [some (.ref 141), some (.int (nI f)), some (.int 4), some (.int (nI (c + rd))), some (.int (nI (c + te))), none, none, none, none, none] [] s _
  by_cases hlt : S < te
  · refine wg_aload_n (d138_0 L xs) rfl ?_
    refine wg_get (d138_1 L xs) (kd := 1) (cj := 9) (k0 := 26) rfl (Or.inl rfl) (by decide) rfl rfl ?_
    refine wg_iload_n (d138_4 L xs) rfl ?_
    refine wg_iald (d138_5 L xs) (n := 13) (by decide) rfl (vp_in_nI (n := f) (by omega) (by omega)) ?_
    refine wg_top (y := (nI r)) (by rw [nI_nat (n := f) (by omega)]; exact h56) ?_
    refine wg_istore (d138_6 L xs) (ls' := [some (.ref 141), some (.int (nI f)), some (.int 4), some (.int (nI (c + rd))), some (.int (nI (c + te))), some (.int (nI r)), none, none, none, none]) (Nat.le_of_ble_eq_true rfl) rfl ?_
    refine wg_aload_n (d138_8 L xs) rfl ?_
    refine wg_iload (d138_9 L xs) rfl ?_
    refine wg_iload_n (d138_11 L xs) rfl ?_
    refine wg_iload (d138_12 L xs) rfl ?_
    refine wg_invv (d138_14 L xs) (kd := 7) (mj := 135) (n := 3) rfl (Or.inl rfl) (ys := [.int (nI (c + te)), .int (nI (c + rd)), .int (nI r)]) (r := []) rfl rfl (by decide) rfl rfl (Nat.le_of_ble_eq_true rfl) (by have h := md_slash (L := L) (xs := xs) (d := d + 6) (i := rd) (j := te) hR (by omega) (by omega); rw [hS] at h; exact h) ?_
    rintro _ _ ⟨rfl, rfl⟩
    refine wg_istore (d138_17 L xs) (ls' := [some (.ref 141), some (.int (nI f)), some (.int 4), some (.int (nI (c + rd))), some (.int (nI (c + te))), some (.int (nI r)), some (.int (nI (c + S))), none, none, none]) (Nat.le_of_ble_eq_true rfl) rfl ?_
    refine wg_bipush (d138_19 L xs) (x := 32) (by decide) ?_
    refine wg_istore (d138_21 L xs) (ls' := [some (.ref 141), some (.int (nI f)), some (.int 4), some (.int (nI (c + rd))), some (.int (nI (c + te))), some (.int (nI r)), some (.int (nI (c + S))), some (.int 32), none, none]) (Nat.le_of_ble_eq_true rfl) rfl ?_
    refine wg_iload_n (d138_23 L xs) rfl ?_
    refine wg_iconst (d138_24 L xs) (x := 1) (by decide) ?_
    refine wg_icmp_le (d138_25 L xs) (t := 70) (by decide) (fun hp => absurd hp (by decide)) (fun _ => ?_)
    refine wg_iload_n (d138_28 L xs) rfl ?_
    refine wg_iconst (d138_29 L xs) (x := 5) (by decide) ?_
    refine wg_icmp_ge (d138_30 L xs) (t := 70) (by decide) (fun hp => absurd hp (by decide)) (fun _ => ?_)
    refine wg_iload (d138_33 L xs) rfl ?_
    refine wg_iload (d138_35 L xs) rfl ?_
    refine wn_icmp_ge (d138_37 L xs) (x := c + S) (y := c + te) (by omega) (by omega) (t := 70) (by decide) (fun h3 => by omega) (fun h3 => ?_)
    refine wg_aload_n (d138_40 L xs) rfl ?_
    refine wg_aload_n (d138_41 L xs) rfl ?_
    refine wg_get (d138_42 L xs) (kd := 1) (cj := 9) (k0 := 5) rfl (Or.inl rfl) (by decide) rfl rfl ?_
    refine wg_bipush (d138_45 L xs) (x := 100) (by decide) ?_
    refine wg_iload (d138_47 L xs) rfl ?_
    refine wg_imul (d138_49 L xs) ?_
    refine wg_top (y := (nI (100 * r))) (pk_mul 100 r) ?_
    refine wg_iload (d138_50 L xs) rfl ?_
    refine wg_iadd (d138_52 L xs) ?_
    refine wg_top (y := (nI ((100 * r) + (c + S)))) (nI_add (100 * r) (c + S)) ?_
    refine wg_iconst (d138_53 L xs) (x := 1) (by decide) ?_
    refine wg_iadd (d138_54 L xs) ?_
    refine wg_top (y := (nI (((100 * r) + (c + S)) + 1))) (nI_add ((100 * r) + (c + S)) 1) ?_
    refine wg_bipush (d138_55 L xs) (x := 100) (by decide) ?_
    refine wg_iload (d138_57 L xs) rfl ?_
    refine wg_imul (d138_59 L xs) ?_
    refine wg_top (y := (nI (100 * r))) (pk_mul 100 r) ?_
    refine wg_iload (d138_60 L xs) rfl ?_
    refine wg_iadd (d138_62 L xs) ?_
    refine wg_top (y := (nI ((100 * r) + (c + te)))) (nI_add (100 * r) (c + te)) ?_
    refine wg_bipush (d138_63 L xs) (x := 32) (by decide) ?_
    refine wg_invv (d138_65 L xs) (kd := 7) (mj := 114) (n := 4) rfl (Or.inl rfl) (ys := [.int 32, .int (nI ((100 * r) + (c + te))), .int (nI (((100 * r) + (c + S)) + 1)), .ref 144]) (r := []) rfl rfl (by decide) rfl rfl (Nat.le_of_ble_eq_true rfl) (by have h := md_numR (L := L) (xs := xs) (d := d + 6) (a := S + 1) (b := te) (most := 32) hR (by omega) hte (by omega); rw [hb1 hlt] at h; exact h) ?_
    rintro _ _ ⟨rfl, rfl⟩
    refine wg_istore (d138_68 L xs) (ls' := [some (.ref 141), some (.int (nI f)), some (.int 4), some (.int (nI (c + rd))), some (.int (nI (c + te))), some (.int (nI r)), some (.int (nI (c + S))), some (.int (nI b)), none, none]) (Nat.le_of_ble_eq_true rfl) rfl ?_
    refine wg_iload_n (d138_70 L xs) rfl ?_
    refine wg_if_ne (d138_71 L xs) (t := 76) (by decide) (fun _ => ?_) (fun hn => absurd (by decide) hn)
    refine wg_iload_n (d138_76 L xs) rfl ?_
    refine wg_iconst (d138_77 L xs) (x := 4) (by decide) ?_
    refine wg_icmp_ne (d138_78 L xs) (t := 124) (by decide) (fun hp => absurd hp (by decide)) (fun _ => ?_)
    refine wg_aload_n (d138_81 L xs) rfl ?_
    refine wg_aload_n (d138_82 L xs) rfl ?_
    refine wg_get (d138_83 L xs) (kd := 1) (cj := 9) (k0 := 5) rfl (Or.inl rfl) (by decide) rfl rfl ?_
    refine wg_bipush (d138_86 L xs) (x := 100) (by decide) ?_
    refine wg_iload (d138_88 L xs) rfl ?_
    refine wg_imul (d138_90 L xs) ?_
    refine wg_top (y := (nI (100 * r))) (pk_mul 100 r) ?_
    refine wg_iload_n (d138_91 L xs) rfl ?_
    refine wg_iadd (d138_92 L xs) ?_
    refine wg_top (y := (nI ((100 * r) + (c + rd)))) (nI_add (100 * r) (c + rd)) ?_
    refine wg_iconst (d138_93 L xs) (x := 1) (by decide) ?_
    refine wg_iadd (d138_94 L xs) ?_
    refine wg_top (y := (nI (((100 * r) + (c + rd)) + 1))) (nI_add ((100 * r) + (c + rd)) 1) ?_
    refine wg_bipush (d138_95 L xs) (x := 100) (by decide) ?_
    refine wg_iload (d138_97 L xs) rfl ?_
    refine wg_imul (d138_99 L xs) ?_
    refine wg_top (y := (nI (100 * r))) (pk_mul 100 r) ?_
    refine wg_iload (d138_100 L xs) rfl ?_
    refine wg_iadd (d138_102 L xs) ?_
    refine wg_top (y := (nI ((100 * r) + (c + S)))) (nI_add (100 * r) (c + S)) ?_
    refine wg_invv (d138_103 L xs) (kd := 7) (mj := 113) (n := 3) rfl (Or.inl rfl) (ys := [.int (nI ((100 * r) + (c + S))), .int (nI (((100 * r) + (c + rd)) + 1)), .ref 144]) (r := []) rfl rfl (by decide) rfl rfl (Nat.le_of_ble_eq_true rfl) (by have h := md_adrR (L := L) (xs := xs) (d := d + 5) (s := (mg_I s 141 9 (nI (100 * r + (c + (r_dg (gl D) te (S + 1)).2))))) (a := rd + 1) (b := S) (isRec_of hR rfl rfl rfl) (by omega) (by omega); rw [h4.2] at h; exact h) ?_
    rintro _ _ ⟨rfl, rfl⟩
    refine wg_aload_n (d138_106 L xs) rfl ?_
    refine wg_get (d138_107 L xs) (kd := 1) (cj := 9) (k0 := 35) rfl (Or.inl rfl) (by decide) rfl rfl ?_
    refine wg_top (y := E.2.1) hX.2.1.2.1 ?_
    refine wg_iload (d138_110 L xs) rfl ?_
    refine wg_invs (d138_112 L xs) (kd := 6) (mj := 139) (n := 3) rfl (Or.inl rfl) (ys := [.int (nI b), .int E.2.1, .int (nI v)]) (r := []) rfl rfl (Nat.le_of_ble_eq_true rfl) (md_alike hb32) ?_
    rintro _ _ ⟨rfl, rfl⟩
    have hbc := bI_lt (c_sb (nI v) E.2.1 b)
    refine wn_if_eq (d138_115 L xs) (x := bI (c_sb (nI v) E.2.1 b)) (by omega) (t := 122) (by decide) (fun h6 => ?_) (fun h6 => ?_)
    · refine wg_iconst (d138_122 L xs) (x := 0) (by decide) ?_
      exact wg_iret (d138_123 L xs) rfl rfl ⟨by rw [ma_4 rfl]; dsimp only; rw [bI_f (b := c_sb (nI v) E.2.1 b) (by omega)]; rfl, ((mfr_I s (by decide)).trans (mfr_I _ (by decide))), by rw [ma_4 rfl]; exact ⟨(isSg_I (isSg_I hsg (by decide)) (by decide)), fun _ => rfl, fun z => absurd z (by have := bI_lt (c_sb (nI v) E.2.1 b); show ¬ 5 ≤ bI (c_sb (nI v) E.2.1 b); omega)⟩⟩
    · refine wg_iconst (d138_118 L xs) (x := 1) (by decide) ?_
      refine wg_goto (d138_119 L xs) (t := 123) (by decide) ?_
      exact wg_iret (d138_123 L xs) rfl rfl ⟨by rw [ma_4 rfl]; dsimp only; rw [bI_t (b := c_sb (nI v) E.2.1 b) (by omega)]; rfl, ((mfr_I s (by decide)).trans (mfr_I _ (by decide))), by rw [ma_4 rfl]; exact ⟨(isSg_I (isSg_I hsg (by decide)) (by decide)), fun _ => rfl, fun z => absurd z (by have := bI_lt (c_sb (nI v) E.2.1 b); show ¬ 5 ≤ bI (c_sb (nI v) E.2.1 b); omega)⟩⟩
  · have hbe := hb2 hlt
    subst hbe
    refine wg_aload_n (d138_0 L xs) rfl ?_
    refine wg_get (d138_1 L xs) (kd := 1) (cj := 9) (k0 := 26) rfl (Or.inl rfl) (by decide) rfl rfl ?_
    refine wg_iload_n (d138_4 L xs) rfl ?_
    refine wg_iald (d138_5 L xs) (n := 13) (by decide) rfl (vp_in_nI (n := f) (by omega) (by omega)) ?_
    refine wg_top (y := (nI r)) (by rw [nI_nat (n := f) (by omega)]; exact h56) ?_
    refine wg_istore (d138_6 L xs) (ls' := [some (.ref 141), some (.int (nI f)), some (.int 4), some (.int (nI (c + rd))), some (.int (nI (c + te))), some (.int (nI r)), none, none, none, none]) (Nat.le_of_ble_eq_true rfl) rfl ?_
    refine wg_aload_n (d138_8 L xs) rfl ?_
    refine wg_iload (d138_9 L xs) rfl ?_
    refine wg_iload_n (d138_11 L xs) rfl ?_
    refine wg_iload (d138_12 L xs) rfl ?_
    refine wg_invv (d138_14 L xs) (kd := 7) (mj := 135) (n := 3) rfl (Or.inl rfl) (ys := [.int (nI (c + te)), .int (nI (c + rd)), .int (nI r)]) (r := []) rfl rfl (by decide) rfl rfl (Nat.le_of_ble_eq_true rfl) (by have h := md_slash (L := L) (xs := xs) (d := d + 6) (i := rd) (j := te) hR (by omega) (by omega); rw [hS] at h; exact h) ?_
    rintro _ _ ⟨rfl, rfl⟩
    refine wg_istore (d138_17 L xs) (ls' := [some (.ref 141), some (.int (nI f)), some (.int 4), some (.int (nI (c + rd))), some (.int (nI (c + te))), some (.int (nI r)), some (.int (nI (c + S))), none, none, none]) (Nat.le_of_ble_eq_true rfl) rfl ?_
    refine wg_bipush (d138_19 L xs) (x := 32) (by decide) ?_
    refine wg_istore (d138_21 L xs) (ls' := [some (.ref 141), some (.int (nI f)), some (.int 4), some (.int (nI (c + rd))), some (.int (nI (c + te))), some (.int (nI r)), some (.int (nI (c + S))), some (.int 32), none, none]) (Nat.le_of_ble_eq_true rfl) rfl ?_
    refine wg_iload_n (d138_23 L xs) rfl ?_
    refine wg_iconst (d138_24 L xs) (x := 1) (by decide) ?_
    refine wg_icmp_le (d138_25 L xs) (t := 70) (by decide) (fun hp => absurd hp (by decide)) (fun _ => ?_)
    refine wg_iload_n (d138_28 L xs) rfl ?_
    refine wg_iconst (d138_29 L xs) (x := 5) (by decide) ?_
    refine wg_icmp_ge (d138_30 L xs) (t := 70) (by decide) (fun hp => absurd hp (by decide)) (fun _ => ?_)
    refine wg_iload (d138_33 L xs) rfl ?_
    refine wg_iload (d138_35 L xs) rfl ?_
    refine wn_icmp_ge (d138_37 L xs) (x := c + S) (y := c + te) (by omega) (by omega) (t := 70) (by decide) (fun h3 => ?_) (fun h3 => by omega)
    refine wg_iload_n (d138_70 L xs) rfl ?_
    refine wg_if_ne (d138_71 L xs) (t := 76) (by decide) (fun _ => ?_) (fun hn => absurd (by decide) hn)
    refine wg_iload_n (d138_76 L xs) rfl ?_
    refine wg_iconst (d138_77 L xs) (x := 4) (by decide) ?_
    refine wg_icmp_ne (d138_78 L xs) (t := 124) (by decide) (fun hp => absurd hp (by decide)) (fun _ => ?_)
    refine wg_aload_n (d138_81 L xs) rfl ?_
    refine wg_aload_n (d138_82 L xs) rfl ?_
    refine wg_get (d138_83 L xs) (kd := 1) (cj := 9) (k0 := 5) rfl (Or.inl rfl) (by decide) rfl rfl ?_
    refine wg_bipush (d138_86 L xs) (x := 100) (by decide) ?_
    refine wg_iload (d138_88 L xs) rfl ?_
    refine wg_imul (d138_90 L xs) ?_
    refine wg_top (y := (nI (100 * r))) (pk_mul 100 r) ?_
    refine wg_iload_n (d138_91 L xs) rfl ?_
    refine wg_iadd (d138_92 L xs) ?_
    refine wg_top (y := (nI ((100 * r) + (c + rd)))) (nI_add (100 * r) (c + rd)) ?_
    refine wg_iconst (d138_93 L xs) (x := 1) (by decide) ?_
    refine wg_iadd (d138_94 L xs) ?_
    refine wg_top (y := (nI (((100 * r) + (c + rd)) + 1))) (nI_add ((100 * r) + (c + rd)) 1) ?_
    refine wg_bipush (d138_95 L xs) (x := 100) (by decide) ?_
    refine wg_iload (d138_97 L xs) rfl ?_
    refine wg_imul (d138_99 L xs) ?_
    refine wg_top (y := (nI (100 * r))) (pk_mul 100 r) ?_
    refine wg_iload (d138_100 L xs) rfl ?_
    refine wg_iadd (d138_102 L xs) ?_
    refine wg_top (y := (nI ((100 * r) + (c + S)))) (nI_add (100 * r) (c + S)) ?_
    refine wg_invv (d138_103 L xs) (kd := 7) (mj := 113) (n := 3) rfl (Or.inl rfl) (ys := [.int (nI ((100 * r) + (c + S))), .int (nI (((100 * r) + (c + rd)) + 1)), .ref 144]) (r := []) rfl rfl (by decide) rfl rfl (Nat.le_of_ble_eq_true rfl) (by have h := md_adrR (L := L) (xs := xs) (d := d + 5) (s := s) (a := rd + 1) (b := S) hR (by omega) (by omega); rw [h4.2] at h; exact h) ?_
    rintro _ _ ⟨rfl, rfl⟩
    refine wg_aload_n (d138_106 L xs) rfl ?_
    refine wg_get (d138_107 L xs) (kd := 1) (cj := 9) (k0 := 35) rfl (Or.inl rfl) (by decide) rfl rfl ?_
    refine wg_top (y := E.2.1) hX.2.1.2.1 ?_
    refine wg_iload (d138_110 L xs) rfl ?_
    refine wg_invs (d138_112 L xs) (kd := 6) (mj := 139) (n := 3) rfl (Or.inl rfl) (ys := [.int 32, .int E.2.1, .int (nI v)]) (r := []) rfl rfl (Nat.le_of_ble_eq_true rfl) (md_alike hb32) ?_
    rintro _ _ ⟨rfl, rfl⟩
    have hbc := bI_lt (c_sb (nI v) E.2.1 32)
    refine wn_if_eq (d138_115 L xs) (x := bI (c_sb (nI v) E.2.1 32)) (by omega) (t := 122) (by decide) (fun h6 => ?_) (fun h6 => ?_)
    · refine wg_iconst (d138_122 L xs) (x := 0) (by decide) ?_
      exact wg_iret (d138_123 L xs) rfl rfl ⟨by rw [ma_4 rfl]; dsimp only; rw [bI_f (b := c_sb (nI v) E.2.1 32) (by omega)]; rfl, (mfr_I s (by decide)), by rw [ma_4 rfl]; exact ⟨(isSg_I hsg (by decide)), fun _ => rfl, fun z => absurd z (by have := bI_lt (c_sb (nI v) E.2.1 32); show ¬ 5 ≤ bI (c_sb (nI v) E.2.1 32); omega)⟩⟩
    · refine wg_iconst (d138_118 L xs) (x := 1) (by decide) ?_
      refine wg_goto (d138_119 L xs) (t := 123) (by decide) ?_
      exact wg_iret (d138_123 L xs) rfl rfl ⟨by rw [ma_4 rfl]; dsimp only; rw [bI_t (b := c_sb (nI v) E.2.1 32) (by omega)]; rfl, (mfr_I s (by decide)), by rw [ma_4 rfl]; exact ⟨(isSg_I hsg (by decide)), fun _ => rfl, fun z => absurd z (by have := bI_lt (c_sb (nI v) E.2.1 32); show ¬ 5 ≤ bI (c_sb (nI v) E.2.1 32); omega)⟩⟩
theorem md_does5 {res v : Nat} (hX : isX s E r c f D dom) (h56 : s.2.1 156 f = nI r) (hte : te ≤ D.length) (hS : f_find (gl D) 47 rd (te - rd) = S) (hrS : rd ≤ S) (hSte : S ≤ te) (hb32 : b ≤ 32) (hb1 : S < te → r_num (gl D) (S + 1) 32 (r_dg (gl D) te (S + 1)) = some b) (hb2 : ¬ S < te → b = 32) (h4 : S = te) (htg : rd < S → t_tgt (gl D) (rd + 1) S = true) (hsg : isSg s σ) (hok : okS σ) : ca L xs (d + 9) 138 [.ref 141, .int (nI f), .int 5, .int (nI (c + rd)), .int (nI (c + te))] s (fun rv s' => rv = some (.int (xI (x_ma E inn D dom ((5 : Nat), res, (if rd < S then rd + 1 else S), S, b, v) σ).1)) ∧ mfr s s' nF nA ∧ hPost s s' (x_ma E inn D dom ((5 : Nat), res, (if rd < S then rd + 1 else S), S, b, v) σ).2 (x_ma E inn D dom ((5 : Nat), res, (if rd < S then rd + 1 else S), S, b, v) σ).1) := by
  refine wg_call (Nat.le_of_ble_eq_true rfl) ?_
  have hR := hX.1
  have hr16 := hR.1
  have hc1 := hR.2.1
  have hcl := hR.2.2.1
  have hf13 := hX.2.2.1
  subst h4
  show wp L xs (d + 8) 138 0 [some (.ref 141), some (.int (nI f)), some (.int 5), some (.int (nI (c + rd))), some (.int (nI (c + S))), none, none, none, none, none] [] s _
  refine wg_aload_n (d138_0 L xs) rfl ?_
  refine wg_get (d138_1 L xs) (kd := 1) (cj := 9) (k0 := 26) rfl (Or.inl rfl) (by decide) rfl rfl ?_
  refine wg_iload_n (d138_4 L xs) rfl ?_
  refine wg_iald (d138_5 L xs) (n := 13) (by decide) rfl (vp_in_nI (n := f) (by omega) (by omega)) ?_
  refine wg_top (y := (nI r)) (by rw [nI_nat (n := f) (by omega)]; exact h56) ?_
  refine wg_istore (d138_6 L xs) (ls' := [some (.ref 141), some (.int (nI f)), some (.int 5), some (.int (nI (c + rd))), some (.int (nI (c + S))), some (.int (nI r)), none, none, none, none]) (Nat.le_of_ble_eq_true rfl) rfl ?_
  refine wg_aload_n (d138_8 L xs) rfl ?_
  refine wg_iload (d138_9 L xs) rfl ?_
  refine wg_iload_n (d138_11 L xs) rfl ?_
  refine wg_iload (d138_12 L xs) rfl ?_
  refine wg_invv (d138_14 L xs) (kd := 7) (mj := 135) (n := 3) rfl (Or.inl rfl) (ys := [.int (nI (c + S)), .int (nI (c + rd)), .int (nI r)]) (r := []) rfl rfl (by decide) rfl rfl (Nat.le_of_ble_eq_true rfl) (by have h := md_slash (L := L) (xs := xs) (d := d + 6) (i := rd) (j := S) hR (by omega) (by omega); rw [hS] at h; exact h) ?_
  rintro _ _ ⟨rfl, rfl⟩
  refine wg_istore (d138_17 L xs) (ls' := [some (.ref 141), some (.int (nI f)), some (.int 5), some (.int (nI (c + rd))), some (.int (nI (c + S))), some (.int (nI r)), some (.int (nI (c + S))), none, none, none]) (Nat.le_of_ble_eq_true rfl) rfl ?_
  refine wg_bipush (d138_19 L xs) (x := 32) (by decide) ?_
  refine wg_istore (d138_21 L xs) (ls' := [some (.ref 141), some (.int (nI f)), some (.int 5), some (.int (nI (c + rd))), some (.int (nI (c + S))), some (.int (nI r)), some (.int (nI (c + S))), some (.int 32), none, none]) (Nat.le_of_ble_eq_true rfl) rfl ?_
  refine wg_iload_n (d138_23 L xs) rfl ?_
  refine wg_iconst (d138_24 L xs) (x := 1) (by decide) ?_
  refine wg_icmp_le (d138_25 L xs) (t := 70) (by decide) (fun hp => absurd hp (by decide)) (fun _ => ?_)
  refine wg_iload_n (d138_28 L xs) rfl ?_
  refine wg_iconst (d138_29 L xs) (x := 5) (by decide) ?_
  refine wg_icmp_ge (d138_30 L xs) (t := 70) (by decide) (fun _ => ?_) (fun hn => absurd (by decide) hn)
  refine wg_iload_n (d138_70 L xs) rfl ?_
  refine wg_if_ne (d138_71 L xs) (t := 76) (by decide) (fun _ => ?_) (fun hn => absurd (by decide) hn)
  refine wg_iload_n (d138_76 L xs) rfl ?_
  refine wg_iconst (d138_77 L xs) (x := 4) (by decide) ?_
  refine wg_icmp_ne (d138_78 L xs) (t := 124) (by decide) (fun _ => ?_) (fun hn => absurd (by decide) hn)
  exact md_do124_5 (inn := inn) (b := b) (res := res) (v := v) hX (by omega) hrS htg hb32 hsg hok
theorem md_does1 {fs : List frT} {F : frT} {tq res v : Nat} (hX : isX s E r c fs.length D dom) (h56 : s.2.1 156 fs.length = nI r) (hte : te ≤ D.length) (hS : f_find (gl D) 47 rd (te - rd) = te) (hrS : rd < te) (htg : t_tgt (gl D) (rd + 1) te = true) (h33 : s.1 141 33 = nI res) (hres1 : 1 ≤ res) (hres4 : res ≤ 4) (hst : isStk s (fr_nx F tq 1 :: fs)) (hsg : isSg s σ) (hok : okS σ) (hdp : fs.length ≤ σ.1) : ca L xs (d + 9) 138 [.ref 141, .int (nI fs.length), .int 1, .int (nI (c + rd)), .int (nI (c + te))] s (fun r s' => r = some (.int (-1)) ∧ mfr s s' kF kA ∧ kOut s' E (k_ret E fs F.1 F.2.1 (k_aft E fs F tq ((1 : Nat), res, rd + 1, te, b, v) (x_ma E (k_in E fs.length) D dom ((1 : Nat), res, rd + 1, te, b, v) σ))) (2 * (10 - σ.1) + fs.length)) := by
  refine wg_call (Nat.le_of_ble_eq_true rfl) ?_
  have hR := hX.1
  have hr16 := hR.1
  have hc1 := hR.2.1
  have hcl := hR.2.2.1
  have hl10 := hok.1
  have hf13 := hX.2.2.1
  have h1S := of_decide_eq_true (Bool.and_eq_true_iff.mp htg).1
  have hxn : x_nm E D dom ((1 : Nat), res, rd + 1, te, b, v) = (x_w E D dom (rd + 1) te) := by unfold x_nm; dsimp only; rw [if_pos h1S]
  show wp L xs (d + 8) 138 0 [some (.ref 141), some (.int (nI fs.length)), some (.int 1), some (.int (nI (c + rd))), some (.int (nI (c + te))), none, none, none, none, none] [] s _
  by_cases hl : σ.1 < 10
  · have hX1 := isX_of hX (mfr_I s (k := 37) (x := nI (σ.1 + 1)) (F := [37]) (A := []) (by decide)) (by decide) (by decide) (by decide) (by decide)
    have hsg1 := isSg_lk hsg
    have hok1 : okS (st_lk σ) := ⟨hl, hok.2⟩
    have m01 : mfr s (mg_I s 141 37 (nI (σ.1 + 1))) kF kA := mfr_I s (by decide)
    cases hN : t_name (gl (x_w E D dom (rd + 1) te)) 0 (x_w E D dom (rd + 1) te).length with
    | false =>
      refine wg_aload_n (d138_0 L xs) rfl ?_
      refine wg_get (d138_1 L xs) (kd := 1) (cj := 9) (k0 := 26) rfl (Or.inl rfl) (by decide) rfl rfl ?_
      refine wg_iload_n (d138_4 L xs) rfl ?_
      refine wg_iald (d138_5 L xs) (n := 13) (by decide) rfl (vp_in_nI (n := fs.length) (by omega) (by omega)) ?_
      refine wg_top (y := (nI r)) (by rw [nI_nat (n := fs.length) (by omega)]; exact h56) ?_
      refine wg_istore (d138_6 L xs) (ls' := [some (.ref 141), some (.int (nI fs.length)), some (.int 1), some (.int (nI (c + rd))), some (.int (nI (c + te))), some (.int (nI r)), none, none, none, none]) (Nat.le_of_ble_eq_true rfl) rfl ?_
      refine wg_aload_n (d138_8 L xs) rfl ?_
      refine wg_iload (d138_9 L xs) rfl ?_
      refine wg_iload_n (d138_11 L xs) rfl ?_
      refine wg_iload (d138_12 L xs) rfl ?_
      refine wg_invv (d138_14 L xs) (kd := 7) (mj := 135) (n := 3) rfl (Or.inl rfl) (ys := [.int (nI (c + te)), .int (nI (c + rd)), .int (nI r)]) (r := []) rfl rfl (by decide) rfl rfl (Nat.le_of_ble_eq_true rfl) (by have h := md_slash (L := L) (xs := xs) (d := d + 6) (i := rd) (j := te) hR hte (by omega); rw [hS] at h; exact h) ?_
      rintro _ _ ⟨rfl, rfl⟩
      refine wg_istore (d138_17 L xs) (ls' := [some (.ref 141), some (.int (nI fs.length)), some (.int 1), some (.int (nI (c + rd))), some (.int (nI (c + te))), some (.int (nI r)), some (.int (nI (c + te))), none, none, none]) (Nat.le_of_ble_eq_true rfl) rfl ?_
      refine wg_bipush (d138_19 L xs) (x := 32) (by decide) ?_
      refine wg_istore (d138_21 L xs) (ls' := [some (.ref 141), some (.int (nI fs.length)), some (.int 1), some (.int (nI (c + rd))), some (.int (nI (c + te))), some (.int (nI r)), some (.int (nI (c + te))), some (.int 32), none, none]) (Nat.le_of_ble_eq_true rfl) rfl ?_
      refine wg_iload_n (d138_23 L xs) rfl ?_
      refine wg_iconst (d138_24 L xs) (x := 1) (by decide) ?_
      refine wg_icmp_le (d138_25 L xs) (t := 70) (by decide) (fun _ => ?_) (fun hn => absurd (by decide) hn)
      refine wg_iload_n (d138_70 L xs) rfl ?_
      refine wg_if_ne (d138_71 L xs) (t := 76) (by decide) (fun _ => ?_) (fun hn => absurd (by decide) hn)
      refine wg_iload_n (d138_76 L xs) rfl ?_
      refine wg_iconst (d138_77 L xs) (x := 4) (by decide) ?_
      refine wg_icmp_ne (d138_78 L xs) (t := 124) (by decide) (fun _ => ?_) (fun hn => absurd (by decide) hn)
      refine wg_aload_n (d138_124 L xs) rfl ?_
      refine wg_invv (d138_125 L xs) (kd := 7) (mj := 140) (n := 0) rfl (Or.inl rfl) (ys := []) (r := []) rfl rfl (by decide) rfl rfl (Nat.le_of_ble_eq_true rfl) (md_look1 (n := σ.1) hsg.1 hl) ?_
      rintro _ _ ⟨rfl, rfl⟩
      refine wg_if_ne (d138_128 L xs) (t := 133) (by decide) (fun _ => ?_) (fun hn => absurd (by decide) hn)
      refine wg_iload_n (d138_133 L xs) rfl ?_
      refine wg_iconst (d138_134 L xs) (x := 1) (by decide) ?_
      refine wg_icmp_eq (d138_135 L xs) (t := 143) (by decide) (fun _ => ?_) (fun hn => absurd (by decide) hn)
      refine wg_iload (d138_143 L xs) rfl ?_
      refine wg_goto (d138_145 L xs) (t := 150) (by decide) ?_
      refine wg_istore (d138_150 L xs) (ls' := [some (.ref 141), some (.int (nI fs.length)), some (.int 1), some (.int (nI (c + rd))), some (.int (nI (c + te))), some (.int (nI r)), some (.int (nI (c + te))), some (.int 32), some (.int (nI (c + te))), none]) (Nat.le_of_ble_eq_true rfl) rfl ?_
      refine wg_iconst (d138_152 L xs) (x := 1) (by decide) ?_
      refine wg_istore (d138_153 L xs) (ls' := [some (.ref 141), some (.int (nI fs.length)), some (.int 1), some (.int (nI (c + rd))), some (.int (nI (c + te))), some (.int (nI r)), some (.int (nI (c + te))), some (.int 32), some (.int (nI (c + te))), some (.int 1)]) (Nat.le_of_ble_eq_true rfl) rfl ?_
      refine wg_iload_n (d138_155 L xs) rfl ?_
      refine wg_iload (d138_156 L xs) rfl ?_
      refine wn_icmp_ge (d138_158 L xs) (x := c + rd) (y := c + te) (by omega) (by omega) (t := 177) (by decide) (fun h26 => by omega) (fun h26 => ?_)
      refine wg_aload_n (d138_161 L xs) rfl ?_
      refine wg_iload (d138_162 L xs) rfl ?_
      refine wg_iload_n (d138_164 L xs) rfl ?_
      refine wg_iconst (d138_165 L xs) (x := 1) (by decide) ?_
      refine wg_iadd (d138_166 L xs) ?_
      refine wg_top (y := (nI (c + rd + 1))) (nI_add (c + rd) 1) ?_
      refine wg_iload (d138_167 L xs) rfl ?_
      refine wg_invv (d138_169 L xs) (kd := 7) (mj := 141) (n := 3) rfl (Or.inl rfl) (ys := [.int (nI (c + te)), .int (nI (c + rd + 1)), .int (nI r)]) (r := []) rfl rfl (by decide) rfl rfl (Nat.le_of_ble_eq_true rfl) (by have h := md_expand (L := L) (xs := xs) (d := d + 5) (s := mg_I s 141 37 (nI (σ.1 + 1))) (i := rd + 1) (j := te) hX1 hte htg; rw [hN] at h; exact h) ?_
      rintro _ s2 ⟨rfl, hm2, hn2⟩
      refine wg_istore (d138_172 L xs) (ls' := [some (.ref 141), some (.int (nI fs.length)), some (.int 1), some (.int (nI (c + rd))), some (.int (nI (c + te))), some (.int (nI r)), some (.int (nI (c + te))), some (.int 32), some (.int (nI (c + te))), some (.int 0)]) (Nat.le_of_ble_eq_true rfl) rfl ?_
      refine wg_goto (d138_174 L xs) (t := 181) (by decide) ?_
      refine wg_iload_n (d138_181 L xs) rfl ?_
      refine wg_iconst (d138_182 L xs) (x := 1) (by decide) ?_
      refine wg_icmp_ne (d138_183 L xs) (t := 211) (by decide) (fun hp => absurd hp (by decide)) (fun _ => ?_)
      refine wg_iload (d138_186 L xs) rfl ?_
      refine wg_if_eq (d138_188 L xs) (t := 203) (by decide) (fun _ => ?_) (fun hn => absurd (by decide) hn)
      refine wg_aload_n (d138_203 L xs) rfl ?_
      refine wg_bipush (d138_204 L xs) (x := 6) (by decide) ?_
      refine wg_invv (d138_206 L xs) (kd := 7) (mj := 119) (n := 1) rfl (Or.inl rfl) (ys := [.int 6]) (r := []) rfl rfl (by decide) rfl rfl (Nat.le_of_ble_eq_true rfl) (md_end) ?_
      rintro _ _ ⟨rfl, rfl⟩
      refine wg_iconst (d138_209 L xs) (x := (-1)) (by decide) ?_
      exact wg_iret (d138_210 L xs) rfl rfl ⟨rfl, (m01.trans (hm2.more (by decide) (by decide))).trans ((mfr_I s2 (by decide)).trans (mfr_I _ (by decide))), by rw [inc_no rfl hl (by omega) (by rw [hxn]; exact hN)]; exact Or.inl ⟨rfl, rfl, isSg_I (isSg_I (isSg_of hsg1 hm2 (by decide) (by decide)) (by decide)) (by decide)⟩⟩
    | true =>
      refine wg_aload_n (d138_0 L xs) rfl ?_
      refine wg_get (d138_1 L xs) (kd := 1) (cj := 9) (k0 := 26) rfl (Or.inl rfl) (by decide) rfl rfl ?_
      refine wg_iload_n (d138_4 L xs) rfl ?_
      refine wg_iald (d138_5 L xs) (n := 13) (by decide) rfl (vp_in_nI (n := fs.length) (by omega) (by omega)) ?_
      refine wg_top (y := (nI r)) (by rw [nI_nat (n := fs.length) (by omega)]; exact h56) ?_
      refine wg_istore (d138_6 L xs) (ls' := [some (.ref 141), some (.int (nI fs.length)), some (.int 1), some (.int (nI (c + rd))), some (.int (nI (c + te))), some (.int (nI r)), none, none, none, none]) (Nat.le_of_ble_eq_true rfl) rfl ?_
      refine wg_aload_n (d138_8 L xs) rfl ?_
      refine wg_iload (d138_9 L xs) rfl ?_
      refine wg_iload_n (d138_11 L xs) rfl ?_
      refine wg_iload (d138_12 L xs) rfl ?_
      refine wg_invv (d138_14 L xs) (kd := 7) (mj := 135) (n := 3) rfl (Or.inl rfl) (ys := [.int (nI (c + te)), .int (nI (c + rd)), .int (nI r)]) (r := []) rfl rfl (by decide) rfl rfl (Nat.le_of_ble_eq_true rfl) (by have h := md_slash (L := L) (xs := xs) (d := d + 6) (i := rd) (j := te) hR hte (by omega); rw [hS] at h; exact h) ?_
      rintro _ _ ⟨rfl, rfl⟩
      refine wg_istore (d138_17 L xs) (ls' := [some (.ref 141), some (.int (nI fs.length)), some (.int 1), some (.int (nI (c + rd))), some (.int (nI (c + te))), some (.int (nI r)), some (.int (nI (c + te))), none, none, none]) (Nat.le_of_ble_eq_true rfl) rfl ?_
      refine wg_bipush (d138_19 L xs) (x := 32) (by decide) ?_
      refine wg_istore (d138_21 L xs) (ls' := [some (.ref 141), some (.int (nI fs.length)), some (.int 1), some (.int (nI (c + rd))), some (.int (nI (c + te))), some (.int (nI r)), some (.int (nI (c + te))), some (.int 32), none, none]) (Nat.le_of_ble_eq_true rfl) rfl ?_
      refine wg_iload_n (d138_23 L xs) rfl ?_
      refine wg_iconst (d138_24 L xs) (x := 1) (by decide) ?_
      refine wg_icmp_le (d138_25 L xs) (t := 70) (by decide) (fun _ => ?_) (fun hn => absurd (by decide) hn)
      refine wg_iload_n (d138_70 L xs) rfl ?_
      refine wg_if_ne (d138_71 L xs) (t := 76) (by decide) (fun _ => ?_) (fun hn => absurd (by decide) hn)
      refine wg_iload_n (d138_76 L xs) rfl ?_
      refine wg_iconst (d138_77 L xs) (x := 4) (by decide) ?_
      refine wg_icmp_ne (d138_78 L xs) (t := 124) (by decide) (fun _ => ?_) (fun hn => absurd (by decide) hn)
      refine wg_aload_n (d138_124 L xs) rfl ?_
      refine wg_invv (d138_125 L xs) (kd := 7) (mj := 140) (n := 0) rfl (Or.inl rfl) (ys := []) (r := []) rfl rfl (by decide) rfl rfl (Nat.le_of_ble_eq_true rfl) (md_look1 (n := σ.1) hsg.1 hl) ?_
      rintro _ _ ⟨rfl, rfl⟩
      refine wg_if_ne (d138_128 L xs) (t := 133) (by decide) (fun _ => ?_) (fun hn => absurd (by decide) hn)
      refine wg_iload_n (d138_133 L xs) rfl ?_
      refine wg_iconst (d138_134 L xs) (x := 1) (by decide) ?_
      refine wg_icmp_eq (d138_135 L xs) (t := 143) (by decide) (fun _ => ?_) (fun hn => absurd (by decide) hn)
      refine wg_iload (d138_143 L xs) rfl ?_
      refine wg_goto (d138_145 L xs) (t := 150) (by decide) ?_
      refine wg_istore (d138_150 L xs) (ls' := [some (.ref 141), some (.int (nI fs.length)), some (.int 1), some (.int (nI (c + rd))), some (.int (nI (c + te))), some (.int (nI r)), some (.int (nI (c + te))), some (.int 32), some (.int (nI (c + te))), none]) (Nat.le_of_ble_eq_true rfl) rfl ?_
      refine wg_iconst (d138_152 L xs) (x := 1) (by decide) ?_
      refine wg_istore (d138_153 L xs) (ls' := [some (.ref 141), some (.int (nI fs.length)), some (.int 1), some (.int (nI (c + rd))), some (.int (nI (c + te))), some (.int (nI r)), some (.int (nI (c + te))), some (.int 32), some (.int (nI (c + te))), some (.int 1)]) (Nat.le_of_ble_eq_true rfl) rfl ?_
      refine wg_iload_n (d138_155 L xs) rfl ?_
      refine wg_iload (d138_156 L xs) rfl ?_
      refine wn_icmp_ge (d138_158 L xs) (x := c + rd) (y := c + te) (by omega) (by omega) (t := 177) (by decide) (fun h26 => by omega) (fun h26 => ?_)
      refine wg_aload_n (d138_161 L xs) rfl ?_
      refine wg_iload (d138_162 L xs) rfl ?_
      refine wg_iload_n (d138_164 L xs) rfl ?_
      refine wg_iconst (d138_165 L xs) (x := 1) (by decide) ?_
      refine wg_iadd (d138_166 L xs) ?_
      refine wg_top (y := (nI (c + rd + 1))) (nI_add (c + rd) 1) ?_
      refine wg_iload (d138_167 L xs) rfl ?_
      refine wg_invv (d138_169 L xs) (kd := 7) (mj := 141) (n := 3) rfl (Or.inl rfl) (ys := [.int (nI (c + te)), .int (nI (c + rd + 1)), .int (nI r)]) (r := []) rfl rfl (by decide) rfl rfl (Nat.le_of_ble_eq_true rfl) (by have h := md_expand (L := L) (xs := xs) (d := d + 5) (s := mg_I s 141 37 (nI (σ.1 + 1))) (i := rd + 1) (j := te) hX1 hte htg; rw [hN] at h; exact h) ?_
      rintro _ s2 ⟨rfl, hm2, hn2⟩
      refine wg_istore (d138_172 L xs) (ls' := [some (.ref 141), some (.int (nI fs.length)), some (.int 1), some (.int (nI (c + rd))), some (.int (nI (c + te))), some (.int (nI r)), some (.int (nI (c + te))), some (.int 32), some (.int (nI (c + te))), some (.int 1)]) (Nat.le_of_ble_eq_true rfl) rfl ?_
      refine wg_goto (d138_174 L xs) (t := 181) (by decide) ?_
      refine wg_iload_n (d138_181 L xs) rfl ?_
      refine wg_iconst (d138_182 L xs) (x := 1) (by decide) ?_
      refine wg_icmp_ne (d138_183 L xs) (t := 211) (by decide) (fun hp => absurd hp (by decide)) (fun _ => ?_)
      refine wg_iload (d138_186 L xs) rfl ?_
      refine wg_if_eq (d138_188 L xs) (t := 203) (by decide) (fun hp => absurd hp (by decide)) (fun _ => ?_)
      refine wg_aload_n (d138_191 L xs) rfl ?_
      refine wg_iconst (d138_192 L xs) (x := 1) (by decide) ?_
      refine wg_aload_n (d138_193 L xs) rfl ?_
      refine wg_get (d138_194 L xs) (kd := 1) (cj := 9) (k0 := 33) rfl (Or.inl rfl) (by decide) rfl rfl ?_
      refine wg_top (y := (nI res)) ((hm2.2.1 33 (by decide)).trans h33) ?_
      refine wg_invv (d138_197 L xs) (kd := 7) (mj := 117) (n := 2) rfl (Or.inl rfl) (ys := [.int (nI res), .int 1]) (r := []) rfl rfl (by decide) rfl rfl (Nat.le_of_ble_eq_true rfl) (md_begin (E := E) (fs := fr_nx F tq 1 :: fs) (how := 1) (sg := res) (nm := (x_w E D dom (rd + 1) te)) (σ := st_lk σ) (isE_of hX1.2.1 hm2 (by decide) (by decide)) (hn2 rfl).1 (hn2 rfl).2 hN ((hm2.2.1 23 (by decide)).trans hX.2.2.2.1) (by omega) ⟨fun z => absurd z (by decide), fun z => absurd z (by show ¬ fs.length + 1 = 0; omega)⟩ (fun _ => hres1) hres4 (fun _ g gs e => by cases e; show 1 ≤ fr_n F + 1; omega) (isStk_m (isStk_I hst) hm2 (by decide)) (isSg_of hsg1 hm2 (by decide) (by decide)) hok1 (show fs.length + 1 ≤ σ.1 + 1 by omega)) ?_
      rintro _ s3 ⟨rfl, hm3, hko⟩
      refine wg_goto (d138_200 L xs) (t := 209) (by decide) ?_
      refine wg_iconst (d138_209 L xs) (x := (-1)) (by decide) ?_
      exact wg_iret (d138_210 L xs) rfl rfl ⟨rfl, (m01.trans (hm2.more (by decide) (by decide))).trans hm3, by rw [inc_fin rfl hl (by omega) hok (by rw [hxn]; exact hN), hxn]; exact kOut_le hko (by show 2 * (10 - (σ.1 + 1)) + (fs.length + 1 + 1) ≤ _; omega)⟩
  · refine wg_aload_n (d138_0 L xs) rfl ?_
    refine wg_get (d138_1 L xs) (kd := 1) (cj := 9) (k0 := 26) rfl (Or.inl rfl) (by decide) rfl rfl ?_
    refine wg_iload_n (d138_4 L xs) rfl ?_
    refine wg_iald (d138_5 L xs) (n := 13) (by decide) rfl (vp_in_nI (n := fs.length) (by omega) (by omega)) ?_
    refine wg_top (y := (nI r)) (by rw [nI_nat (n := fs.length) (by omega)]; exact h56) ?_
    refine wg_istore (d138_6 L xs) (ls' := [some (.ref 141), some (.int (nI fs.length)), some (.int 1), some (.int (nI (c + rd))), some (.int (nI (c + te))), some (.int (nI r)), none, none, none, none]) (Nat.le_of_ble_eq_true rfl) rfl ?_
    refine wg_aload_n (d138_8 L xs) rfl ?_
    refine wg_iload (d138_9 L xs) rfl ?_
    refine wg_iload_n (d138_11 L xs) rfl ?_
    refine wg_iload (d138_12 L xs) rfl ?_
    refine wg_invv (d138_14 L xs) (kd := 7) (mj := 135) (n := 3) rfl (Or.inl rfl) (ys := [.int (nI (c + te)), .int (nI (c + rd)), .int (nI r)]) (r := []) rfl rfl (by decide) rfl rfl (Nat.le_of_ble_eq_true rfl) (by have h := md_slash (L := L) (xs := xs) (d := d + 6) (i := rd) (j := te) hR hte (by omega); rw [hS] at h; exact h) ?_
    rintro _ _ ⟨rfl, rfl⟩
    refine wg_istore (d138_17 L xs) (ls' := [some (.ref 141), some (.int (nI fs.length)), some (.int 1), some (.int (nI (c + rd))), some (.int (nI (c + te))), some (.int (nI r)), some (.int (nI (c + te))), none, none, none]) (Nat.le_of_ble_eq_true rfl) rfl ?_
    refine wg_bipush (d138_19 L xs) (x := 32) (by decide) ?_
    refine wg_istore (d138_21 L xs) (ls' := [some (.ref 141), some (.int (nI fs.length)), some (.int 1), some (.int (nI (c + rd))), some (.int (nI (c + te))), some (.int (nI r)), some (.int (nI (c + te))), some (.int 32), none, none]) (Nat.le_of_ble_eq_true rfl) rfl ?_
    refine wg_iload_n (d138_23 L xs) rfl ?_
    refine wg_iconst (d138_24 L xs) (x := 1) (by decide) ?_
    refine wg_icmp_le (d138_25 L xs) (t := 70) (by decide) (fun _ => ?_) (fun hn => absurd (by decide) hn)
    refine wg_iload_n (d138_70 L xs) rfl ?_
    refine wg_if_ne (d138_71 L xs) (t := 76) (by decide) (fun _ => ?_) (fun hn => absurd (by decide) hn)
    refine wg_iload_n (d138_76 L xs) rfl ?_
    refine wg_iconst (d138_77 L xs) (x := 4) (by decide) ?_
    refine wg_icmp_ne (d138_78 L xs) (t := 124) (by decide) (fun _ => ?_) (fun hn => absurd (by decide) hn)
    refine wg_aload_n (d138_124 L xs) rfl ?_
    refine wg_invv (d138_125 L xs) (kd := 7) (mj := 140) (n := 0) rfl (Or.inl rfl) (ys := []) (r := []) rfl rfl (by decide) rfl rfl (Nat.le_of_ble_eq_true rfl) (md_look0 (n := σ.1) hsg.1 (by omega)) ?_
    rintro _ _ ⟨rfl, rfl⟩
    refine wg_if_ne (d138_128 L xs) (t := 133) (by decide) (fun hp => absurd hp (by decide)) (fun _ => ?_)
    refine wg_iconst (d138_131 L xs) (x := (-1)) (by decide) ?_
    exact wg_iret (d138_132 L xs) rfl rfl ⟨rfl, (mfr_I s (by decide)).trans (mfr_I _ (by decide)), by rw [(ma_6 (show ¬ (1 : Nat) = 0 by omega) (show ¬ (1 : Nat) = 4 by omega) hl)]; unfold k_aft; rw [if_neg (show ¬ (6 : Nat) = 1 by omega), if_neg (show ¬ (6 : Nat) = 0 by omega), k_ret_err (show 5 ≤ 6 by omega)]; exact Or.inl ⟨rfl, rfl, isSg_I (isSg_I hsg (by decide)) (by decide)⟩⟩
end KW
