/-! the reference: the terms of a record, one after another -/
theorem d126_0 (L : Nat) (xs : Nat → Int32) : decode (ax_code (mgT L xs) 126) 0 = .ok (.aload_n 0, 1) := by
  show decode prog_11_method_32_code 0 = _
  decide +kernel
theorem d126_1 (L : Nat) (xs : Nat → Int32) : decode (ax_code (mgT L xs) 126) 1 = .ok (.getfield 52, 3) := by
  show decode prog_11_method_32_code 1 = _
  decide +kernel
theorem d126_4 (L : Nat) (xs : Nat → Int32) : decode (ax_code (mgT L xs) 126) 4 = .ok (.iload_n 1, 1) := by
  show decode prog_11_method_32_code 4 = _
  decide +kernel
theorem d126_5 (L : Nat) (xs : Nat → Int32) : decode (ax_code (mgT L xs) 126) 5 = .ok (.iaload, 1) := by
  show decode prog_11_method_32_code 5 = _
  decide +kernel
theorem d126_6 (L : Nat) (xs : Nat → Int32) : decode (ax_code (mgT L xs) 126) 6 = .ok (.istore_n 2, 1) := by
  show decode prog_11_method_32_code 6 = _
  decide +kernel
theorem d126_7 (L : Nat) (xs : Nat → Int32) : decode (ax_code (mgT L xs) 126) 7 = .ok (.aload_n 0, 1) := by
  show decode prog_11_method_32_code 7 = _
  decide +kernel
theorem d126_8 (L : Nat) (xs : Nat → Int32) : decode (ax_code (mgT L xs) 126) 8 = .ok (.getfield 22, 3) := by
  show decode prog_11_method_32_code 8 = _
  decide +kernel
theorem d126_11 (L : Nat) (xs : Nat → Int32) : decode (ax_code (mgT L xs) 126) 11 = .ok (.iload_n 2, 1) := by
  show decode prog_11_method_32_code 11 = _
  decide +kernel
theorem d126_12 (L : Nat) (xs : Nat → Int32) : decode (ax_code (mgT L xs) 126) 12 = .ok (.iaload, 1) := by
  show decode prog_11_method_32_code 12 = _
  decide +kernel
theorem d126_13 (L : Nat) (xs : Nat → Int32) : decode (ax_code (mgT L xs) 126) 13 = .ok (.bipush 7, 2) := by
  show decode prog_11_method_32_code 13 = _
  decide +kernel
theorem d126_15 (L : Nat) (xs : Nat → Int32) : decode (ax_code (mgT L xs) 126) 15 = .ok (.iadd, 1) := by
  show decode prog_11_method_32_code 15 = _
  decide +kernel
theorem d126_16 (L : Nat) (xs : Nat → Int32) : decode (ax_code (mgT L xs) 126) 16 = .ok (.istore_n 3, 1) := by
  show decode prog_11_method_32_code 16 = _
  decide +kernel
theorem d126_17 (L : Nat) (xs : Nat → Int32) : decode (ax_code (mgT L xs) 126) 17 = .ok (.aload_n 0, 1) := by
  show decode prog_11_method_32_code 17 = _
  decide +kernel
theorem d126_18 (L : Nat) (xs : Nat → Int32) : decode (ax_code (mgT L xs) 126) 18 = .ok (.getfield 58, 3) := by
  show decode prog_11_method_32_code 18 = _
  decide +kernel
theorem d126_21 (L : Nat) (xs : Nat → Int32) : decode (ax_code (mgT L xs) 126) 21 = .ok (.iload_n 1, 1) := by
  show decode prog_11_method_32_code 21 = _
  decide +kernel
theorem d126_22 (L : Nat) (xs : Nat → Int32) : decode (ax_code (mgT L xs) 126) 22 = .ok (.iconst (-1), 1) := by
  show decode prog_11_method_32_code 22 = _
  decide +kernel
theorem d126_23 (L : Nat) (xs : Nat → Int32) : decode (ax_code (mgT L xs) 126) 23 = .ok (.iastore, 1) := by
  show decode prog_11_method_32_code 23 = _
  decide +kernel
theorem d126_24 (L : Nat) (xs : Nat → Int32) : decode (ax_code (mgT L xs) 126) 24 = .ok (.aload_n 0, 1) := by
  show decode prog_11_method_32_code 24 = _
  decide +kernel
theorem d126_25 (L : Nat) (xs : Nat → Int32) : decode (ax_code (mgT L xs) 126) 25 = .ok (.getfield 55, 3) := by
  show decode prog_11_method_32_code 25 = _
  decide +kernel
theorem d126_28 (L : Nat) (xs : Nat → Int32) : decode (ax_code (mgT L xs) 126) 28 = .ok (.iload_n 1, 1) := by
  show decode prog_11_method_32_code 28 = _
  decide +kernel
theorem d126_29 (L : Nat) (xs : Nat → Int32) : decode (ax_code (mgT L xs) 126) 29 = .ok (.iload_n 3, 1) := by
  show decode prog_11_method_32_code 29 = _
  decide +kernel
theorem d126_30 (L : Nat) (xs : Nat → Int32) : decode (ax_code (mgT L xs) 126) 30 = .ok (.iastore, 1) := by
  show decode prog_11_method_32_code 30 = _
  decide +kernel
theorem d126_31 (L : Nat) (xs : Nat → Int32) : decode (ax_code (mgT L xs) 126) 31 = .ok (.iload_n 3, 1) := by
  show decode prog_11_method_32_code 31 = _
  decide +kernel
theorem d126_32 (L : Nat) (xs : Nat → Int32) : decode (ax_code (mgT L xs) 126) 32 = .ok (.aload_n 0, 1) := by
  show decode prog_11_method_32_code 32 = _
  decide +kernel
theorem d126_33 (L : Nat) (xs : Nat → Int32) : decode (ax_code (mgT L xs) 126) 33 = .ok (.getfield 19, 3) := by
  show decode prog_11_method_32_code 33 = _
  decide +kernel
theorem d126_36 (L : Nat) (xs : Nat → Int32) : decode (ax_code (mgT L xs) 126) 36 = .ok (.iload_n 2, 1) := by
  show decode prog_11_method_32_code 36 = _
  decide +kernel
theorem d126_37 (L : Nat) (xs : Nat → Int32) : decode (ax_code (mgT L xs) 126) 37 = .ok (.iaload, 1) := by
  show decode prog_11_method_32_code 37 = _
  decide +kernel
theorem d126_38 (L : Nat) (xs : Nat → Int32) : decode (ax_code (mgT L xs) 126) 38 = .ok (.if_icmp .ge 174, 3) := by
  show decode prog_11_method_32_code 38 = _
  decide +kernel
theorem d126_41 (L : Nat) (xs : Nat → Int32) : decode (ax_code (mgT L xs) 126) 41 = .ok (.aload_n 0, 1) := by
  show decode prog_11_method_32_code 41 = _
  decide +kernel
theorem d126_42 (L : Nat) (xs : Nat → Int32) : decode (ax_code (mgT L xs) 126) 42 = .ok (.iload_n 2, 1) := by
  show decode prog_11_method_32_code 42 = _
  decide +kernel
theorem d126_43 (L : Nat) (xs : Nat → Int32) : decode (ax_code (mgT L xs) 126) 43 = .ok (.iload_n 3, 1) := by
  show decode prog_11_method_32_code 43 = _
  decide +kernel
theorem d126_44 (L : Nat) (xs : Nat → Int32) : decode (ax_code (mgT L xs) 126) 44 = .ok (.invokevirtual 184, 3) := by
  show decode prog_11_method_32_code 44 = _
  decide +kernel
theorem d126_47 (L : Nat) (xs : Nat → Int32) : decode (ax_code (mgT L xs) 126) 47 = .ok (.istore 4, 2) := by
  show decode prog_11_method_32_code 47 = _
  decide +kernel
theorem d126_49 (L : Nat) (xs : Nat → Int32) : decode (ax_code (mgT L xs) 126) 49 = .ok (.aload_n 0, 1) := by
  show decode prog_11_method_32_code 49 = _
  decide +kernel
theorem d126_50 (L : Nat) (xs : Nat → Int32) : decode (ax_code (mgT L xs) 126) 50 = .ok (.iload_n 2, 1) := by
  show decode prog_11_method_32_code 50 = _
  decide +kernel
theorem d126_51 (L : Nat) (xs : Nat → Int32) : decode (ax_code (mgT L xs) 126) 51 = .ok (.iload_n 3, 1) := by
  show decode prog_11_method_32_code 51 = _
  decide +kernel
theorem d126_52 (L : Nat) (xs : Nat → Int32) : decode (ax_code (mgT L xs) 126) 52 = .ok (.iload 4, 2) := by
  show decode prog_11_method_32_code 52 = _
  decide +kernel
theorem d126_54 (L : Nat) (xs : Nat → Int32) : decode (ax_code (mgT L xs) 126) 54 = .ok (.invokevirtual 187, 3) := by
  show decode prog_11_method_32_code 54 = _
  decide +kernel
theorem d126_57 (L : Nat) (xs : Nat → Int32) : decode (ax_code (mgT L xs) 126) 57 = .ok (.istore 5, 2) := by
  show decode prog_11_method_32_code 57 = _
  decide +kernel
theorem d126_59 (L : Nat) (xs : Nat → Int32) : decode (ax_code (mgT L xs) 126) 59 = .ok (.iload 5, 2) := by
  show decode prog_11_method_32_code 59 = _
  decide +kernel
theorem d126_61 (L : Nat) (xs : Nat → Int32) : decode (ax_code (mgT L xs) 126) 61 = .ok (.ifCond .lt 102, 3) := by
  show decode prog_11_method_32_code 61 = _
  decide +kernel
theorem d126_64 (L : Nat) (xs : Nat → Int32) : decode (ax_code (mgT L xs) 126) 64 = .ok (.aload_n 0, 1) := by
  show decode prog_11_method_32_code 64 = _
  decide +kernel
theorem d126_65 (L : Nat) (xs : Nat → Int32) : decode (ax_code (mgT L xs) 126) 65 = .ok (.iload_n 2, 1) := by
  show decode prog_11_method_32_code 65 = _
  decide +kernel
theorem d126_66 (L : Nat) (xs : Nat → Int32) : decode (ax_code (mgT L xs) 126) 66 = .ok (.iload_n 3, 1) := by
  show decode prog_11_method_32_code 66 = _
  decide +kernel
theorem d126_67 (L : Nat) (xs : Nat → Int32) : decode (ax_code (mgT L xs) 126) 67 = .ok (.iload 5, 2) := by
  show decode prog_11_method_32_code 67 = _
  decide +kernel
theorem d126_69 (L : Nat) (xs : Nat → Int32) : decode (ax_code (mgT L xs) 126) 69 = .ok (.invokevirtual 190, 3) := by
  show decode prog_11_method_32_code 69 = _
  decide +kernel
theorem d126_72 (L : Nat) (xs : Nat → Int32) : decode (ax_code (mgT L xs) 126) 72 = .ok (.istore 6, 2) := by
  show decode prog_11_method_32_code 72 = _
  decide +kernel
theorem d126_74 (L : Nat) (xs : Nat → Int32) : decode (ax_code (mgT L xs) 126) 74 = .ok (.aload_n 0, 1) := by
  show decode prog_11_method_32_code 74 = _
  decide +kernel
theorem d126_75 (L : Nat) (xs : Nat → Int32) : decode (ax_code (mgT L xs) 126) 75 = .ok (.iload_n 2, 1) := by
  show decode prog_11_method_32_code 75 = _
  decide +kernel
theorem d126_76 (L : Nat) (xs : Nat → Int32) : decode (ax_code (mgT L xs) 126) 76 = .ok (.iload 5, 2) := by
  show decode prog_11_method_32_code 76 = _
  decide +kernel
theorem d126_78 (L : Nat) (xs : Nat → Int32) : decode (ax_code (mgT L xs) 126) 78 = .ok (.iconst 1, 1) := by
  show decode prog_11_method_32_code 78 = _
  decide +kernel
theorem d126_79 (L : Nat) (xs : Nat → Int32) : decode (ax_code (mgT L xs) 126) 79 = .ok (.iadd, 1) := by
  show decode prog_11_method_32_code 79 = _
  decide +kernel
theorem d126_80 (L : Nat) (xs : Nat → Int32) : decode (ax_code (mgT L xs) 126) 80 = .ok (.iload 4, 2) := by
  show decode prog_11_method_32_code 80 = _
  decide +kernel
theorem d126_82 (L : Nat) (xs : Nat → Int32) : decode (ax_code (mgT L xs) 126) 82 = .ok (.iconst 1, 1) := by
  show decode prog_11_method_32_code 82 = _
  decide +kernel
theorem d126_83 (L : Nat) (xs : Nat → Int32) : decode (ax_code (mgT L xs) 126) 83 = .ok (.invokevirtual 177, 3) := by
  show decode prog_11_method_32_code 83 = _
  decide +kernel
theorem d126_86 (L : Nat) (xs : Nat → Int32) : decode (ax_code (mgT L xs) 126) 86 = .ok (.ifCond .eq 26, 3) := by
  show decode prog_11_method_32_code 86 = _
  decide +kernel
theorem d126_89 (L : Nat) (xs : Nat → Int32) : decode (ax_code (mgT L xs) 126) 89 = .ok (.iload 6, 2) := by
  show decode prog_11_method_32_code 89 = _
  decide +kernel
theorem d126_91 (L : Nat) (xs : Nat → Int32) : decode (ax_code (mgT L xs) 126) 91 = .ok (.ifCond .eq 23, 3) := by
  show decode prog_11_method_32_code 91 = _
  decide +kernel
theorem d126_94 (L : Nat) (xs : Nat → Int32) : decode (ax_code (mgT L xs) 126) 94 = .ok (.aload_n 0, 1) := by
  show decode prog_11_method_32_code 94 = _
  decide +kernel
theorem d126_95 (L : Nat) (xs : Nat → Int32) : decode (ax_code (mgT L xs) 126) 95 = .ok (.getfield 58, 3) := by
  show decode prog_11_method_32_code 95 = _
  decide +kernel
theorem d126_98 (L : Nat) (xs : Nat → Int32) : decode (ax_code (mgT L xs) 126) 98 = .ok (.iload_n 1, 1) := by
  show decode prog_11_method_32_code 98 = _
  decide +kernel
theorem d126_99 (L : Nat) (xs : Nat → Int32) : decode (ax_code (mgT L xs) 126) 99 = .ok (.iaload, 1) := by
  show decode prog_11_method_32_code 99 = _
  decide +kernel
theorem d126_100 (L : Nat) (xs : Nat → Int32) : decode (ax_code (mgT L xs) 126) 100 = .ok (.ifCond .ge 12, 3) := by
  show decode prog_11_method_32_code 100 = _
  decide +kernel
theorem d126_103 (L : Nat) (xs : Nat → Int32) : decode (ax_code (mgT L xs) 126) 103 = .ok (.iload 5, 2) := by
  show decode prog_11_method_32_code 103 = _
  decide +kernel
theorem d126_105 (L : Nat) (xs : Nat → Int32) : decode (ax_code (mgT L xs) 126) 105 = .ok (.iconst 1, 1) := by
  show decode prog_11_method_32_code 105 = _
  decide +kernel
theorem d126_106 (L : Nat) (xs : Nat → Int32) : decode (ax_code (mgT L xs) 126) 106 = .ok (.iadd, 1) := by
  show decode prog_11_method_32_code 106 = _
  decide +kernel
theorem d126_107 (L : Nat) (xs : Nat → Int32) : decode (ax_code (mgT L xs) 126) 107 = .ok (.iload 4, 2) := by
  show decode prog_11_method_32_code 107 = _
  decide +kernel
theorem d126_109 (L : Nat) (xs : Nat → Int32) : decode (ax_code (mgT L xs) 126) 109 = .ok (.if_icmp .ne 5, 3) := by
  show decode prog_11_method_32_code 109 = _
  decide +kernel
theorem d126_112 (L : Nat) (xs : Nat → Int32) : decode (ax_code (mgT L xs) 126) 112 = .ok (.iconst 0, 1) := by
  show decode prog_11_method_32_code 112 = _
  decide +kernel
theorem d126_113 (L : Nat) (xs : Nat → Int32) : decode (ax_code (mgT L xs) 126) 113 = .ok (.ireturn, 1) := by
  show decode prog_11_method_32_code 113 = _
  decide +kernel
theorem d126_114 (L : Nat) (xs : Nat → Int32) : decode (ax_code (mgT L xs) 126) 114 = .ok (.aload_n 0, 1) := by
  show decode prog_11_method_32_code 114 = _
  decide +kernel
theorem d126_115 (L : Nat) (xs : Nat → Int32) : decode (ax_code (mgT L xs) 126) 115 = .ok (.getfield 58, 3) := by
  show decode prog_11_method_32_code 115 = _
  decide +kernel
theorem d126_118 (L : Nat) (xs : Nat → Int32) : decode (ax_code (mgT L xs) 126) 118 = .ok (.iload_n 1, 1) := by
  show decode prog_11_method_32_code 118 = _
  decide +kernel
theorem d126_119 (L : Nat) (xs : Nat → Int32) : decode (ax_code (mgT L xs) 126) 119 = .ok (.iload 6, 2) := by
  show decode prog_11_method_32_code 119 = _
  decide +kernel
theorem d126_121 (L : Nat) (xs : Nat → Int32) : decode (ax_code (mgT L xs) 126) 121 = .ok (.ifCond .eq 10, 3) := by
  show decode prog_11_method_32_code 121 = _
  decide +kernel
theorem d126_124 (L : Nat) (xs : Nat → Int32) : decode (ax_code (mgT L xs) 126) 124 = .ok (.iload 5, 2) := by
  show decode prog_11_method_32_code 124 = _
  decide +kernel
theorem d126_126 (L : Nat) (xs : Nat → Int32) : decode (ax_code (mgT L xs) 126) 126 = .ok (.iconst 1, 1) := by
  show decode prog_11_method_32_code 126 = _
  decide +kernel
theorem d126_127 (L : Nat) (xs : Nat → Int32) : decode (ax_code (mgT L xs) 126) 127 = .ok (.iadd, 1) := by
  show decode prog_11_method_32_code 127 = _
  decide +kernel
theorem d126_128 (L : Nat) (xs : Nat → Int32) : decode (ax_code (mgT L xs) 126) 128 = .ok (.goto 9, 3) := by
  show decode prog_11_method_32_code 128 = _
  decide +kernel
theorem d126_131 (L : Nat) (xs : Nat → Int32) : decode (ax_code (mgT L xs) 126) 131 = .ok (.aload_n 0, 1) := by
  show decode prog_11_method_32_code 131 = _
  decide +kernel
theorem d126_132 (L : Nat) (xs : Nat → Int32) : decode (ax_code (mgT L xs) 126) 132 = .ok (.getfield 58, 3) := by
  show decode prog_11_method_32_code 132 = _
  decide +kernel
theorem d126_135 (L : Nat) (xs : Nat → Int32) : decode (ax_code (mgT L xs) 126) 135 = .ok (.iload_n 1, 1) := by
  show decode prog_11_method_32_code 135 = _
  decide +kernel
theorem d126_136 (L : Nat) (xs : Nat → Int32) : decode (ax_code (mgT L xs) 126) 136 = .ok (.iaload, 1) := by
  show decode prog_11_method_32_code 136 = _
  decide +kernel
theorem d126_137 (L : Nat) (xs : Nat → Int32) : decode (ax_code (mgT L xs) 126) 137 = .ok (.iastore, 1) := by
  show decode prog_11_method_32_code 137 = _
  decide +kernel
theorem d126_138 (L : Nat) (xs : Nat → Int32) : decode (ax_code (mgT L xs) 126) 138 = .ok (.aload_n 0, 1) := by
  show decode prog_11_method_32_code 138 = _
  decide +kernel
theorem d126_139 (L : Nat) (xs : Nat → Int32) : decode (ax_code (mgT L xs) 126) 139 = .ok (.getfield 61, 3) := by
  show decode prog_11_method_32_code 139 = _
  decide +kernel
theorem d126_142 (L : Nat) (xs : Nat → Int32) : decode (ax_code (mgT L xs) 126) 142 = .ok (.iload_n 1, 1) := by
  show decode prog_11_method_32_code 142 = _
  decide +kernel
theorem d126_143 (L : Nat) (xs : Nat → Int32) : decode (ax_code (mgT L xs) 126) 143 = .ok (.iload 6, 2) := by
  show decode prog_11_method_32_code 143 = _
  decide +kernel
theorem d126_145 (L : Nat) (xs : Nat → Int32) : decode (ax_code (mgT L xs) 126) 145 = .ok (.ifCond .eq 8, 3) := by
  show decode prog_11_method_32_code 145 = _
  decide +kernel
theorem d126_148 (L : Nat) (xs : Nat → Int32) : decode (ax_code (mgT L xs) 126) 148 = .ok (.iload 4, 2) := by
  show decode prog_11_method_32_code 148 = _
  decide +kernel
theorem d126_150 (L : Nat) (xs : Nat → Int32) : decode (ax_code (mgT L xs) 126) 150 = .ok (.goto 9, 3) := by
  show decode prog_11_method_32_code 150 = _
  decide +kernel
theorem d126_153 (L : Nat) (xs : Nat → Int32) : decode (ax_code (mgT L xs) 126) 153 = .ok (.aload_n 0, 1) := by
  show decode prog_11_method_32_code 153 = _
  decide +kernel
theorem d126_154 (L : Nat) (xs : Nat → Int32) : decode (ax_code (mgT L xs) 126) 154 = .ok (.getfield 61, 3) := by
  show decode prog_11_method_32_code 154 = _
  decide +kernel
theorem d126_157 (L : Nat) (xs : Nat → Int32) : decode (ax_code (mgT L xs) 126) 157 = .ok (.iload_n 1, 1) := by
  show decode prog_11_method_32_code 157 = _
  decide +kernel
theorem d126_158 (L : Nat) (xs : Nat → Int32) : decode (ax_code (mgT L xs) 126) 158 = .ok (.iaload, 1) := by
  show decode prog_11_method_32_code 158 = _
  decide +kernel
theorem d126_159 (L : Nat) (xs : Nat → Int32) : decode (ax_code (mgT L xs) 126) 159 = .ok (.iastore, 1) := by
  show decode prog_11_method_32_code 159 = _
  decide +kernel
theorem d126_160 (L : Nat) (xs : Nat → Int32) : decode (ax_code (mgT L xs) 126) 160 = .ok (.goto 44, 3) := by
  show decode prog_11_method_32_code 160 = _
  decide +kernel
theorem d126_163 (L : Nat) (xs : Nat → Int32) : decode (ax_code (mgT L xs) 126) 163 = .ok (.iload 4, 2) := by
  show decode prog_11_method_32_code 163 = _
  decide +kernel
theorem d126_165 (L : Nat) (xs : Nat → Int32) : decode (ax_code (mgT L xs) 126) 165 = .ok (.iload_n 3, 1) := by
  show decode prog_11_method_32_code 165 = _
  decide +kernel
theorem d126_166 (L : Nat) (xs : Nat → Int32) : decode (ax_code (mgT L xs) 126) 166 = .ok (.if_icmp .le 38, 3) := by
  show decode prog_11_method_32_code 166 = _
  decide +kernel
theorem d126_169 (L : Nat) (xs : Nat → Int32) : decode (ax_code (mgT L xs) 126) 169 = .ok (.aload_n 0, 1) := by
  show decode prog_11_method_32_code 169 = _
  decide +kernel
theorem d126_170 (L : Nat) (xs : Nat → Int32) : decode (ax_code (mgT L xs) 126) 170 = .ok (.iload_n 2, 1) := by
  show decode prog_11_method_32_code 170 = _
  decide +kernel
theorem d126_171 (L : Nat) (xs : Nat → Int32) : decode (ax_code (mgT L xs) 126) 171 = .ok (.iload_n 3, 1) := by
  show decode prog_11_method_32_code 171 = _
  decide +kernel
theorem d126_172 (L : Nat) (xs : Nat → Int32) : decode (ax_code (mgT L xs) 126) 172 = .ok (.invokevirtual 166, 3) := by
  show decode prog_11_method_32_code 172 = _
  decide +kernel
theorem d126_175 (L : Nat) (xs : Nat → Int32) : decode (ax_code (mgT L xs) 126) 175 = .ok (.invokestatic 194, 3) := by
  show decode prog_11_method_32_code 175 = _
  decide +kernel
theorem d126_178 (L : Nat) (xs : Nat → Int32) : decode (ax_code (mgT L xs) 126) 178 = .ok (.ifCond .eq 9, 3) := by
  show decode prog_11_method_32_code 178 = _
  decide +kernel
theorem d126_181 (L : Nat) (xs : Nat → Int32) : decode (ax_code (mgT L xs) 126) 181 = .ok (.iload_n 3, 1) := by
  show decode prog_11_method_32_code 181 = _
  decide +kernel
theorem d126_182 (L : Nat) (xs : Nat → Int32) : decode (ax_code (mgT L xs) 126) 182 = .ok (.iconst 1, 1) := by
  show decode prog_11_method_32_code 182 = _
  decide +kernel
theorem d126_183 (L : Nat) (xs : Nat → Int32) : decode (ax_code (mgT L xs) 126) 183 = .ok (.iadd, 1) := by
  show decode prog_11_method_32_code 183 = _
  decide +kernel
theorem d126_184 (L : Nat) (xs : Nat → Int32) : decode (ax_code (mgT L xs) 126) 184 = .ok (.goto 4, 3) := by
  show decode prog_11_method_32_code 184 = _
  decide +kernel
theorem d126_187 (L : Nat) (xs : Nat → Int32) : decode (ax_code (mgT L xs) 126) 187 = .ok (.iload_n 3, 1) := by
  show decode prog_11_method_32_code 187 = _
  decide +kernel
theorem d126_188 (L : Nat) (xs : Nat → Int32) : decode (ax_code (mgT L xs) 126) 188 = .ok (.istore 6, 2) := by
  show decode prog_11_method_32_code 188 = _
  decide +kernel
theorem d126_190 (L : Nat) (xs : Nat → Int32) : decode (ax_code (mgT L xs) 126) 190 = .ok (.aload_n 0, 1) := by
  show decode prog_11_method_32_code 190 = _
  decide +kernel
theorem d126_191 (L : Nat) (xs : Nat → Int32) : decode (ax_code (mgT L xs) 126) 191 = .ok (.iload_n 2, 1) := by
  show decode prog_11_method_32_code 191 = _
  decide +kernel
theorem d126_192 (L : Nat) (xs : Nat → Int32) : decode (ax_code (mgT L xs) 126) 192 = .ok (.iload 6, 2) := by
  show decode prog_11_method_32_code 192 = _
  decide +kernel
theorem d126_194 (L : Nat) (xs : Nat → Int32) : decode (ax_code (mgT L xs) 126) 194 = .ok (.iload 4, 2) := by
  show decode prog_11_method_32_code 194 = _
  decide +kernel
theorem d126_196 (L : Nat) (xs : Nat → Int32) : decode (ax_code (mgT L xs) 126) 196 = .ok (.invokevirtual 197, 3) := by
  show decode prog_11_method_32_code 196 = _
  decide +kernel
theorem d126_199 (L : Nat) (xs : Nat → Int32) : decode (ax_code (mgT L xs) 126) 199 = .ok (.ifCond .ne 5, 3) := by
  show decode prog_11_method_32_code 199 = _
  decide +kernel
theorem d126_202 (L : Nat) (xs : Nat → Int32) : decode (ax_code (mgT L xs) 126) 202 = .ok (.iconst 0, 1) := by
  show decode prog_11_method_32_code 202 = _
  decide +kernel
theorem d126_203 (L : Nat) (xs : Nat → Int32) : decode (ax_code (mgT L xs) 126) 203 = .ok (.ireturn, 1) := by
  show decode prog_11_method_32_code 203 = _
  decide +kernel
theorem d126_204 (L : Nat) (xs : Nat → Int32) : decode (ax_code (mgT L xs) 126) 204 = .ok (.iload 4, 2) := by
  show decode prog_11_method_32_code 204 = _
  decide +kernel
theorem d126_206 (L : Nat) (xs : Nat → Int32) : decode (ax_code (mgT L xs) 126) 206 = .ok (.iconst 1, 1) := by
  show decode prog_11_method_32_code 206 = _
  decide +kernel
theorem d126_207 (L : Nat) (xs : Nat → Int32) : decode (ax_code (mgT L xs) 126) 207 = .ok (.iadd, 1) := by
  show decode prog_11_method_32_code 207 = _
  decide +kernel
theorem d126_208 (L : Nat) (xs : Nat → Int32) : decode (ax_code (mgT L xs) 126) 208 = .ok (.istore_n 3, 1) := by
  show decode prog_11_method_32_code 208 = _
  decide +kernel
theorem d126_209 (L : Nat) (xs : Nat → Int32) : decode (ax_code (mgT L xs) 126) 209 = .ok (.goto (-178), 3) := by
  show decode prog_11_method_32_code 209 = _
  decide +kernel
theorem d126_212 (L : Nat) (xs : Nat → Int32) : decode (ax_code (mgT L xs) 126) 212 = .ok (.iconst 1, 1) := by
  show decode prog_11_method_32_code 212 = _
  decide +kernel
theorem d126_213 (L : Nat) (xs : Nat → Int32) : decode (ax_code (mgT L xs) 126) 213 = .ok (.ireturn, 1) := by
  show decode prog_11_method_32_code 213 = _
  decide +kernel
/-- the end of the term that begins at p -/
def t_te (D : List Nat) (p : Nat) : Nat := f_find (gl D) 32 p (D.length - p)
theorem te_s {D : List Nat} {p : Nat} (h : p ≤ D.length) : p ≤ t_te D p ∧ t_te D p ≤ D.length ∧ (∀ k, p ≤ k → k < t_te D p → ¬ gl D k = 32) ∧ (t_te D p = D.length ∨ gl D (t_te D p) = 32) := by
  obtain ⟨f1, f2, f3, f4⟩ := f_find_s (g := gl D) (c := 32) (D.length - p) p
  refine ⟨f1, by unfold t_te; omega, f3, ?_⟩
  rcases Nat.lt_or_ge (t_te D p) D.length with q | q
  · exact Or.inr (f4 (by unfold t_te at q; omega))
  · left; unfold t_te at q ⊢; omega
theorem te_ga {D : List Nat} {p : Nat} (h : p ≤ D.length) : ga D (t_te D p) = 32 := by
  have := te_s h
  unfold ga
  split
  · rcases this.2.2.2 with q | q
    · omega
    · exact q
  · rfl
def f_rt (D : List Nat) : Nat → Nat → Nat × Nat → Nat × Nat
  | 0, _, o => o
  | m + 1, p, o => if p < D.length then (if p < t_te D p then (match t_term (gl D) p (t_te D p) with
      | none => f_rt D m (t_te D p + 1) o
      | some t => f_rt D m (t_te D p + 1) (if t.1 = 6 then (t.2.2.1, t.2.2.2.1) else o)) else f_rt D m (t_te D p + 1) o) else o
def x_tm (E : ckE) (inn : List Nat → ckS → Nat × ckS) (dep : Nat) (D dom : List Nat) (o : Nat × Nat) : Nat → Nat → Nat → ckS → Nat × ckS
  | 0, _, _, σ => x_rd E inn D dom o.1 o.2 σ
  | m + 1, p, n, σ => if p < D.length then (if p < t_te D p then (match t_term (gl D) p (t_te D p) with
      | none => x_tm E inn dep D dom o m (t_te D p + 1) n σ
      | some t => if t.1 < 6 then (if (x_ma E inn D dom t σ).1 = 1 then (t.2.1, st_mt (x_ma E inn D dom t σ).2 dep n) else if (x_ma E inn D dom t σ).1 = 0 then x_tm E inn dep D dom o m (t_te D p + 1) (n + 1) (x_ma E inn D dom t σ).2 else x_ma E inn D dom t σ) else x_tm E inn dep D dom o m (t_te D p + 1) n σ) else x_tm E inn dep D dom o m (t_te D p + 1) n σ) else x_rd E inn D dom o.1 o.2 σ
theorem x_gt_skip {E : ckE} {inn : List Nat → ckS → Nat × ckS} {dep : Nat} {D dom : List Nat} : ∀ (q m st i n rf rt : Nat) (σ : ckS), (∀ k, i ≤ k → k < i + q → ¬ gl D k = 32) → i + q ≤ D.length → x_gt E inn dep D dom (q + m) st i n rf rt σ = x_gt E inn dep D dom m st (i + q) n rf rt σ := by
  intro q
  induction q with
  | zero => intro m st i n rf rt σ _ _; rw [Nat.zero_add]; rfl
  | succ q ih =>
    intro m st i n rf rt σ h1 h2
    rw [show q + 1 + m = (q + m) + 1 by omega, x_gt, if_neg (fun z => z.elim (fun y => by omega) (h1 i (Nat.le_refl _) (by omega))), ih m st (i + 1) n rf rt σ (fun k a b => h1 k (by omega) (by omega)) (by omega), show i + 1 + q = i + (q + 1) by omega]
theorem f_al_skip {D : List Nat} : ∀ (q m st i n : Nat), (∀ k, i ≤ k → k < i + q → ¬ gl D k = 32) → i + q ≤ D.length → f_al D (q + m) st i n = f_al D m st (i + q) n := by
  intro q
  induction q with
  | zero => intro m st i n _ _; rw [Nat.zero_add]; rfl
  | succ q ih =>
    intro m st i n h1 h2
    rw [show q + 1 + m = (q + m) + 1 by omega, f_al, if_neg (fun z => z.elim (fun y => by omega) (h1 i (Nat.le_refl _) (by omega))), ih m st (i + 1) n (fun k a b => h1 k (by omega) (by omega)) (by omega), show i + 1 + q = i + (q + 1) by omega]
theorem x_gt_end {E : ckE} {inn : List Nat → ckS → Nat × ckS} {dep : Nat} {D dom : List Nat} {p n rf rt : Nat} {σ : ckS} (h : D.length ≤ p) : x_gt E inn dep D dom (D.length + 1 - p) p p n rf rt σ = x_rd E inn D dom rf rt σ := by
  rcases Nat.lt_or_ge D.length p with q | q
  · rw [show D.length + 1 - p = 0 by omega, x_gt]
  · have : p = D.length := by omega
    subst this
    rw [show D.length + 1 - D.length = 0 + 1 by omega, x_gt, if_pos (Or.inl rfl), if_neg (by omega), x_gt]
theorem f_al_end {D : List Nat} {p n : Nat} (h : D.length ≤ p) : f_al D (D.length + 1 - p) p p n = decide (n ≤ 1) := by
  rcases Nat.lt_or_ge D.length p with q | q
  · rw [show D.length + 1 - p = 0 by omega, f_al]
  · have : p = D.length := by omega
    subst this
    rw [show D.length + 1 - D.length = 0 + 1 by omega, f_al, if_pos (Or.inl rfl), if_neg (by omega), f_al]
theorem x_gt_tm {E : ckE} {inn : List Nat → ckS → Nat × ckS} {dep : Nat} {D dom : List Nat} : ∀ (m p n : Nat) (o : Nat × Nat) (σ : ckS), D.length ≤ p + m → x_gt E inn dep D dom (D.length + 1 - p) p p n o.1 o.2 σ = x_tm E inn dep D dom (f_rt D m p o) m p n σ := by
  intro m
  induction m with
  | zero => intro p n o σ h; rw [x_gt_end (by omega)]; rfl
  | succ m ih =>
    intro p n o σ h
    rw [x_tm, f_rt]
    by_cases e : p < D.length
    · obtain ⟨t1, t2, t3, t4⟩ := te_s (D := D) (p := p) (by omega)
      rw [if_pos e, if_pos e, show D.length + 1 - p = (t_te D p - p) + ((D.length - t_te D p) + 1) by omega, x_gt_skip _ _ _ _ _ _ _ _ (fun k a b => t3 k a (by omega)) (by omega), show p + (t_te D p - p) = t_te D p by omega, x_gt, if_pos t4]
      have hI := fun n' o' σ' => ih (t_te D p + 1) n' o' σ' (by omega)
      rw [show D.length + 1 - (t_te D p + 1) = D.length - t_te D p by omega] at hI
      by_cases e2 : p < t_te D p
      · rw [if_pos e2, if_pos e2, if_pos e2]
        cases hq : t_term (gl D) p (t_te D p) with
        | none => exact hI n o σ
        | some t =>
          dsimp only
          by_cases c6 : t.1 < 6
          · rw [if_pos c6, if_pos c6, if_neg (show ¬ t.1 = 6 by omega)]
            by_cases a1 : (x_ma E inn D dom t σ).1 = 1
            · rw [if_pos a1, if_pos a1]
            · rw [if_neg a1, if_neg a1]
              by_cases a0 : (x_ma E inn D dom t σ).1 = 0
              · rw [if_pos a0, if_pos a0]; exact hI _ o _
              · rw [if_neg a0, if_neg a0]
          · rw [if_neg c6, if_neg c6]
            by_cases a6 : t.1 = 6
            · rw [if_pos a6, if_pos a6]; exact hI n (t.2.2.1, t.2.2.2.1) σ
            · rw [if_neg a6, if_neg a6]; exact hI n o σ
      · rw [if_neg e2, if_neg e2, if_neg e2]; exact hI n o σ
    · rw [if_neg e, if_neg e, x_gt_end (by omega)]
theorem f_al_2 {D : List Nat} : ∀ (m st i n : Nat), 2 ≤ n → f_al D m st i n = false := by
  intro m
  induction m with
  | zero => intro st i n h; rw [f_al]; exact decide_eq_false (by omega)
  | succ m ih =>
    intro st i n h
    rw [f_al]
    split
    · split
      · split
        · rfl
        · split <;> exact ih _ _ _ (by omega)
      · exact ih _ _ _ h
    · exact ih _ _ _ h
/-- the reference's reading of all terms: the redirection, or none where a term is wrong -/
def r_tl (D : List Nat) : Nat → Nat → Nat × Nat → Option (Nat × Nat)
  | 0, _, o => some o
  | m + 1, p, o => if p < D.length then (if p < t_te D p then (match t_mod (gl D) p (t_te D p) with
      | some e => if f_tgs D true (t_te D p) (t_te D p - (e + 1)) (e + 1) = true ∧ ¬ (t_word (gl D) p e w_red = true ∧ (o.1 < o.2 ∨ e + 1 = t_te D p)) then r_tl D m (t_te D p + 1) (if t_word (gl D) p e w_red = true then (e + 1, t_te D p) else o) else none
      | none => if r_isM D (if c_sg (gl D p) = true then p + 1 else p) (t_te D p) = true then r_tl D m (t_te D p + 1) o else none) else r_tl D m (t_te D p + 1) o) else some o
theorem t_rest_lt {g : Nat → Nat} {i j res : Nat} {t : tmT} (h : t_rest g i j res = some t) : t.1 < 6 := by
  unfold t_rest at h
  cases hk : t_kind g i (t_co g i j) with
  | none => rw [hk] at h; cases h
  | some k =>
    rw [hk] at h
    have hk6 := t_kind_w hk
    change (t_bits g i j).bind (fun b => t_rk g i j res k b) = some t at h
    cases hb : t_bits g i j with
    | none => rw [hb] at h; cases h
    | some b =>
      rw [hb] at h
      change t_rk g i j res k b = some t at h
      unfold t_rk at h
      split at h
      · split at h
        · cases h; show (0 : Nat) < 6; omega
        · cases h
      · split at h
        · split at h
          · cases h; show k < 6; omega
          · cases h
        · split at h
          · split at h
            · cases h; show k < 6; omega
            · cases h
          · cases hf : f_addr g (t_sl g i j) (t_sl g i j + 1 - t_tf g i j) 0 0 (t_tf g i j) (t_tf g i j) with
            | none => rw [hf] at h; cases h
            | some v => rw [hf] at h; cases h; show (4 : Nat) < 6; omega
theorem r_tl_eq {D : List Nat} (hD : ∀ i, i < D.length → 32 ≤ gl D i) : ∀ (m p cnt : Nat) (o : Nat × Nat), D.length ≤ p + m → (o.1 < o.2 ↔ cnt = 1) → cnt ≤ 1 → r_tl D m p o = cond (f_al D (D.length + 1 - p) p p cnt) (some (f_rt D m p o)) none := by
  intro m
  induction m with
  | zero => intro p cnt o h h1 h2; rw [f_al_end (by omega), decide_eq_true h2]; rfl
  | succ m ih =>
    intro p cnt o h h1 h2
    rw [r_tl, f_rt]
    by_cases e : p < D.length
    · obtain ⟨t1, t2, t3, t4⟩ := te_s (D := D) (p := p) (by omega)
      have h32 := te_ga (D := D) (p := p) (by omega)
      have hb : ∀ k, p ≤ k → k < t_te D p → 33 ≤ gl D k := fun k a b => by
        have := hD k (by omega); have := t3 k a b; omega
      rw [if_pos e, if_pos e, show D.length + 1 - p = (t_te D p - p) + ((D.length - t_te D p) + 1) by omega, f_al_skip _ _ _ _ _ (fun k a b => t3 k a (by omega)) (by omega), show p + (t_te D p - p) = t_te D p by omega, f_al, if_pos t4]
      have hI := fun c' o' => ih (t_te D p + 1) c' o' (by omega)
      rw [show D.length + 1 - (t_te D p + 1) = D.length - t_te D p by omega] at hI
      by_cases e2 : p < t_te D p
      · rw [if_pos e2, if_pos e2, if_pos e2]
        cases hq : t_mod (gl D) p (t_te D p) with
        | some em =>
          dsimp only
          have hem := t_mod_lt hq
          have hT : t_term (gl D) p (t_te D p) = t_modi (gl D) p em (t_te D p) := by unfold t_term; rw [hq]
          rw [tgs_eq _ _ (fun k a b => hb k (by omega) b) (Or.inl rfl)]
          by_cases c1 : em + 1 < t_te D p
          · have ht : t_tgt (gl D) (em + 1) (t_te D p) = f_tgt (gl D) (t_te D p) (t_te D p - (em + 1)) (em + 1) := by unfold t_tgt; rw [decide_eq_true c1, Bool.true_and]
            by_cases c2 : f_tgt (gl D) (t_te D p) (t_te D p - (em + 1)) (em + 1) = true
            · by_cases c3 : t_word (gl D) p em w_red = true
              · have hT2 : t_term (gl D) p (t_te D p) = some (6, 0, em + 1, t_te D p, 0, 0) := by rw [hT]; unfold t_modi; rw [if_pos c1, ht, if_pos c2, if_pos c3]
                rw [hT2]
                dsimp only
                rw [if_pos rfl, if_pos rfl, if_pos c3]
                by_cases c4 : o.1 < o.2
                · rw [if_neg (fun z => z.2 ⟨c3, Or.inl c4⟩), f_al_2 _ _ _ _ (by have := h1.mp c4; omega)]; rfl
                · have : ¬ cnt = 1 := fun z => c4 (h1.mpr z)
                  rw [if_pos ⟨c2, fun z => z.2.elim c4 (by omega)⟩]
                  exact hI (cnt + 1) (em + 1, t_te D p) ⟨fun _ => by omega, fun _ => c1⟩ (by omega)
              · have hT2 : t_term (gl D) p (t_te D p) = some (7, 0, em + 1, t_te D p, 0, 0) := by rw [hT]; unfold t_modi; rw [if_pos c1, ht, if_pos c2, if_neg c3]
                rw [hT2]
                dsimp only
                rw [if_neg (show ¬ (7 : Nat) = 6 by omega), if_neg (show ¬ (7 : Nat) = 6 by omega), if_neg c3, if_pos ⟨c2, fun z => c3 z.1⟩]
                exact hI cnt o h1 h2
            · have hT2 : t_term (gl D) p (t_te D p) = none := by rw [hT]; unfold t_modi; rw [if_pos c1, ht, if_neg c2]
              rw [hT2, if_neg (fun z => c2 z.1)]
              rfl
          · have hje : t_te D p = em + 1 := by omega
            by_cases c3 : t_word (gl D) p em w_red = true
            · have hT2 : t_term (gl D) p (t_te D p) = none := by rw [hT]; unfold t_modi; rw [if_neg c1, if_pos c3]
              rw [hT2, if_neg (fun z => z.2 ⟨c3, Or.inr hje.symm⟩)]
              rfl
            · have hT2 : t_term (gl D) p (t_te D p) = some (7, 0, em + 1, t_te D p, 0, 0) := by rw [hT]; unfold t_modi; rw [if_neg c1, if_neg c3]
              rw [hT2]
              dsimp only
              rw [if_neg (show ¬ (7 : Nat) = 6 by omega), if_neg (show ¬ (7 : Nat) = 6 by omega), if_neg c3, if_pos ⟨by rw [hje, show em + 1 - (em + 1) = 0 by omega]; rfl, fun z => c3 z.1⟩]
              exact hI cnt o h1 h2
        | none =>
          dsimp only
          have hT : t_term (gl D) p (t_te D p) = t_rest (gl D) (if c_sg (gl D p) = true then p + 1 else p) (t_te D p) (c_res (gl D p)) := by unfold t_term; rw [hq]; rfl
          rw [hT, isM_eq (res := c_res (gl D p)) t2 (by split <;> omega) h32 (fun k a b => hb k (by split at a <;> omega) b)]
          cases hr : t_rest (gl D) (if c_sg (gl D p) = true then p + 1 else p) (t_te D p) (c_res (gl D p)) with
          | none =>
            rfl
          | some t =>
            dsimp only
            have := t_rest_lt hr
            rw [if_pos (show (some t).isSome = true from rfl), if_neg (show ¬ t.1 = 6 by omega), if_neg (show ¬ t.1 = 6 by omega)]
            exact hI cnt o h1 h2
      · rw [if_neg e2, if_neg e2, if_neg e2]
        exact hI cnt o h1 h2
    · rw [if_neg e, if_neg e, f_al_end (by omega), decide_eq_true h2]; rfl
def rdI (c : Nat) (o : Nat × Nat) : Int32 := if o.1 < o.2 then nI (c + o.1) else -1
section RT
variable {L : Nat} {xs : Nat → Int32} {d r c : Nat} {D : List Nat} {s : mg_s}
theorem md_mod_e {i : Nat} (hR : isRec s r c D) (hi : i ≤ D.length) (h32 : ga D i = 32) : ca L xs (d + 2) 128 [.ref 141, .int (nI r), .int (nI (c + i)), .int (nI (c + i))] s (fun v s' => v = some (.int (-1)) ∧ s = s') := by
  refine wg_call (Nat.le_of_ble_eq_true rfl) ?_
  have hr16 := hR.1
  have hc1 := hR.2.1
  have hcl := hR.2.2.1
  have hL : bI (c_let (ga D i)) = 0 := by rw [h32]; rfl
  have hga := ga_lt hR i
  show wp L xs (d + 1) 128 0 [some (.ref 141), some (.int (nI r)), some (.int (nI (c + i))), some (.int (nI (c + i))), none, none] [] s _
  refine wg_aload_n (d128_0 L xs) rfl ?_
  refine wg_iload_n (d128_1 L xs) rfl ?_
  refine wg_iload_n (d128_2 L xs) rfl ?_
  refine wg_invv (d128_3 L xs) (kd := 7) (mj := 125) (n := 2) rfl (Or.inl rfl) (ys := [.int (nI (c + i)), .int (nI r)]) (r := []) rfl rfl (by decide) rfl rfl (Nat.le_of_ble_eq_true rfl) (md_at (i := i) hR (by omega) (by omega)) ?_
  rintro _ _ ⟨rfl, rfl⟩
  refine wg_invs (d128_6 L xs) (kd := 6) (mj := 111) (n := 1) rfl (Or.inl rfl) (ys := [.int (nI (ga D i))]) (r := []) rfl rfl (Nat.le_of_ble_eq_true rfl) (md_let (by omega)) ?_
  rintro _ _ ⟨rfl, rfl⟩
  refine wn_if_ne (d128_9 L xs) (x := bI (c_let (ga D i))) (by omega) (t := 14) (by decide) (fun h1 => by omega) (fun h1 => ?_)
  refine wg_iconst (d128_12 L xs) (x := (-1)) (by decide) ?_
  exact wg_iret (d128_13 L xs) rfl rfl ⟨rfl, rfl⟩
theorem mA_at (s : mg_s) (a k : Nat) (x : Int32) : (mg_A s a k x).2.1 a k = x := by
  show (if a = a then upd (s.2.1 a) k x else s.2.1 a) k = x
  rw [if_pos rfl]; show (if k = k then x else _) = x; rw [if_pos rfl]
theorem mA_ne (s : mg_s) {a b k j : Nat} (x : Int32) (h : ¬ b = a ∨ ¬ j = k) : (mg_A s a k x).2.1 b j = s.2.1 b j := by
  show (if b = a then upd (s.2.1 b) k x else s.2.1 b) j = s.2.1 b j
  by_cases e : b = a
  · rw [if_pos e]; show (if j = k then x else s.2.1 b j) = _; rw [if_neg (h.resolve_left (fun z => z e))]
  · rw [if_neg e]
theorem mA_at2 (s : mg_s) (k j : Nat) (x y : Int32) : (mg_A (mg_A s 158 k x) 159 j y).2.1 158 k = x := (mA_ne _ y (Or.inl (by decide))).trans (mA_at _ _ _ _)
theorem mA_ne2 (s : mg_s) {a b c k j : Nat} (x y : Int32) (h : ¬ j = k) : (mg_A (mg_A s a k x) b k y).2.1 c j = s.2.1 c j := (mA_ne _ y (Or.inr h)).trans (mA_ne _ x (Or.inr h))
theorem md_tms_l {f : Nat} (hf : f < 13) : ∀ (m p : Nat) (o : Nat × Nat) (c4 c5 c6 : Option Value) (s : mg_s), isRec s r c D → D.length ≤ p + m → p ≤ D.length + 1 → o.2 ≤ D.length → s.2.1 158 f = rdI c o → (o.1 < o.2 → s.2.1 159 f = nI (c + o.2)) → wp L xs (d + 5) 126 31 [some (.ref 141), some (.int (nI f)), some (.int (nI r)), some (.int (nI (c + p))), c4, c5, c6] [] s (fun v s' => v = some (.int (nI (bI (r_tl D m p o).isSome))) ∧ mfr s s' [9] [158, 159] ∧ (∀ a k, ¬ k = f → s'.2.1 a k = s.2.1 a k) ∧ ∀ o', r_tl D m p o = some o' → s'.2.1 158 f = rdI c o' ∧ (o'.1 < o'.2 → s'.2.1 159 f = nI (c + o'.2))) := by
  intro m
  induction m with
  | zero =>
    intro p o c4 c5 c6 s hR hm hp ho2 h58 h59
    have hr16 := hR.1
    have hc1 := hR.2.1
    have hcl := hR.2.2.1
    refine wg_iload_n (d126_31 L xs) rfl ?_
    refine wg_aload_n (d126_32 L xs) rfl ?_
    refine wg_get (d126_33 L xs) (kd := 1) (cj := 9) (k0 := 6) rfl (Or.inl rfl) (by decide) rfl rfl ?_
    refine wg_iload_n (d126_36 L xs) rfl ?_
    refine wg_iald (d126_37 L xs) (n := 16) (by decide) rfl (vp_in_nI (n := r) (by omega) (by omega)) ?_
    refine wg_top (y := (nI (c + D.length))) (by rw [nI_nat (n := r) (by omega)]; exact hR.2.2.2.2.2.1) ?_
    refine wn_icmp_ge (d126_38 L xs) (x := c + p) (y := c + D.length) (by omega) (by omega) (t := 212) (by decide) (fun h1 => ?_) (fun h1 => by omega)
    refine wg_iconst (d126_212 L xs) (x := 1) (by decide) ?_
    exact wg_iret (d126_213 L xs) rfl rfl ⟨rfl, mfr.rf s _ _, fun _ _ _ => rfl, fun o' e => by cases e; exact ⟨h58, h59⟩⟩
  | succ m ih =>
    intro p o c4 c5 c6 s hR hm hp ho2 h58 h59
    have hr16 := hR.1
    have hc1 := hR.2.1
    have hcl := hR.2.2.1
    rw [r_tl]
    refine wg_iload_n (d126_31 L xs) rfl ?_
    refine wg_aload_n (d126_32 L xs) rfl ?_
    refine wg_get (d126_33 L xs) (kd := 1) (cj := 9) (k0 := 6) rfl (Or.inl rfl) (by decide) rfl rfl ?_
    refine wg_iload_n (d126_36 L xs) rfl ?_
    refine wg_iald (d126_37 L xs) (n := 16) (by decide) rfl (vp_in_nI (n := r) (by omega) (by omega)) ?_
    refine wg_top (y := (nI (c + D.length))) (by rw [nI_nat (n := r) (by omega)]; exact hR.2.2.2.2.2.1) ?_
    refine wn_icmp_ge (d126_38 L xs) (x := c + p) (y := c + D.length) (by omega) (by omega) (t := 212) (by decide) (fun h1 => ?_) (fun h1 => ?_)
    · refine wg_iconst (d126_212 L xs) (x := 1) (by decide) ?_
      exact wg_iret (d126_213 L xs) rfl rfl ⟨by rw [if_neg (show ¬ p < D.length by omega)]; rfl, mfr.rf s _ _, fun _ _ _ => rfl, fun o' e => by rw [if_neg (show ¬ p < D.length by omega)] at e; cases e; exact ⟨h58, h59⟩⟩
    · obtain ⟨t1, t2, t3, t4⟩ := te_s (D := D) (p := p) (by omega)
      have h32 := te_ga (D := D) (p := p) (by omega)
      rw [if_pos (show p < D.length by omega)]
      have hgp := rec_gl hR p
      generalize hte : t_te D p = te at *
      by_cases hlt : p < te
      · rw [if_pos hlt]
        cases hq : t_mod (gl D) p te with
        | none =>
          dsimp only
          refine wg_aload_n (d126_41 L xs) rfl ?_
          refine wg_iload_n (d126_42 L xs) rfl ?_
          refine wg_iload_n (d126_43 L xs) rfl ?_
          refine wg_invv (d126_44 L xs) (kd := 7) (mj := 127) (n := 2) rfl (Or.inl rfl) (ys := [.int (nI (c + p)), .int (nI r)]) (r := []) rfl rfl (by decide) rfl rfl (Nat.le_of_ble_eq_true rfl) (by have h := md_tend (L := L) (xs := xs) (d := d + 4) (i := p) hR (by omega); rw [show f_find (gl D) 32 p (D.length - p) = te from hte] at h; exact h) ?_
          rintro _ _ ⟨rfl, rfl⟩
          refine wg_istore (d126_47 L xs) (ls' := [some (.ref 141), some (.int (nI f)), some (.int (nI r)), some (.int (nI (c + p))), some (.int (nI (c + te))), c5, c6]) (Nat.le_of_ble_eq_true rfl) rfl ?_
          refine wg_aload_n (d126_49 L xs) rfl ?_
          refine wg_iload_n (d126_50 L xs) rfl ?_
          refine wg_iload_n (d126_51 L xs) rfl ?_
          refine wg_iload (d126_52 L xs) rfl ?_
          refine wg_invv (d126_54 L xs) (kd := 7) (mj := 128) (n := 3) rfl (Or.inl rfl) (ys := [.int (nI (c + te)), .int (nI (c + p)), .int (nI r)]) (r := []) rfl rfl (by decide) rfl rfl (Nat.le_of_ble_eq_true rfl) (by have h := md_mod (L := L) (xs := xs) (d := d + 3) (i := p) (j := te) hR (by omega) (by omega); rw [hq] at h; exact h) ?_
          rintro _ _ ⟨rfl, rfl⟩
          refine wg_istore (d126_57 L xs) (ls' := [some (.ref 141), some (.int (nI f)), some (.int (nI r)), some (.int (nI (c + p))), some (.int (nI (c + te))), some (.int (-1)), c6]) (Nat.le_of_ble_eq_true rfl) rfl ?_
          refine wg_iload (d126_59 L xs) rfl ?_
          refine wg_if_lt (d126_61 L xs) (t := 163) (by decide) (fun _ => ?_) (fun hn => absurd (by decide) hn)
          refine wg_iload (d126_163 L xs) rfl ?_
          refine wg_iload_n (d126_165 L xs) rfl ?_
          refine wn_icmp_le (d126_166 L xs) (x := c + te) (y := c + p) (by omega) (by omega) (t := 204) (by decide) (fun h22 => by omega) (fun h22 => ?_)
          refine wg_aload_n (d126_169 L xs) rfl ?_
          refine wg_iload_n (d126_170 L xs) rfl ?_
          refine wg_iload_n (d126_171 L xs) rfl ?_
          refine wg_invv (d126_172 L xs) (kd := 7) (mj := 125) (n := 2) rfl (Or.inl rfl) (ys := [.int (nI (c + p)), .int (nI r)]) (r := []) rfl rfl (by decide) rfl rfl (Nat.le_of_ble_eq_true rfl) (md_at (i := p) hR (by omega) (by omega)) ?_
          rintro _ _ ⟨rfl, rfl⟩
          rw [ga_in (show p < D.length by omega)]
          refine wg_invs (d126_175 L xs) (kd := 6) (mj := 132) (n := 1) rfl (Or.inl rfl) (ys := [.int (nI (gl D p))]) (r := []) rfl rfl (Nat.le_of_ble_eq_true rfl) (md_sign (by omega)) ?_
          rintro _ _ ⟨rfl, rfl⟩
          have hbs := bI_lt (c_sg (gl D p))
          refine wn_if_eq (d126_178 L xs) (x := bI (c_sg (gl D p))) (by omega) (t := 187) (by decide) (fun h23 => ?_) (fun h23 => ?_)
          · refine wg_iload_n (d126_187 L xs) rfl ?_
            refine wg_istore (d126_188 L xs) (ls' := [some (.ref 141), some (.int (nI f)), some (.int (nI r)), some (.int (nI (c + p))), some (.int (nI (c + te))), some (.int (-1)), some (.int (nI (c + p)))]) (Nat.le_of_ble_eq_true rfl) rfl ?_
            refine wg_aload_n (d126_190 L xs) rfl ?_
            refine wg_iload_n (d126_191 L xs) rfl ?_
            refine wg_iload (d126_192 L xs) rfl ?_
            refine wg_iload (d126_194 L xs) rfl ?_
            refine wg_invv (d126_196 L xs) (kd := 7) (mj := 133) (n := 3) rfl (Or.inl rfl) (ys := [.int (nI (c + te)), .int (nI (c + p)), .int (nI r)]) (r := []) rfl rfl (by decide) rfl rfl (Nat.le_of_ble_eq_true rfl) (md_isM (i := p) (j := te) hR (by omega) (by omega) h32) ?_
            rintro _ s1 ⟨rfl, hm1⟩
            have hbm := bI_lt (r_isM D p te)
            have hR1 : isRec s1 r c D := isRec_of hR (hm1.2.2.1 144 (by decide)) (hm1.2.2.1 145 (by decide)) (hm1.2.2.1 146 (by decide))
            refine wn_if_ne (d126_199 L xs) (x := bI (r_isM D p te)) (by omega) (t := 204) (by decide) (fun h24 => ?_) (fun h24 => ?_)
            · refine wg_iload (d126_204 L xs) rfl ?_
              refine wg_iconst (d126_206 L xs) (x := 1) (by decide) ?_
              refine wg_iadd (d126_207 L xs) ?_
              refine wg_top (y := (nI (c + te + 1))) (nI_add (c + te) 1) ?_
              refine wg_istore_n (d126_208 L xs) (ls' := [some (.ref 141), some (.int (nI f)), some (.int (nI r)), some (.int (nI (c + te + 1))), some (.int (nI (c + te))), some (.int (-1)), some (.int (nI (c + p)))]) (Nat.le_of_ble_eq_true rfl) rfl ?_
              refine wg_goto (d126_209 L xs) (t := 31) (by decide) ?_
              rw [if_neg (show ¬ c_sg (gl D p) = true by rw [bI_f (b := c_sg (gl D p)) (by omega)]; decide), if_pos (bI_t (b := r_isM D p te) (by omega))]
              exact wp_mono (ih (te + 1) o _ _ _ s1 hR1 (by omega) (by omega) ho2 (by rw [hm1.2.2.1 158 (by decide)]; exact h58) (fun q => by rw [hm1.2.2.1 159 (by decide)]; exact h59 q)) (fun v s' h => ⟨h.1, (hm1.more (by decide) (by decide)).trans h.2.1, fun a k hk => (h.2.2.1 a k hk).trans (by rw [hm1.2.2.1 a (by intro q; cases q)]), h.2.2.2⟩)
            · refine wg_iconst (d126_202 L xs) (x := 0) (by decide) ?_
              exact wg_iret (d126_203 L xs) rfl rfl ⟨by rw [if_neg (show ¬ c_sg (gl D p) = true by rw [bI_f (b := c_sg (gl D p)) (by omega)]; decide), if_neg (show ¬ r_isM D p te = true by rw [bI_f (b := r_isM D p te) (by omega)]; decide)]; rfl, hm1.more (by decide) (by decide), fun a k hk => by rw [hm1.2.2.1 a (by intro q; cases q)], fun o' e => by rw [if_neg (show ¬ c_sg (gl D p) = true by rw [bI_f (b := c_sg (gl D p)) (by omega)]; decide), if_neg (show ¬ r_isM D p te = true by rw [bI_f (b := r_isM D p te) (by omega)]; decide)] at e; cases e⟩
          · refine wg_iload_n (d126_181 L xs) rfl ?_
            refine wg_iconst (d126_182 L xs) (x := 1) (by decide) ?_
            refine wg_iadd (d126_183 L xs) ?_
            refine wg_top (y := (nI (c + p + 1))) (nI_add (c + p) 1) ?_
            refine wg_goto (d126_184 L xs) (t := 188) (by decide) ?_
            refine wg_istore (d126_188 L xs) (ls' := [some (.ref 141), some (.int (nI f)), some (.int (nI r)), some (.int (nI (c + p))), some (.int (nI (c + te))), some (.int (-1)), some (.int (nI (c + p + 1)))]) (Nat.le_of_ble_eq_true rfl) rfl ?_
            refine wg_aload_n (d126_190 L xs) rfl ?_
            refine wg_iload_n (d126_191 L xs) rfl ?_
            refine wg_iload (d126_192 L xs) rfl ?_
            refine wg_iload (d126_194 L xs) rfl ?_
            refine wg_invv (d126_196 L xs) (kd := 7) (mj := 133) (n := 3) rfl (Or.inl rfl) (ys := [.int (nI (c + te)), .int (nI (c + p + 1)), .int (nI r)]) (r := []) rfl rfl (by decide) rfl rfl (Nat.le_of_ble_eq_true rfl) (md_isM (i := p + 1) (j := te) hR (by omega) (by omega) h32) ?_
            rintro _ s1 ⟨rfl, hm1⟩
            have hbm := bI_lt (r_isM D (p + 1) te)
            have hR1 : isRec s1 r c D := isRec_of hR (hm1.2.2.1 144 (by decide)) (hm1.2.2.1 145 (by decide)) (hm1.2.2.1 146 (by decide))
            refine wn_if_ne (d126_199 L xs) (x := bI (r_isM D (p + 1) te)) (by omega) (t := 204) (by decide) (fun h25 => ?_) (fun h25 => ?_)
            · refine wg_iload (d126_204 L xs) rfl ?_
              refine wg_iconst (d126_206 L xs) (x := 1) (by decide) ?_
              refine wg_iadd (d126_207 L xs) ?_
              refine wg_top (y := (nI (c + te + 1))) (nI_add (c + te) 1) ?_
              refine wg_istore_n (d126_208 L xs) (ls' := [some (.ref 141), some (.int (nI f)), some (.int (nI r)), some (.int (nI (c + te + 1))), some (.int (nI (c + te))), some (.int (-1)), some (.int (nI (c + p + 1)))]) (Nat.le_of_ble_eq_true rfl) rfl ?_
              refine wg_goto (d126_209 L xs) (t := 31) (by decide) ?_
              rw [if_pos (bI_t (b := c_sg (gl D p)) (by omega)), if_pos (bI_t (b := r_isM D (p + 1) te) (by omega))]
              exact wp_mono (ih (te + 1) o _ _ _ s1 hR1 (by omega) (by omega) ho2 (by rw [hm1.2.2.1 158 (by decide)]; exact h58) (fun q => by rw [hm1.2.2.1 159 (by decide)]; exact h59 q)) (fun v s' h => ⟨h.1, (hm1.more (by decide) (by decide)).trans h.2.1, fun a k hk => (h.2.2.1 a k hk).trans (by rw [hm1.2.2.1 a (by intro q; cases q)]), h.2.2.2⟩)
            · refine wg_iconst (d126_202 L xs) (x := 0) (by decide) ?_
              exact wg_iret (d126_203 L xs) rfl rfl ⟨by rw [if_pos (bI_t (b := c_sg (gl D p)) (by omega)), if_neg (show ¬ r_isM D (p + 1) te = true by rw [bI_f (b := r_isM D (p + 1) te) (by omega)]; decide)]; rfl, hm1.more (by decide) (by decide), fun a k hk => by rw [hm1.2.2.1 a (by intro q; cases q)], fun o' e => by rw [if_pos (bI_t (b := c_sg (gl D p)) (by omega)), if_neg (show ¬ r_isM D (p + 1) te = true by rw [bI_f (b := r_isM D (p + 1) te) (by omega)]; decide)] at e; cases e⟩
        | some e =>
          dsimp only
          have hel := t_mod_lt hq
          by_cases ho : o.1 < o.2
          · have h58p : s.2.1 158 f = nI (c + o.1) := by rw [h58, rdI, if_pos ho]
            refine wg_aload_n (d126_41 L xs) rfl ?_
            refine wg_iload_n (d126_42 L xs) rfl ?_
            refine wg_iload_n (d126_43 L xs) rfl ?_
            refine wg_invv (d126_44 L xs) (kd := 7) (mj := 127) (n := 2) rfl (Or.inl rfl) (ys := [.int (nI (c + p)), .int (nI r)]) (r := []) rfl rfl (by decide) rfl rfl (Nat.le_of_ble_eq_true rfl) (by have h := md_tend (L := L) (xs := xs) (d := d + 4) (i := p) hR (by omega); rw [show f_find (gl D) 32 p (D.length - p) = te from hte] at h; exact h) ?_
            rintro _ _ ⟨rfl, rfl⟩
            refine wg_istore (d126_47 L xs) (ls' := [some (.ref 141), some (.int (nI f)), some (.int (nI r)), some (.int (nI (c + p))), some (.int (nI (c + te))), c5, c6]) (Nat.le_of_ble_eq_true rfl) rfl ?_
            refine wg_aload_n (d126_49 L xs) rfl ?_
            refine wg_iload_n (d126_50 L xs) rfl ?_
            refine wg_iload_n (d126_51 L xs) rfl ?_
            refine wg_iload (d126_52 L xs) rfl ?_
            refine wg_invv (d126_54 L xs) (kd := 7) (mj := 128) (n := 3) rfl (Or.inl rfl) (ys := [.int (nI (c + te)), .int (nI (c + p)), .int (nI r)]) (r := []) rfl rfl (by decide) rfl rfl (Nat.le_of_ble_eq_true rfl) (by have h := md_mod (L := L) (xs := xs) (d := d + 3) (i := p) (j := te) hR (by omega) (by omega); rw [hq] at h; exact h) ?_
            rintro _ _ ⟨rfl, rfl⟩
            refine wg_istore (d126_57 L xs) (ls' := [some (.ref 141), some (.int (nI f)), some (.int (nI r)), some (.int (nI (c + p))), some (.int (nI (c + te))), some (.int (nI (c + e))), c6]) (Nat.le_of_ble_eq_true rfl) rfl ?_
            refine wg_iload (d126_59 L xs) rfl ?_
            refine wn_if_lt (d126_61 L xs) (x := c + e) (by omega) (t := 163) (by decide) (fun h21 => by omega) (fun h21 => ?_)
            refine wg_aload_n (d126_64 L xs) rfl ?_
            refine wg_iload_n (d126_65 L xs) rfl ?_
            refine wg_iload_n (d126_66 L xs) rfl ?_
            refine wg_iload (d126_67 L xs) rfl ?_
            refine wg_invv (d126_69 L xs) (kd := 7) (mj := 129) (n := 3) rfl (Or.inl rfl) (ys := [.int (nI (c + e)), .int (nI (c + p)), .int (nI r)]) (r := []) rfl rfl (by decide) rfl rfl (Nat.le_of_ble_eq_true rfl) (md_red (i := p) (e := e) hR (by omega) (by omega)) ?_
            rintro _ _ ⟨rfl, rfl⟩
            have hbw := bI_lt (t_word (gl D) p e w_red)
            refine wg_istore (d126_72 L xs) (ls' := [some (.ref 141), some (.int (nI f)), some (.int (nI r)), some (.int (nI (c + p))), some (.int (nI (c + te))), some (.int (nI (c + e))), some (.int (nI (bI (t_word (gl D) p e w_red))))]) (Nat.le_of_ble_eq_true rfl) rfl ?_
            refine wg_aload_n (d126_74 L xs) rfl ?_
            refine wg_iload_n (d126_75 L xs) rfl ?_
            refine wg_iload (d126_76 L xs) rfl ?_
            refine wg_iconst (d126_78 L xs) (x := 1) (by decide) ?_
            refine wg_iadd (d126_79 L xs) ?_
            refine wg_top (y := (nI (c + e + 1))) (nI_add (c + e) 1) ?_
            refine wg_iload (d126_80 L xs) rfl ?_
            refine wg_iconst (d126_82 L xs) (x := 1) (by decide) ?_
            refine wg_invv (d126_83 L xs) (kd := 7) (mj := 130) (n := 4) rfl (Or.inl rfl) (ys := [.int 1, .int (nI (c + te)), .int (nI (c + e + 1)), .int (nI r)]) (r := []) rfl rfl (by decide) rfl rfl (Nat.le_of_ble_eq_true rfl) (md_tgt (i := e + 1) (j := te) (sl := true) hR (by omega) (by omega)) ?_
            rintro _ _ ⟨rfl, rfl⟩
            have hbt := bI_lt (f_tgs D true te (te - (e + 1)) (e + 1))
            refine wn_if_eq (d126_86 L xs) (x := bI (f_tgs D true te (te - (e + 1)) (e + 1))) (by omega) (t := 112) (by decide) (fun h22 => ?_) (fun h22 => ?_)
            · refine wg_iconst (d126_112 L xs) (x := 0) (by decide) ?_
              exact wg_iret (d126_113 L xs) rfl rfl ⟨by rw [if_neg (show ¬ (f_tgs D true te (te - (e + 1)) (e + 1) = true ∧ ¬ (t_word (gl D) p e w_red = true ∧ (o.1 < o.2 ∨ e + 1 = te))) from fun z => by rw [bI_f (b := f_tgs D true te (te - (e + 1)) (e + 1)) (by omega)] at z; cases z.1)]; rfl, mfr.rf s _ _, fun _ _ _ => rfl, fun o' eo => by rw [if_neg (show ¬ (f_tgs D true te (te - (e + 1)) (e + 1) = true ∧ ¬ (t_word (gl D) p e w_red = true ∧ (o.1 < o.2 ∨ e + 1 = te))) from fun z => by rw [bI_f (b := f_tgs D true te (te - (e + 1)) (e + 1)) (by omega)] at z; cases z.1)] at eo; cases eo⟩
            · refine wg_iload (d126_89 L xs) rfl ?_
              refine wn_if_eq (d126_91 L xs) (x := bI (t_word (gl D) p e w_red)) (by omega) (t := 114) (by decide) (fun h23 => ?_) (fun h23 => ?_)
              · refine wg_aload_n (d126_114 L xs) rfl ?_
                refine wg_get (d126_115 L xs) (kd := 1) (cj := 9) (k0 := 28) rfl (Or.inl rfl) (by decide) rfl rfl ?_
                refine wg_iload_n (d126_118 L xs) rfl ?_
                refine wg_iload (d126_119 L xs) rfl ?_
                refine wn_if_eq (d126_121 L xs) (x := bI (t_word (gl D) p e w_red)) (by omega) (t := 131) (by decide) (fun h24 => ?_) (fun h24 => ?_)
                · refine wg_aload_n (d126_131 L xs) rfl ?_
                  refine wg_get (d126_132 L xs) (kd := 1) (cj := 9) (k0 := 28) rfl (Or.inl rfl) (by decide) rfl rfl ?_
                  refine wg_iload_n (d126_135 L xs) rfl ?_
                  refine wg_iald (d126_136 L xs) (n := 13) (by decide) rfl (vp_in_nI (n := f) (by omega) (by omega)) ?_
                  refine wg_top (y := (nI (c + o.1))) (by rw [nI_nat (n := f) (by omega)]; exact h58p) ?_
                  refine wg_iast (d126_137 L xs) (n := 13) (by decide) rfl (vp_in_nI (n := f) (by omega) (by omega)) rfl ?_
                  rw [nI_nat (n := f) (by omega)]
                  refine wg_aload_n (d126_138 L xs) rfl ?_
                  refine wg_get (d126_139 L xs) (kd := 1) (cj := 9) (k0 := 29) rfl (Or.inl rfl) (by decide) rfl rfl ?_
                  refine wg_iload_n (d126_142 L xs) rfl ?_
                  refine wg_iload (d126_143 L xs) rfl ?_
                  refine wn_if_eq (d126_145 L xs) (x := bI (t_word (gl D) p e w_red)) (by omega) (t := 153) (by decide) (fun h25 => ?_) (fun h25 => ?_)
                  · refine wg_aload_n (d126_153 L xs) rfl ?_
                    refine wg_get (d126_154 L xs) (kd := 1) (cj := 9) (k0 := 29) rfl (Or.inl rfl) (by decide) rfl rfl ?_
                    refine wg_iload_n (d126_157 L xs) rfl ?_
                    refine wg_iald (d126_158 L xs) (n := 13) (by decide) rfl (vp_in_nI (n := f) (by omega) (by omega)) ?_
                    refine wg_top (y := (mg_A s 158 f (nI (c + o.1))).2.1 159 f) (by rw [nI_nat (n := f) (by omega)]) ?_
                    refine wg_iast (d126_159 L xs) (n := 13) (by decide) rfl (vp_in_nI (n := f) (by omega) (by omega)) rfl ?_
                    rw [nI_nat (n := f) (by omega)]
                    refine wg_goto (d126_160 L xs) (t := 204) (by decide) ?_
                    refine wg_iload (d126_204 L xs) rfl ?_
                    refine wg_iconst (d126_206 L xs) (x := 1) (by decide) ?_
                    refine wg_iadd (d126_207 L xs) ?_
                    refine wg_top (y := (nI (c + te + 1))) (nI_add (c + te) 1) ?_
                    refine wg_istore_n (d126_208 L xs) (ls' := [some (.ref 141), some (.int (nI f)), some (.int (nI r)), some (.int (nI (c + te + 1))), some (.int (nI (c + te))), some (.int (nI (c + e))), some (.int (nI (bI (t_word (gl D) p e w_red))))]) (Nat.le_of_ble_eq_true rfl) rfl ?_
                    refine wg_goto (d126_209 L xs) (t := 31) (by decide) ?_
                    rw [if_pos (show f_tgs D true te (te - (e + 1)) (e + 1) = true ∧ ¬ (t_word (gl D) p e w_red = true ∧ (o.1 < o.2 ∨ e + 1 = te)) from ⟨bI_t (b := f_tgs D true te (te - (e + 1)) (e + 1)) (by omega), fun z => by rw [bI_f (b := t_word (gl D) p e w_red) (by omega)] at z; cases z.1⟩), if_neg (show ¬ t_word (gl D) p e w_red = true by rw [bI_f (b := t_word (gl D) p e w_red) (by omega)]; decide)]
                    exact wp_mono (ih (te + 1) o _ _ _ _ (isRec_of hR rfl rfl rfl) (by omega) (by omega) ho2 ((mA_at2 _ _ _ _ _).trans (h58p.symm.trans h58)) (fun q => (mA_at _ _ _ _).trans (h59 q))) (fun v s' h => ⟨h.1, ((mfr_A s (by decide)).trans (mfr_A _ (by decide))).trans h.2.1, fun a k hk => (h.2.2.1 a k hk).trans (mA_ne2 _ _ _ hk), h.2.2.2⟩)
                  · refine wg_iload (d126_148 L xs) rfl ?_
                    refine wg_goto (d126_150 L xs) (t := 159) (by decide) ?_
                    refine wg_iast (d126_159 L xs) (n := 13) (by decide) rfl (vp_in_nI (n := f) (by omega) (by omega)) rfl ?_
                    rw [nI_nat (n := f) (by omega)]
                    refine wg_goto (d126_160 L xs) (t := 204) (by decide) ?_
                    refine wg_iload (d126_204 L xs) rfl ?_
                    refine wg_iconst (d126_206 L xs) (x := 1) (by decide) ?_
                    refine wg_iadd (d126_207 L xs) ?_
                    refine wg_top (y := (nI (c + te + 1))) (nI_add (c + te) 1) ?_
                    refine wg_istore_n (d126_208 L xs) (ls' := [some (.ref 141), some (.int (nI f)), some (.int (nI r)), some (.int (nI (c + te + 1))), some (.int (nI (c + te))), some (.int (nI (c + e))), some (.int (nI (bI (t_word (gl D) p e w_red))))]) (Nat.le_of_ble_eq_true rfl) rfl ?_
                    refine wg_goto (d126_209 L xs) (t := 31) (by decide) ?_
                    exfalso; omega
                · refine wg_iload (d126_124 L xs) rfl ?_
                  refine wg_iconst (d126_126 L xs) (x := 1) (by decide) ?_
                  refine wg_iadd (d126_127 L xs) ?_
                  refine wg_top (y := (nI (c + e + 1))) (nI_add (c + e) 1) ?_
                  refine wg_goto (d126_128 L xs) (t := 137) (by decide) ?_
                  refine wg_iast (d126_137 L xs) (n := 13) (by decide) rfl (vp_in_nI (n := f) (by omega) (by omega)) rfl ?_
                  rw [nI_nat (n := f) (by omega)]
                  refine wg_aload_n (d126_138 L xs) rfl ?_
                  refine wg_get (d126_139 L xs) (kd := 1) (cj := 9) (k0 := 29) rfl (Or.inl rfl) (by decide) rfl rfl ?_
                  refine wg_iload_n (d126_142 L xs) rfl ?_
                  refine wg_iload (d126_143 L xs) rfl ?_
                  refine wn_if_eq (d126_145 L xs) (x := bI (t_word (gl D) p e w_red)) (by omega) (t := 153) (by decide) (fun h26 => ?_) (fun h26 => ?_)
                  · refine wg_aload_n (d126_153 L xs) rfl ?_
                    refine wg_get (d126_154 L xs) (kd := 1) (cj := 9) (k0 := 29) rfl (Or.inl rfl) (by decide) rfl rfl ?_
                    refine wg_iload_n (d126_157 L xs) rfl ?_
                    refine wg_iald (d126_158 L xs) (n := 13) (by decide) rfl (vp_in_nI (n := f) (by omega) (by omega)) ?_
                    refine wg_top (y := (mg_A s 158 f (nI (c + e + 1))).2.1 159 f) (by rw [nI_nat (n := f) (by omega)]) ?_
                    refine wg_iast (d126_159 L xs) (n := 13) (by decide) rfl (vp_in_nI (n := f) (by omega) (by omega)) rfl ?_
                    rw [nI_nat (n := f) (by omega)]
                    refine wg_goto (d126_160 L xs) (t := 204) (by decide) ?_
                    refine wg_iload (d126_204 L xs) rfl ?_
                    refine wg_iconst (d126_206 L xs) (x := 1) (by decide) ?_
                    refine wg_iadd (d126_207 L xs) ?_
                    refine wg_top (y := (nI (c + te + 1))) (nI_add (c + te) 1) ?_
                    refine wg_istore_n (d126_208 L xs) (ls' := [some (.ref 141), some (.int (nI f)), some (.int (nI r)), some (.int (nI (c + te + 1))), some (.int (nI (c + te))), some (.int (nI (c + e))), some (.int (nI (bI (t_word (gl D) p e w_red))))]) (Nat.le_of_ble_eq_true rfl) rfl ?_
                    refine wg_goto (d126_209 L xs) (t := 31) (by decide) ?_
                    exfalso; omega
                  · refine wg_iload (d126_148 L xs) rfl ?_
                    refine wg_goto (d126_150 L xs) (t := 159) (by decide) ?_
                    refine wg_iast (d126_159 L xs) (n := 13) (by decide) rfl (vp_in_nI (n := f) (by omega) (by omega)) rfl ?_
                    rw [nI_nat (n := f) (by omega)]
                    refine wg_goto (d126_160 L xs) (t := 204) (by decide) ?_
                    refine wg_iload (d126_204 L xs) rfl ?_
                    refine wg_iconst (d126_206 L xs) (x := 1) (by decide) ?_
                    refine wg_iadd (d126_207 L xs) ?_
                    refine wg_top (y := (nI (c + te + 1))) (nI_add (c + te) 1) ?_
                    refine wg_istore_n (d126_208 L xs) (ls' := [some (.ref 141), some (.int (nI f)), some (.int (nI r)), some (.int (nI (c + te + 1))), some (.int (nI (c + te))), some (.int (nI (c + e))), some (.int (nI (bI (t_word (gl D) p e w_red))))]) (Nat.le_of_ble_eq_true rfl) rfl ?_
                    refine wg_goto (d126_209 L xs) (t := 31) (by decide) ?_
                    have hne : ¬ e + 1 = te := by omega
                    rw [if_pos (show f_tgs D true te (te - (e + 1)) (e + 1) = true ∧ ¬ (t_word (gl D) p e w_red = true ∧ (o.1 < o.2 ∨ e + 1 = te)) from ⟨bI_t (b := f_tgs D true te (te - (e + 1)) (e + 1)) (by omega), fun z => by omega⟩), if_pos (bI_t (b := t_word (gl D) p e w_red) (by omega))]
                    exact wp_mono (ih (te + 1) (e + 1, te) _ _ _ _ (isRec_of hR rfl rfl rfl) (by omega) (by omega) t2 (by rw [rdI, if_pos (show e + 1 < te by omega)]; exact mA_at2 _ _ _ _ _) (fun _ => mA_at _ _ _ _)) (fun v s' h => ⟨h.1, ((mfr_A s (by decide)).trans (mfr_A _ (by decide))).trans h.2.1, fun a k hk => (h.2.2.1 a k hk).trans (mA_ne2 _ _ _ hk), h.2.2.2⟩)
              · refine wg_aload_n (d126_94 L xs) rfl ?_
                refine wg_get (d126_95 L xs) (kd := 1) (cj := 9) (k0 := 28) rfl (Or.inl rfl) (by decide) rfl rfl ?_
                refine wg_iload_n (d126_98 L xs) rfl ?_
                refine wg_iald (d126_99 L xs) (n := 13) (by decide) rfl (vp_in_nI (n := f) (by omega) (by omega)) ?_
                refine wg_top (y := (nI (c + o.1))) (by rw [nI_nat (n := f) (by omega)]; exact h58p) ?_
                refine wn_if_ge (d126_100 L xs) (x := c + o.1) (by omega) (t := 112) (by decide) (fun h27 => ?_) (fun h27 => by omega)
                refine wg_iconst (d126_112 L xs) (x := 0) (by decide) ?_
                exact wg_iret (d126_113 L xs) rfl rfl ⟨by rw [if_neg (show ¬ (f_tgs D true te (te - (e + 1)) (e + 1) = true ∧ ¬ (t_word (gl D) p e w_red = true ∧ (o.1 < o.2 ∨ e + 1 = te))) from fun z => z.2 ⟨bI_t (b := t_word (gl D) p e w_red) (by omega), by omega⟩)]; rfl, mfr.rf s _ _, fun _ _ _ => rfl, fun o' eo => by rw [if_neg (show ¬ (f_tgs D true te (te - (e + 1)) (e + 1) = true ∧ ¬ (t_word (gl D) p e w_red = true ∧ (o.1 < o.2 ∨ e + 1 = te))) from fun z => z.2 ⟨bI_t (b := t_word (gl D) p e w_red) (by omega), by omega⟩)] at eo; cases eo⟩
          · have h58p : s.2.1 158 f = -1 := by rw [h58, rdI, if_neg ho]
            refine wg_aload_n (d126_41 L xs) rfl ?_
            refine wg_iload_n (d126_42 L xs) rfl ?_
            refine wg_iload_n (d126_43 L xs) rfl ?_
            refine wg_invv (d126_44 L xs) (kd := 7) (mj := 127) (n := 2) rfl (Or.inl rfl) (ys := [.int (nI (c + p)), .int (nI r)]) (r := []) rfl rfl (by decide) rfl rfl (Nat.le_of_ble_eq_true rfl) (by have h := md_tend (L := L) (xs := xs) (d := d + 4) (i := p) hR (by omega); rw [show f_find (gl D) 32 p (D.length - p) = te from hte] at h; exact h) ?_
            rintro _ _ ⟨rfl, rfl⟩
            refine wg_istore (d126_47 L xs) (ls' := [some (.ref 141), some (.int (nI f)), some (.int (nI r)), some (.int (nI (c + p))), some (.int (nI (c + te))), c5, c6]) (Nat.le_of_ble_eq_true rfl) rfl ?_
            refine wg_aload_n (d126_49 L xs) rfl ?_
            refine wg_iload_n (d126_50 L xs) rfl ?_
            refine wg_iload_n (d126_51 L xs) rfl ?_
            refine wg_iload (d126_52 L xs) rfl ?_
            refine wg_invv (d126_54 L xs) (kd := 7) (mj := 128) (n := 3) rfl (Or.inl rfl) (ys := [.int (nI (c + te)), .int (nI (c + p)), .int (nI r)]) (r := []) rfl rfl (by decide) rfl rfl (Nat.le_of_ble_eq_true rfl) (by have h := md_mod (L := L) (xs := xs) (d := d + 3) (i := p) (j := te) hR (by omega) (by omega); rw [hq] at h; exact h) ?_
            rintro _ _ ⟨rfl, rfl⟩
            refine wg_istore (d126_57 L xs) (ls' := [some (.ref 141), some (.int (nI f)), some (.int (nI r)), some (.int (nI (c + p))), some (.int (nI (c + te))), some (.int (nI (c + e))), c6]) (Nat.le_of_ble_eq_true rfl) rfl ?_
            refine wg_iload (d126_59 L xs) rfl ?_
            refine wn_if_lt (d126_61 L xs) (x := c + e) (by omega) (t := 163) (by decide) (fun h21 => by omega) (fun h21 => ?_)
            refine wg_aload_n (d126_64 L xs) rfl ?_
            refine wg_iload_n (d126_65 L xs) rfl ?_
            refine wg_iload_n (d126_66 L xs) rfl ?_
            refine wg_iload (d126_67 L xs) rfl ?_
            refine wg_invv (d126_69 L xs) (kd := 7) (mj := 129) (n := 3) rfl (Or.inl rfl) (ys := [.int (nI (c + e)), .int (nI (c + p)), .int (nI r)]) (r := []) rfl rfl (by decide) rfl rfl (Nat.le_of_ble_eq_true rfl) (md_red (i := p) (e := e) hR (by omega) (by omega)) ?_
            rintro _ _ ⟨rfl, rfl⟩
            have hbw := bI_lt (t_word (gl D) p e w_red)
            refine wg_istore (d126_72 L xs) (ls' := [some (.ref 141), some (.int (nI f)), some (.int (nI r)), some (.int (nI (c + p))), some (.int (nI (c + te))), some (.int (nI (c + e))), some (.int (nI (bI (t_word (gl D) p e w_red))))]) (Nat.le_of_ble_eq_true rfl) rfl ?_
            refine wg_aload_n (d126_74 L xs) rfl ?_
            refine wg_iload_n (d126_75 L xs) rfl ?_
            refine wg_iload (d126_76 L xs) rfl ?_
            refine wg_iconst (d126_78 L xs) (x := 1) (by decide) ?_
            refine wg_iadd (d126_79 L xs) ?_
            refine wg_top (y := (nI (c + e + 1))) (nI_add (c + e) 1) ?_
            refine wg_iload (d126_80 L xs) rfl ?_
            refine wg_iconst (d126_82 L xs) (x := 1) (by decide) ?_
            refine wg_invv (d126_83 L xs) (kd := 7) (mj := 130) (n := 4) rfl (Or.inl rfl) (ys := [.int 1, .int (nI (c + te)), .int (nI (c + e + 1)), .int (nI r)]) (r := []) rfl rfl (by decide) rfl rfl (Nat.le_of_ble_eq_true rfl) (md_tgt (i := e + 1) (j := te) (sl := true) hR (by omega) (by omega)) ?_
            rintro _ _ ⟨rfl, rfl⟩
            have hbt := bI_lt (f_tgs D true te (te - (e + 1)) (e + 1))
            refine wn_if_eq (d126_86 L xs) (x := bI (f_tgs D true te (te - (e + 1)) (e + 1))) (by omega) (t := 112) (by decide) (fun h22 => ?_) (fun h22 => ?_)
            · refine wg_iconst (d126_112 L xs) (x := 0) (by decide) ?_
              exact wg_iret (d126_113 L xs) rfl rfl ⟨by rw [if_neg (show ¬ (f_tgs D true te (te - (e + 1)) (e + 1) = true ∧ ¬ (t_word (gl D) p e w_red = true ∧ (o.1 < o.2 ∨ e + 1 = te))) from fun z => by rw [bI_f (b := f_tgs D true te (te - (e + 1)) (e + 1)) (by omega)] at z; cases z.1)]; rfl, mfr.rf s _ _, fun _ _ _ => rfl, fun o' eo => by rw [if_neg (show ¬ (f_tgs D true te (te - (e + 1)) (e + 1) = true ∧ ¬ (t_word (gl D) p e w_red = true ∧ (o.1 < o.2 ∨ e + 1 = te))) from fun z => by rw [bI_f (b := f_tgs D true te (te - (e + 1)) (e + 1)) (by omega)] at z; cases z.1)] at eo; cases eo⟩
            · refine wg_iload (d126_89 L xs) rfl ?_
              refine wn_if_eq (d126_91 L xs) (x := bI (t_word (gl D) p e w_red)) (by omega) (t := 114) (by decide) (fun h23 => ?_) (fun h23 => ?_)
              · refine wg_aload_n (d126_114 L xs) rfl ?_
                refine wg_get (d126_115 L xs) (kd := 1) (cj := 9) (k0 := 28) rfl (Or.inl rfl) (by decide) rfl rfl ?_
                refine wg_iload_n (d126_118 L xs) rfl ?_
                refine wg_iload (d126_119 L xs) rfl ?_
                refine wn_if_eq (d126_121 L xs) (x := bI (t_word (gl D) p e w_red)) (by omega) (t := 131) (by decide) (fun h24 => ?_) (fun h24 => ?_)
                · refine wg_aload_n (d126_131 L xs) rfl ?_
                  refine wg_get (d126_132 L xs) (kd := 1) (cj := 9) (k0 := 28) rfl (Or.inl rfl) (by decide) rfl rfl ?_
                  refine wg_iload_n (d126_135 L xs) rfl ?_
                  refine wg_iald (d126_136 L xs) (n := 13) (by decide) rfl (vp_in_nI (n := f) (by omega) (by omega)) ?_
                  refine wg_top (y := (-1)) (by rw [nI_nat (n := f) (by omega)]; exact h58p) ?_
                  refine wg_iast (d126_137 L xs) (n := 13) (by decide) rfl (vp_in_nI (n := f) (by omega) (by omega)) rfl ?_
                  rw [nI_nat (n := f) (by omega)]
                  refine wg_aload_n (d126_138 L xs) rfl ?_
                  refine wg_get (d126_139 L xs) (kd := 1) (cj := 9) (k0 := 29) rfl (Or.inl rfl) (by decide) rfl rfl ?_
                  refine wg_iload_n (d126_142 L xs) rfl ?_
                  refine wg_iload (d126_143 L xs) rfl ?_
                  refine wn_if_eq (d126_145 L xs) (x := bI (t_word (gl D) p e w_red)) (by omega) (t := 153) (by decide) (fun h25 => ?_) (fun h25 => ?_)
                  · refine wg_aload_n (d126_153 L xs) rfl ?_
                    refine wg_get (d126_154 L xs) (kd := 1) (cj := 9) (k0 := 29) rfl (Or.inl rfl) (by decide) rfl rfl ?_
                    refine wg_iload_n (d126_157 L xs) rfl ?_
                    refine wg_iald (d126_158 L xs) (n := 13) (by decide) rfl (vp_in_nI (n := f) (by omega) (by omega)) ?_
                    refine wg_top (y := (mg_A s 158 f (-1)).2.1 159 f) (by rw [nI_nat (n := f) (by omega)]) ?_
                    refine wg_iast (d126_159 L xs) (n := 13) (by decide) rfl (vp_in_nI (n := f) (by omega) (by omega)) rfl ?_
                    rw [nI_nat (n := f) (by omega)]
                    refine wg_goto (d126_160 L xs) (t := 204) (by decide) ?_
                    refine wg_iload (d126_204 L xs) rfl ?_
                    refine wg_iconst (d126_206 L xs) (x := 1) (by decide) ?_
                    refine wg_iadd (d126_207 L xs) ?_
                    refine wg_top (y := (nI (c + te + 1))) (nI_add (c + te) 1) ?_
                    refine wg_istore_n (d126_208 L xs) (ls' := [some (.ref 141), some (.int (nI f)), some (.int (nI r)), some (.int (nI (c + te + 1))), some (.int (nI (c + te))), some (.int (nI (c + e))), some (.int (nI (bI (t_word (gl D) p e w_red))))]) (Nat.le_of_ble_eq_true rfl) rfl ?_
                    refine wg_goto (d126_209 L xs) (t := 31) (by decide) ?_
                    rw [if_pos (show f_tgs D true te (te - (e + 1)) (e + 1) = true ∧ ¬ (t_word (gl D) p e w_red = true ∧ (o.1 < o.2 ∨ e + 1 = te)) from ⟨bI_t (b := f_tgs D true te (te - (e + 1)) (e + 1)) (by omega), fun z => by rw [bI_f (b := t_word (gl D) p e w_red) (by omega)] at z; cases z.1⟩), if_neg (show ¬ t_word (gl D) p e w_red = true by rw [bI_f (b := t_word (gl D) p e w_red) (by omega)]; decide)]
                    exact wp_mono (ih (te + 1) o _ _ _ _ (isRec_of hR rfl rfl rfl) (by omega) (by omega) ho2 ((mA_at2 _ _ _ _ _).trans (h58p.symm.trans h58)) (fun q => (mA_at _ _ _ _).trans (h59 q))) (fun v s' h => ⟨h.1, ((mfr_A s (by decide)).trans (mfr_A _ (by decide))).trans h.2.1, fun a k hk => (h.2.2.1 a k hk).trans (mA_ne2 _ _ _ hk), h.2.2.2⟩)
                  · refine wg_iload (d126_148 L xs) rfl ?_
                    refine wg_goto (d126_150 L xs) (t := 159) (by decide) ?_
                    refine wg_iast (d126_159 L xs) (n := 13) (by decide) rfl (vp_in_nI (n := f) (by omega) (by omega)) rfl ?_
                    rw [nI_nat (n := f) (by omega)]
                    refine wg_goto (d126_160 L xs) (t := 204) (by decide) ?_
                    refine wg_iload (d126_204 L xs) rfl ?_
                    refine wg_iconst (d126_206 L xs) (x := 1) (by decide) ?_
                    refine wg_iadd (d126_207 L xs) ?_
                    refine wg_top (y := (nI (c + te + 1))) (nI_add (c + te) 1) ?_
                    refine wg_istore_n (d126_208 L xs) (ls' := [some (.ref 141), some (.int (nI f)), some (.int (nI r)), some (.int (nI (c + te + 1))), some (.int (nI (c + te))), some (.int (nI (c + e))), some (.int (nI (bI (t_word (gl D) p e w_red))))]) (Nat.le_of_ble_eq_true rfl) rfl ?_
                    refine wg_goto (d126_209 L xs) (t := 31) (by decide) ?_
                    exfalso; omega
                · refine wg_iload (d126_124 L xs) rfl ?_
                  refine wg_iconst (d126_126 L xs) (x := 1) (by decide) ?_
                  refine wg_iadd (d126_127 L xs) ?_
                  refine wg_top (y := (nI (c + e + 1))) (nI_add (c + e) 1) ?_
                  refine wg_goto (d126_128 L xs) (t := 137) (by decide) ?_
                  refine wg_iast (d126_137 L xs) (n := 13) (by decide) rfl (vp_in_nI (n := f) (by omega) (by omega)) rfl ?_
                  rw [nI_nat (n := f) (by omega)]
                  refine wg_aload_n (d126_138 L xs) rfl ?_
                  refine wg_get (d126_139 L xs) (kd := 1) (cj := 9) (k0 := 29) rfl (Or.inl rfl) (by decide) rfl rfl ?_
                  refine wg_iload_n (d126_142 L xs) rfl ?_
                  refine wg_iload (d126_143 L xs) rfl ?_
                  refine wn_if_eq (d126_145 L xs) (x := bI (t_word (gl D) p e w_red)) (by omega) (t := 153) (by decide) (fun h26 => ?_) (fun h26 => ?_)
                  · refine wg_aload_n (d126_153 L xs) rfl ?_
                    refine wg_get (d126_154 L xs) (kd := 1) (cj := 9) (k0 := 29) rfl (Or.inl rfl) (by decide) rfl rfl ?_
                    refine wg_iload_n (d126_157 L xs) rfl ?_
                    refine wg_iald (d126_158 L xs) (n := 13) (by decide) rfl (vp_in_nI (n := f) (by omega) (by omega)) ?_
                    refine wg_top (y := (mg_A s 158 f (nI (c + e + 1))).2.1 159 f) (by rw [nI_nat (n := f) (by omega)]) ?_
                    refine wg_iast (d126_159 L xs) (n := 13) (by decide) rfl (vp_in_nI (n := f) (by omega) (by omega)) rfl ?_
                    rw [nI_nat (n := f) (by omega)]
                    refine wg_goto (d126_160 L xs) (t := 204) (by decide) ?_
                    refine wg_iload (d126_204 L xs) rfl ?_
                    refine wg_iconst (d126_206 L xs) (x := 1) (by decide) ?_
                    refine wg_iadd (d126_207 L xs) ?_
                    refine wg_top (y := (nI (c + te + 1))) (nI_add (c + te) 1) ?_
                    refine wg_istore_n (d126_208 L xs) (ls' := [some (.ref 141), some (.int (nI f)), some (.int (nI r)), some (.int (nI (c + te + 1))), some (.int (nI (c + te))), some (.int (nI (c + e))), some (.int (nI (bI (t_word (gl D) p e w_red))))]) (Nat.le_of_ble_eq_true rfl) rfl ?_
                    refine wg_goto (d126_209 L xs) (t := 31) (by decide) ?_
                    exfalso; omega
                  · refine wg_iload (d126_148 L xs) rfl ?_
                    refine wg_goto (d126_150 L xs) (t := 159) (by decide) ?_
                    refine wg_iast (d126_159 L xs) (n := 13) (by decide) rfl (vp_in_nI (n := f) (by omega) (by omega)) rfl ?_
                    rw [nI_nat (n := f) (by omega)]
                    refine wg_goto (d126_160 L xs) (t := 204) (by decide) ?_
                    refine wg_iload (d126_204 L xs) rfl ?_
                    refine wg_iconst (d126_206 L xs) (x := 1) (by decide) ?_
                    refine wg_iadd (d126_207 L xs) ?_
                    refine wg_top (y := (nI (c + te + 1))) (nI_add (c + te) 1) ?_
                    refine wg_istore_n (d126_208 L xs) (ls' := [some (.ref 141), some (.int (nI f)), some (.int (nI r)), some (.int (nI (c + te + 1))), some (.int (nI (c + te))), some (.int (nI (c + e))), some (.int (nI (bI (t_word (gl D) p e w_red))))]) (Nat.le_of_ble_eq_true rfl) rfl ?_
                    refine wg_goto (d126_209 L xs) (t := 31) (by decide) ?_
                    have hne : ¬ e + 1 = te := by omega
                    rw [if_pos (show f_tgs D true te (te - (e + 1)) (e + 1) = true ∧ ¬ (t_word (gl D) p e w_red = true ∧ (o.1 < o.2 ∨ e + 1 = te)) from ⟨bI_t (b := f_tgs D true te (te - (e + 1)) (e + 1)) (by omega), fun z => by omega⟩), if_pos (bI_t (b := t_word (gl D) p e w_red) (by omega))]
                    exact wp_mono (ih (te + 1) (e + 1, te) _ _ _ _ (isRec_of hR rfl rfl rfl) (by omega) (by omega) t2 (by rw [rdI, if_pos (show e + 1 < te by omega)]; exact mA_at2 _ _ _ _ _) (fun _ => mA_at _ _ _ _)) (fun v s' h => ⟨h.1, ((mfr_A s (by decide)).trans (mfr_A _ (by decide))).trans h.2.1, fun a k hk => (h.2.2.1 a k hk).trans (mA_ne2 _ _ _ hk), h.2.2.2⟩)
              · refine wg_aload_n (d126_94 L xs) rfl ?_
                refine wg_get (d126_95 L xs) (kd := 1) (cj := 9) (k0 := 28) rfl (Or.inl rfl) (by decide) rfl rfl ?_
                refine wg_iload_n (d126_98 L xs) rfl ?_
                refine wg_iald (d126_99 L xs) (n := 13) (by decide) rfl (vp_in_nI (n := f) (by omega) (by omega)) ?_
                refine wg_top (y := (-1)) (by rw [nI_nat (n := f) (by omega)]; exact h58p) ?_
                refine wg_if_ge (d126_100 L xs) (t := 112) (by decide) (fun hp => absurd hp (by decide)) (fun _ => ?_)
                refine wg_iload (d126_103 L xs) rfl ?_
                refine wg_iconst (d126_105 L xs) (x := 1) (by decide) ?_
                refine wg_iadd (d126_106 L xs) ?_
                refine wg_top (y := (nI (c + e + 1))) (nI_add (c + e) 1) ?_
                refine wg_iload (d126_107 L xs) rfl ?_
                refine wn_icmp_ne (d126_109 L xs) (x := c + e + 1) (y := c + te) (by omega) (by omega) (t := 114) (by decide) (fun h28 => ?_) (fun h28 => ?_)
                · refine wg_aload_n (d126_114 L xs) rfl ?_
                  refine wg_get (d126_115 L xs) (kd := 1) (cj := 9) (k0 := 28) rfl (Or.inl rfl) (by decide) rfl rfl ?_
                  refine wg_iload_n (d126_118 L xs) rfl ?_
                  refine wg_iload (d126_119 L xs) rfl ?_
                  refine wn_if_eq (d126_121 L xs) (x := bI (t_word (gl D) p e w_red)) (by omega) (t := 131) (by decide) (fun h29 => ?_) (fun h29 => ?_)
                  · refine wg_aload_n (d126_131 L xs) rfl ?_
                    refine wg_get (d126_132 L xs) (kd := 1) (cj := 9) (k0 := 28) rfl (Or.inl rfl) (by decide) rfl rfl ?_
                    refine wg_iload_n (d126_135 L xs) rfl ?_
                    refine wg_iald (d126_136 L xs) (n := 13) (by decide) rfl (vp_in_nI (n := f) (by omega) (by omega)) ?_
                    refine wg_top (y := (-1)) (by rw [nI_nat (n := f) (by omega)]; exact h58p) ?_
                    refine wg_iast (d126_137 L xs) (n := 13) (by decide) rfl (vp_in_nI (n := f) (by omega) (by omega)) rfl ?_
                    rw [nI_nat (n := f) (by omega)]
                    refine wg_aload_n (d126_138 L xs) rfl ?_
                    refine wg_get (d126_139 L xs) (kd := 1) (cj := 9) (k0 := 29) rfl (Or.inl rfl) (by decide) rfl rfl ?_
                    refine wg_iload_n (d126_142 L xs) rfl ?_
                    refine wg_iload (d126_143 L xs) rfl ?_
                    refine wn_if_eq (d126_145 L xs) (x := bI (t_word (gl D) p e w_red)) (by omega) (t := 153) (by decide) (fun h30 => ?_) (fun h30 => ?_)
                    · refine wg_aload_n (d126_153 L xs) rfl ?_
                      refine wg_get (d126_154 L xs) (kd := 1) (cj := 9) (k0 := 29) rfl (Or.inl rfl) (by decide) rfl rfl ?_
                      refine wg_iload_n (d126_157 L xs) rfl ?_
                      refine wg_iald (d126_158 L xs) (n := 13) (by decide) rfl (vp_in_nI (n := f) (by omega) (by omega)) ?_
                      refine wg_top (y := (mg_A s 158 f (-1)).2.1 159 f) (by rw [nI_nat (n := f) (by omega)]) ?_
                      refine wg_iast (d126_159 L xs) (n := 13) (by decide) rfl (vp_in_nI (n := f) (by omega) (by omega)) rfl ?_
                      rw [nI_nat (n := f) (by omega)]
                      refine wg_goto (d126_160 L xs) (t := 204) (by decide) ?_
                      refine wg_iload (d126_204 L xs) rfl ?_
                      refine wg_iconst (d126_206 L xs) (x := 1) (by decide) ?_
                      refine wg_iadd (d126_207 L xs) ?_
                      refine wg_top (y := (nI (c + te + 1))) (nI_add (c + te) 1) ?_
                      refine wg_istore_n (d126_208 L xs) (ls' := [some (.ref 141), some (.int (nI f)), some (.int (nI r)), some (.int (nI (c + te + 1))), some (.int (nI (c + te))), some (.int (nI (c + e))), some (.int (nI (bI (t_word (gl D) p e w_red))))]) (Nat.le_of_ble_eq_true rfl) rfl ?_
                      refine wg_goto (d126_209 L xs) (t := 31) (by decide) ?_
                      rw [if_pos (show f_tgs D true te (te - (e + 1)) (e + 1) = true ∧ ¬ (t_word (gl D) p e w_red = true ∧ (o.1 < o.2 ∨ e + 1 = te)) from ⟨bI_t (b := f_tgs D true te (te - (e + 1)) (e + 1)) (by omega), fun z => by rw [bI_f (b := t_word (gl D) p e w_red) (by omega)] at z; cases z.1⟩), if_neg (show ¬ t_word (gl D) p e w_red = true by rw [bI_f (b := t_word (gl D) p e w_red) (by omega)]; decide)]
                      exact wp_mono (ih (te + 1) o _ _ _ _ (isRec_of hR rfl rfl rfl) (by omega) (by omega) ho2 ((mA_at2 _ _ _ _ _).trans (h58p.symm.trans h58)) (fun q => (mA_at _ _ _ _).trans (h59 q))) (fun v s' h => ⟨h.1, ((mfr_A s (by decide)).trans (mfr_A _ (by decide))).trans h.2.1, fun a k hk => (h.2.2.1 a k hk).trans (mA_ne2 _ _ _ hk), h.2.2.2⟩)
                    · refine wg_iload (d126_148 L xs) rfl ?_
                      refine wg_goto (d126_150 L xs) (t := 159) (by decide) ?_
                      refine wg_iast (d126_159 L xs) (n := 13) (by decide) rfl (vp_in_nI (n := f) (by omega) (by omega)) rfl ?_
                      rw [nI_nat (n := f) (by omega)]
                      refine wg_goto (d126_160 L xs) (t := 204) (by decide) ?_
                      refine wg_iload (d126_204 L xs) rfl ?_
                      refine wg_iconst (d126_206 L xs) (x := 1) (by decide) ?_
                      refine wg_iadd (d126_207 L xs) ?_
                      refine wg_top (y := (nI (c + te + 1))) (nI_add (c + te) 1) ?_
                      refine wg_istore_n (d126_208 L xs) (ls' := [some (.ref 141), some (.int (nI f)), some (.int (nI r)), some (.int (nI (c + te + 1))), some (.int (nI (c + te))), some (.int (nI (c + e))), some (.int (nI (bI (t_word (gl D) p e w_red))))]) (Nat.le_of_ble_eq_true rfl) rfl ?_
                      refine wg_goto (d126_209 L xs) (t := 31) (by decide) ?_
                      exfalso; omega
                  · refine wg_iload (d126_124 L xs) rfl ?_
                    refine wg_iconst (d126_126 L xs) (x := 1) (by decide) ?_
                    refine wg_iadd (d126_127 L xs) ?_
                    refine wg_top (y := (nI (c + e + 1))) (nI_add (c + e) 1) ?_
                    refine wg_goto (d126_128 L xs) (t := 137) (by decide) ?_
                    refine wg_iast (d126_137 L xs) (n := 13) (by decide) rfl (vp_in_nI (n := f) (by omega) (by omega)) rfl ?_
                    rw [nI_nat (n := f) (by omega)]
                    refine wg_aload_n (d126_138 L xs) rfl ?_
                    refine wg_get (d126_139 L xs) (kd := 1) (cj := 9) (k0 := 29) rfl (Or.inl rfl) (by decide) rfl rfl ?_
                    refine wg_iload_n (d126_142 L xs) rfl ?_
                    refine wg_iload (d126_143 L xs) rfl ?_
                    refine wn_if_eq (d126_145 L xs) (x := bI (t_word (gl D) p e w_red)) (by omega) (t := 153) (by decide) (fun h31 => ?_) (fun h31 => ?_)
                    · refine wg_aload_n (d126_153 L xs) rfl ?_
                      refine wg_get (d126_154 L xs) (kd := 1) (cj := 9) (k0 := 29) rfl (Or.inl rfl) (by decide) rfl rfl ?_
                      refine wg_iload_n (d126_157 L xs) rfl ?_
                      refine wg_iald (d126_158 L xs) (n := 13) (by decide) rfl (vp_in_nI (n := f) (by omega) (by omega)) ?_
                      refine wg_top (y := (mg_A s 158 f (nI (c + e + 1))).2.1 159 f) (by rw [nI_nat (n := f) (by omega)]) ?_
                      refine wg_iast (d126_159 L xs) (n := 13) (by decide) rfl (vp_in_nI (n := f) (by omega) (by omega)) rfl ?_
                      rw [nI_nat (n := f) (by omega)]
                      refine wg_goto (d126_160 L xs) (t := 204) (by decide) ?_
                      refine wg_iload (d126_204 L xs) rfl ?_
                      refine wg_iconst (d126_206 L xs) (x := 1) (by decide) ?_
                      refine wg_iadd (d126_207 L xs) ?_
                      refine wg_top (y := (nI (c + te + 1))) (nI_add (c + te) 1) ?_
                      refine wg_istore_n (d126_208 L xs) (ls' := [some (.ref 141), some (.int (nI f)), some (.int (nI r)), some (.int (nI (c + te + 1))), some (.int (nI (c + te))), some (.int (nI (c + e))), some (.int (nI (bI (t_word (gl D) p e w_red))))]) (Nat.le_of_ble_eq_true rfl) rfl ?_
                      refine wg_goto (d126_209 L xs) (t := 31) (by decide) ?_
                      exfalso; omega
                    · refine wg_iload (d126_148 L xs) rfl ?_
                      refine wg_goto (d126_150 L xs) (t := 159) (by decide) ?_
                      refine wg_iast (d126_159 L xs) (n := 13) (by decide) rfl (vp_in_nI (n := f) (by omega) (by omega)) rfl ?_
                      rw [nI_nat (n := f) (by omega)]
                      refine wg_goto (d126_160 L xs) (t := 204) (by decide) ?_
                      refine wg_iload (d126_204 L xs) rfl ?_
                      refine wg_iconst (d126_206 L xs) (x := 1) (by decide) ?_
                      refine wg_iadd (d126_207 L xs) ?_
                      refine wg_top (y := (nI (c + te + 1))) (nI_add (c + te) 1) ?_
                      refine wg_istore_n (d126_208 L xs) (ls' := [some (.ref 141), some (.int (nI f)), some (.int (nI r)), some (.int (nI (c + te + 1))), some (.int (nI (c + te))), some (.int (nI (c + e))), some (.int (nI (bI (t_word (gl D) p e w_red))))]) (Nat.le_of_ble_eq_true rfl) rfl ?_
                      refine wg_goto (d126_209 L xs) (t := 31) (by decide) ?_
                      have hne : ¬ e + 1 = te := by omega
                      rw [if_pos (show f_tgs D true te (te - (e + 1)) (e + 1) = true ∧ ¬ (t_word (gl D) p e w_red = true ∧ (o.1 < o.2 ∨ e + 1 = te)) from ⟨bI_t (b := f_tgs D true te (te - (e + 1)) (e + 1)) (by omega), fun z => by omega⟩), if_pos (bI_t (b := t_word (gl D) p e w_red) (by omega))]
                      exact wp_mono (ih (te + 1) (e + 1, te) _ _ _ _ (isRec_of hR rfl rfl rfl) (by omega) (by omega) t2 (by rw [rdI, if_pos (show e + 1 < te by omega)]; exact mA_at2 _ _ _ _ _) (fun _ => mA_at _ _ _ _)) (fun v s' h => ⟨h.1, ((mfr_A s (by decide)).trans (mfr_A _ (by decide))).trans h.2.1, fun a k hk => (h.2.2.1 a k hk).trans (mA_ne2 _ _ _ hk), h.2.2.2⟩)
                · refine wg_iconst (d126_112 L xs) (x := 0) (by decide) ?_
                  exact wg_iret (d126_113 L xs) rfl rfl ⟨by rw [if_neg (show ¬ (f_tgs D true te (te - (e + 1)) (e + 1) = true ∧ ¬ (t_word (gl D) p e w_red = true ∧ (o.1 < o.2 ∨ e + 1 = te))) from fun z => z.2 ⟨bI_t (b := t_word (gl D) p e w_red) (by omega), by omega⟩)]; rfl, mfr.rf s _ _, fun _ _ _ => rfl, fun o' eo => by rw [if_neg (show ¬ (f_tgs D true te (te - (e + 1)) (e + 1) = true ∧ ¬ (t_word (gl D) p e w_red = true ∧ (o.1 < o.2 ∨ e + 1 = te))) from fun z => z.2 ⟨bI_t (b := t_word (gl D) p e w_red) (by omega), by omega⟩)] at eo; cases eo⟩
      · have hpe : te = p := by omega
        rw [if_neg hlt]
        refine wg_aload_n (d126_41 L xs) rfl ?_
        refine wg_iload_n (d126_42 L xs) rfl ?_
        refine wg_iload_n (d126_43 L xs) rfl ?_
        refine wg_invv (d126_44 L xs) (kd := 7) (mj := 127) (n := 2) rfl (Or.inl rfl) (ys := [.int (nI (c + p)), .int (nI r)]) (r := []) rfl rfl (by decide) rfl rfl (Nat.le_of_ble_eq_true rfl) (by have h := md_tend (L := L) (xs := xs) (d := d + 4) (i := p) hR (by omega); rw [show f_find (gl D) 32 p (D.length - p) = te from hte] at h; exact h) ?_
        rintro _ _ ⟨rfl, rfl⟩
        refine wg_istore (d126_47 L xs) (ls' := [some (.ref 141), some (.int (nI f)), some (.int (nI r)), some (.int (nI (c + p))), some (.int (nI (c + te))), c5, c6]) (Nat.le_of_ble_eq_true rfl) rfl ?_
        refine wg_aload_n (d126_49 L xs) rfl ?_
        refine wg_iload_n (d126_50 L xs) rfl ?_
        refine wg_iload_n (d126_51 L xs) rfl ?_
        refine wg_iload (d126_52 L xs) rfl ?_
        refine wg_invv (d126_54 L xs) (kd := 7) (mj := 128) (n := 3) rfl (Or.inl rfl) (ys := [.int (nI (c + te)), .int (nI (c + p)), .int (nI r)]) (r := []) rfl rfl (by decide) rfl rfl (Nat.le_of_ble_eq_true rfl) (by have h := md_mod_e (L := L) (xs := xs) (d := d + 3) (i := p) hR (by omega) (by rw [← hpe]; exact h32); rw [hpe]; exact h) ?_
        rintro _ _ ⟨rfl, rfl⟩
        refine wg_istore (d126_57 L xs) (ls' := [some (.ref 141), some (.int (nI f)), some (.int (nI r)), some (.int (nI (c + p))), some (.int (nI (c + te))), some (.int (-1)), c6]) (Nat.le_of_ble_eq_true rfl) rfl ?_
        refine wg_iload (d126_59 L xs) rfl ?_
        refine wg_if_lt (d126_61 L xs) (t := 163) (by decide) (fun _ => ?_) (fun hn => absurd (by decide) hn)
        refine wg_iload (d126_163 L xs) rfl ?_
        refine wg_iload_n (d126_165 L xs) rfl ?_
        refine wn_icmp_le (d126_166 L xs) (x := c + te) (y := c + p) (by omega) (by omega) (t := 204) (by decide) (fun h22 => ?_) (fun h22 => by omega)
        refine wg_iload (d126_204 L xs) rfl ?_
        refine wg_iconst (d126_206 L xs) (x := 1) (by decide) ?_
        refine wg_iadd (d126_207 L xs) ?_
        refine wg_top (y := (nI (c + te + 1))) (nI_add (c + te) 1) ?_
        refine wg_istore_n (d126_208 L xs) (ls' := [some (.ref 141), some (.int (nI f)), some (.int (nI r)), some (.int (nI (c + te + 1))), some (.int (nI (c + te))), some (.int (-1)), c6]) (Nat.le_of_ble_eq_true rfl) rfl ?_
        refine wg_goto (d126_209 L xs) (t := 31) (by decide) ?_
        exact wp_mono (ih (te + 1) o _ _ _ s hR (by omega) (by omega) ho2 h58 h59) (fun v s' h => h)
theorem md_terms {f : Nat} (hf : f < 13) (h6 : 6 ≤ D.length) (hR : isRec s r c D) (hr : s.2.1 156 f = nI r) : ca L xs (d + 6) 126 [.ref 141, .int (nI f)] s (fun v s' => v = some (.int (nI (bI (r_tl D D.length 6 (0, 0)).isSome))) ∧ mfr s s' [9] [157, 158, 159] ∧ (∀ a k, ¬ k = f → s'.2.1 a k = s.2.1 a k) ∧ s'.2.1 157 f = nI (c + 6) ∧ ∀ o', r_tl D D.length 6 (0, 0) = some o' → s'.2.1 158 f = rdI c o' ∧ (o'.1 < o'.2 → s'.2.1 159 f = nI (c + o'.2))) := by
  refine wg_call (Nat.le_of_ble_eq_true rfl) ?_
  have hr16 := hR.1
  have hc1 := hR.2.1
  have hcl := hR.2.2.1
  show wp L xs (d + 5) 126 0 [some (.ref 141), some (.int (nI f)), none, none, none, none, none] [] s _
  refine wg_aload_n (d126_0 L xs) rfl ?_
  refine wg_get (d126_1 L xs) (kd := 1) (cj := 9) (k0 := 26) rfl (Or.inl rfl) (by decide) rfl rfl ?_
  refine wg_iload_n (d126_4 L xs) rfl ?_
  refine wg_iald (d126_5 L xs) (n := 13) (by decide) rfl (vp_in_nI (n := f) (by omega) (by omega)) ?_
  refine wg_top (y := (nI r)) (by rw [nI_nat (n := f) (by omega)]; exact hr) ?_
  refine wg_istore_n (d126_6 L xs) (ls' := [some (.ref 141), some (.int (nI f)), some (.int (nI r)), none, none, none, none]) (Nat.le_of_ble_eq_true rfl) rfl ?_
  refine wg_aload_n (d126_7 L xs) rfl ?_
  refine wg_get (d126_8 L xs) (kd := 1) (cj := 9) (k0 := 7) rfl (Or.inl rfl) (by decide) rfl rfl ?_
  refine wg_iload_n (d126_11 L xs) rfl ?_
  refine wg_iald (d126_12 L xs) (n := 16) (by decide) rfl (vp_in_nI (n := r) (by omega) (by omega)) ?_
  refine wg_top (y := (nI (c - 1))) (by rw [nI_nat (n := r) (by omega)]; exact hR.2.2.2.2.1) ?_
  refine wg_bipush (d126_13 L xs) (x := 7) (by decide) ?_
  refine wg_iadd (d126_15 L xs) ?_
  refine wg_top (y := (nI ((c - 1) + 7))) (nI_add (c - 1) 7) ?_
  refine wg_istore_n (d126_16 L xs) (ls' := [some (.ref 141), some (.int (nI f)), some (.int (nI r)), some (.int (nI ((c - 1) + 7))), none, none, none]) (Nat.le_of_ble_eq_true rfl) rfl ?_
  refine wg_aload_n (d126_17 L xs) rfl ?_
  refine wg_get (d126_18 L xs) (kd := 1) (cj := 9) (k0 := 28) rfl (Or.inl rfl) (by decide) rfl rfl ?_
  refine wg_iload_n (d126_21 L xs) rfl ?_
  refine wg_iconst (d126_22 L xs) (x := (-1)) (by decide) ?_
  refine wg_iast (d126_23 L xs) (n := 13) (by decide) rfl (vp_in_nI (n := f) (by omega) (by omega)) rfl ?_
  rw [nI_nat (n := f) (by omega)]
  refine wg_aload_n (d126_24 L xs) rfl ?_
  refine wg_get (d126_25 L xs) (kd := 1) (cj := 9) (k0 := 27) rfl (Or.inl rfl) (by decide) rfl rfl ?_
  refine wg_iload_n (d126_28 L xs) rfl ?_
  refine wg_iload_n (d126_29 L xs) rfl ?_
  refine wg_iast (d126_30 L xs) (n := 13) (by decide) rfl (vp_in_nI (n := f) (by omega) (by omega)) rfl ?_
  rw [nI_nat (n := f) (by omega)]
  rw [show c - 1 + 7 = c + 6 by omega]
  refine wp_mono (md_tms_l hf D.length 6 (0, 0) none none none _ (isRec_of hR rfl rfl rfl) (by omega) (by omega) (by exact Nat.zero_le _) ((mA_ne _ _ (Or.inl (by decide))).trans (mA_at _ _ _ _)) (fun q => absurd q (by decide))) (fun v s' h => ⟨h.1, ((mfr_A s (by decide)).trans (mfr_A _ (by decide))).trans (h.2.1.more (by decide) (by decide)), fun a k hk => (h.2.2.1 a k hk).trans (mA_ne2 _ _ _ hk), ?_, h.2.2.2⟩)
  exact (congrFun (h.2.1.2.2.1 157 (by decide)) f).trans (mA_at _ _ _ _)
end RT
