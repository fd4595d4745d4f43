/-! the reference: a target written out -/
theorem d141_0 (L : Nat) (xs : Nat → Int32) : decode (ax_code (mgT L xs) 141) 0 = .ok (.aload_n 0, 1) := by
  show decode prog_11_method_21_code 0 = _
  decide +kernel
theorem d141_1 (L : Nat) (xs : Nat → Int32) : decode (ax_code (mgT L xs) 141) 1 = .ok (.iconst 0, 1) := by
  show decode prog_11_method_21_code 1 = _
  decide +kernel
theorem d141_2 (L : Nat) (xs : Nat → Int32) : decode (ax_code (mgT L xs) 141) 2 = .ok (.putfield 134, 3) := by
  show decode prog_11_method_21_code 2 = _
  decide +kernel
theorem d141_5 (L : Nat) (xs : Nat → Int32) : decode (ax_code (mgT L xs) 141) 5 = .ok (.iload_n 2, 1) := by
  show decode prog_11_method_21_code 5 = _
  decide +kernel
theorem d141_6 (L : Nat) (xs : Nat → Int32) : decode (ax_code (mgT L xs) 141) 6 = .ok (.istore 4, 2) := by
  show decode prog_11_method_21_code 6 = _
  decide +kernel
theorem d141_8 (L : Nat) (xs : Nat → Int32) : decode (ax_code (mgT L xs) 141) 8 = .ok (.bipush 100, 2) := by
  show decode prog_11_method_21_code 8 = _
  decide +kernel
theorem d141_10 (L : Nat) (xs : Nat → Int32) : decode (ax_code (mgT L xs) 141) 10 = .ok (.iload_n 1, 1) := by
  show decode prog_11_method_21_code 10 = _
  decide +kernel
theorem d141_11 (L : Nat) (xs : Nat → Int32) : decode (ax_code (mgT L xs) 141) 11 = .ok (.imul, 1) := by
  show decode prog_11_method_21_code 11 = _
  decide +kernel
theorem d141_12 (L : Nat) (xs : Nat → Int32) : decode (ax_code (mgT L xs) 141) 12 = .ok (.istore 5, 2) := by
  show decode prog_11_method_21_code 12 = _
  decide +kernel
theorem d141_14 (L : Nat) (xs : Nat → Int32) : decode (ax_code (mgT L xs) 141) 14 = .ok (.iload 4, 2) := by
  show decode prog_11_method_21_code 14 = _
  decide +kernel
theorem d141_16 (L : Nat) (xs : Nat → Int32) : decode (ax_code (mgT L xs) 141) 16 = .ok (.iload_n 3, 1) := by
  show decode prog_11_method_21_code 16 = _
  decide +kernel
theorem d141_17 (L : Nat) (xs : Nat → Int32) : decode (ax_code (mgT L xs) 141) 17 = .ok (.if_icmp .ge 168, 3) := by
  show decode prog_11_method_21_code 17 = _
  decide +kernel
theorem d141_20 (L : Nat) (xs : Nat → Int32) : decode (ax_code (mgT L xs) 141) 20 = .ok (.aload_n 0, 1) := by
  show decode prog_11_method_21_code 20 = _
  decide +kernel
theorem d141_21 (L : Nat) (xs : Nat → Int32) : decode (ax_code (mgT L xs) 141) 21 = .ok (.getfield 16, 3) := by
  show decode prog_11_method_21_code 21 = _
  decide +kernel
theorem d141_24 (L : Nat) (xs : Nat → Int32) : decode (ax_code (mgT L xs) 141) 24 = .ok (.iload 5, 2) := by
  show decode prog_11_method_21_code 24 = _
  decide +kernel
theorem d141_26 (L : Nat) (xs : Nat → Int32) : decode (ax_code (mgT L xs) 141) 26 = .ok (.iload 4, 2) := by
  show decode prog_11_method_21_code 26 = _
  decide +kernel
theorem d141_28 (L : Nat) (xs : Nat → Int32) : decode (ax_code (mgT L xs) 141) 28 = .ok (.iadd, 1) := by
  show decode prog_11_method_21_code 28 = _
  decide +kernel
theorem d141_29 (L : Nat) (xs : Nat → Int32) : decode (ax_code (mgT L xs) 141) 29 = .ok (.iaload, 1) := by
  show decode prog_11_method_21_code 29 = _
  decide +kernel
theorem d141_30 (L : Nat) (xs : Nat → Int32) : decode (ax_code (mgT L xs) 141) 30 = .ok (.istore 6, 2) := by
  show decode prog_11_method_21_code 30 = _
  decide +kernel
theorem d141_32 (L : Nat) (xs : Nat → Int32) : decode (ax_code (mgT L xs) 141) 32 = .ok (.iload 6, 2) := by
  show decode prog_11_method_21_code 32 = _
  decide +kernel
theorem d141_34 (L : Nat) (xs : Nat → Int32) : decode (ax_code (mgT L xs) 141) 34 = .ok (.bipush 37, 2) := by
  show decode prog_11_method_21_code 34 = _
  decide +kernel
theorem d141_36 (L : Nat) (xs : Nat → Int32) : decode (ax_code (mgT L xs) 141) 36 = .ok (.if_icmp .eq 15, 3) := by
  show decode prog_11_method_21_code 36 = _
  decide +kernel
theorem d141_39 (L : Nat) (xs : Nat → Int32) : decode (ax_code (mgT L xs) 141) 39 = .ok (.aload_n 0, 1) := by
  show decode prog_11_method_21_code 39 = _
  decide +kernel
theorem d141_40 (L : Nat) (xs : Nat → Int32) : decode (ax_code (mgT L xs) 141) 40 = .ok (.iload 6, 2) := by
  show decode prog_11_method_21_code 40 = _
  decide +kernel
theorem d141_42 (L : Nat) (xs : Nat → Int32) : decode (ax_code (mgT L xs) 141) 42 = .ok (.invokevirtual 156, 3) := by
  show decode prog_11_method_21_code 42 = _
  decide +kernel
theorem d141_45 (L : Nat) (xs : Nat → Int32) : decode (ax_code (mgT L xs) 141) 45 = .ok (.iinc 4 1, 3) := by
  show decode prog_11_method_21_code 45 = _
  decide +kernel
theorem d141_48 (L : Nat) (xs : Nat → Int32) : decode (ax_code (mgT L xs) 141) 48 = .ok (.goto 134, 3) := by
  show decode prog_11_method_21_code 48 = _
  decide +kernel
theorem d141_51 (L : Nat) (xs : Nat → Int32) : decode (ax_code (mgT L xs) 141) 51 = .ok (.aload_n 0, 1) := by
  show decode prog_11_method_21_code 51 = _
  decide +kernel
theorem d141_52 (L : Nat) (xs : Nat → Int32) : decode (ax_code (mgT L xs) 141) 52 = .ok (.getfield 16, 3) := by
  show decode prog_11_method_21_code 52 = _
  decide +kernel
theorem d141_55 (L : Nat) (xs : Nat → Int32) : decode (ax_code (mgT L xs) 141) 55 = .ok (.iload 5, 2) := by
  show decode prog_11_method_21_code 55 = _
  decide +kernel
theorem d141_57 (L : Nat) (xs : Nat → Int32) : decode (ax_code (mgT L xs) 141) 57 = .ok (.iload 4, 2) := by
  show decode prog_11_method_21_code 57 = _
  decide +kernel
theorem d141_59 (L : Nat) (xs : Nat → Int32) : decode (ax_code (mgT L xs) 141) 59 = .ok (.iadd, 1) := by
  show decode prog_11_method_21_code 59 = _
  decide +kernel
theorem d141_60 (L : Nat) (xs : Nat → Int32) : decode (ax_code (mgT L xs) 141) 60 = .ok (.iconst 1, 1) := by
  show decode prog_11_method_21_code 60 = _
  decide +kernel
theorem d141_61 (L : Nat) (xs : Nat → Int32) : decode (ax_code (mgT L xs) 141) 61 = .ok (.iadd, 1) := by
  show decode prog_11_method_21_code 61 = _
  decide +kernel
theorem d141_62 (L : Nat) (xs : Nat → Int32) : decode (ax_code (mgT L xs) 141) 62 = .ok (.iaload, 1) := by
  show decode prog_11_method_21_code 62 = _
  decide +kernel
theorem d141_63 (L : Nat) (xs : Nat → Int32) : decode (ax_code (mgT L xs) 141) 63 = .ok (.bipush 37, 2) := by
  show decode prog_11_method_21_code 63 = _
  decide +kernel
theorem d141_65 (L : Nat) (xs : Nat → Int32) : decode (ax_code (mgT L xs) 141) 65 = .ok (.if_icmp .ne 15, 3) := by
  show decode prog_11_method_21_code 65 = _
  decide +kernel
theorem d141_68 (L : Nat) (xs : Nat → Int32) : decode (ax_code (mgT L xs) 141) 68 = .ok (.aload_n 0, 1) := by
  show decode prog_11_method_21_code 68 = _
  decide +kernel
theorem d141_69 (L : Nat) (xs : Nat → Int32) : decode (ax_code (mgT L xs) 141) 69 = .ok (.bipush 37, 2) := by
  show decode prog_11_method_21_code 69 = _
  decide +kernel
theorem d141_71 (L : Nat) (xs : Nat → Int32) : decode (ax_code (mgT L xs) 141) 71 = .ok (.invokevirtual 156, 3) := by
  show decode prog_11_method_21_code 71 = _
  decide +kernel
theorem d141_74 (L : Nat) (xs : Nat → Int32) : decode (ax_code (mgT L xs) 141) 74 = .ok (.iinc 4 2, 3) := by
  show decode prog_11_method_21_code 74 = _
  decide +kernel
theorem d141_77 (L : Nat) (xs : Nat → Int32) : decode (ax_code (mgT L xs) 141) 77 = .ok (.goto 105, 3) := by
  show decode prog_11_method_21_code 77 = _
  decide +kernel
theorem d141_80 (L : Nat) (xs : Nat → Int32) : decode (ax_code (mgT L xs) 141) 80 = .ok (.aload_n 0, 1) := by
  show decode prog_11_method_21_code 80 = _
  decide +kernel
theorem d141_81 (L : Nat) (xs : Nat → Int32) : decode (ax_code (mgT L xs) 141) 81 = .ok (.iload_n 1, 1) := by
  show decode prog_11_method_21_code 81 = _
  decide +kernel
theorem d141_82 (L : Nat) (xs : Nat → Int32) : decode (ax_code (mgT L xs) 141) 82 = .ok (.iload 4, 2) := by
  show decode prog_11_method_21_code 82 = _
  decide +kernel
theorem d141_84 (L : Nat) (xs : Nat → Int32) : decode (ax_code (mgT L xs) 141) 84 = .ok (.iload_n 3, 1) := by
  show decode prog_11_method_21_code 84 = _
  decide +kernel
theorem d141_85 (L : Nat) (xs : Nat → Int32) : decode (ax_code (mgT L xs) 141) 85 = .ok (.invokevirtual 130, 3) := by
  show decode prog_11_method_21_code 85 = _
  decide +kernel
theorem d141_88 (L : Nat) (xs : Nat → Int32) : decode (ax_code (mgT L xs) 141) 88 = .ok (.istore 7, 2) := by
  show decode prog_11_method_21_code 88 = _
  decide +kernel
theorem d141_90 (L : Nat) (xs : Nat → Int32) : decode (ax_code (mgT L xs) 141) 90 = .ok (.aload_n 0, 1) := by
  show decode prog_11_method_21_code 90 = _
  decide +kernel
theorem d141_91 (L : Nat) (xs : Nat → Int32) : decode (ax_code (mgT L xs) 141) 91 = .ok (.getfield 16, 3) := by
  show decode prog_11_method_21_code 91 = _
  decide +kernel
theorem d141_94 (L : Nat) (xs : Nat → Int32) : decode (ax_code (mgT L xs) 141) 94 = .ok (.iload 5, 2) := by
  show decode prog_11_method_21_code 94 = _
  decide +kernel
theorem d141_96 (L : Nat) (xs : Nat → Int32) : decode (ax_code (mgT L xs) 141) 96 = .ok (.iload 4, 2) := by
  show decode prog_11_method_21_code 96 = _
  decide +kernel
theorem d141_98 (L : Nat) (xs : Nat → Int32) : decode (ax_code (mgT L xs) 141) 98 = .ok (.iadd, 1) := by
  show decode prog_11_method_21_code 98 = _
  decide +kernel
theorem d141_99 (L : Nat) (xs : Nat → Int32) : decode (ax_code (mgT L xs) 141) 99 = .ok (.iconst 3, 1) := by
  show decode prog_11_method_21_code 99 = _
  decide +kernel
theorem d141_100 (L : Nat) (xs : Nat → Int32) : decode (ax_code (mgT L xs) 141) 100 = .ok (.iadd, 1) := by
  show decode prog_11_method_21_code 100 = _
  decide +kernel
theorem d141_101 (L : Nat) (xs : Nat → Int32) : decode (ax_code (mgT L xs) 141) 101 = .ok (.iaload, 1) := by
  show decode prog_11_method_21_code 101 = _
  decide +kernel
theorem d141_102 (L : Nat) (xs : Nat → Int32) : decode (ax_code (mgT L xs) 141) 102 = .ok (.istore 8, 2) := by
  show decode prog_11_method_21_code 102 = _
  decide +kernel
theorem d141_104 (L : Nat) (xs : Nat → Int32) : decode (ax_code (mgT L xs) 141) 104 = .ok (.aload_n 0, 1) := by
  show decode prog_11_method_21_code 104 = _
  decide +kernel
theorem d141_105 (L : Nat) (xs : Nat → Int32) : decode (ax_code (mgT L xs) 141) 105 = .ok (.getfield 16, 3) := by
  show decode prog_11_method_21_code 105 = _
  decide +kernel
theorem d141_108 (L : Nat) (xs : Nat → Int32) : decode (ax_code (mgT L xs) 141) 108 = .ok (.iload 5, 2) := by
  show decode prog_11_method_21_code 108 = _
  decide +kernel
theorem d141_110 (L : Nat) (xs : Nat → Int32) : decode (ax_code (mgT L xs) 141) 110 = .ok (.iload 7, 2) := by
  show decode prog_11_method_21_code 110 = _
  decide +kernel
theorem d141_112 (L : Nat) (xs : Nat → Int32) : decode (ax_code (mgT L xs) 141) 112 = .ok (.iadd, 1) := by
  show decode prog_11_method_21_code 112 = _
  decide +kernel
theorem d141_113 (L : Nat) (xs : Nat → Int32) : decode (ax_code (mgT L xs) 141) 113 = .ok (.iconst 2, 1) := by
  show decode prog_11_method_21_code 113 = _
  decide +kernel
theorem d141_114 (L : Nat) (xs : Nat → Int32) : decode (ax_code (mgT L xs) 141) 114 = .ok (.isub, 1) := by
  show decode prog_11_method_21_code 114 = _
  decide +kernel
theorem d141_115 (L : Nat) (xs : Nat → Int32) : decode (ax_code (mgT L xs) 141) 115 = .ok (.iaload, 1) := by
  show decode prog_11_method_21_code 115 = _
  decide +kernel
theorem d141_116 (L : Nat) (xs : Nat → Int32) : decode (ax_code (mgT L xs) 141) 116 = .ok (.bipush 114, 2) := by
  show decode prog_11_method_21_code 116 = _
  decide +kernel
theorem d141_118 (L : Nat) (xs : Nat → Int32) : decode (ax_code (mgT L xs) 141) 118 = .ok (.if_icmp .ne 18, 3) := by
  show decode prog_11_method_21_code 118 = _
  decide +kernel
theorem d141_121 (L : Nat) (xs : Nat → Int32) : decode (ax_code (mgT L xs) 141) 121 = .ok (.iload 7, 2) := by
  show decode prog_11_method_21_code 121 = _
  decide +kernel
theorem d141_123 (L : Nat) (xs : Nat → Int32) : decode (ax_code (mgT L xs) 141) 123 = .ok (.iconst 2, 1) := by
  show decode prog_11_method_21_code 123 = _
  decide +kernel
theorem d141_124 (L : Nat) (xs : Nat → Int32) : decode (ax_code (mgT L xs) 141) 124 = .ok (.isub, 1) := by
  show decode prog_11_method_21_code 124 = _
  decide +kernel
theorem d141_125 (L : Nat) (xs : Nat → Int32) : decode (ax_code (mgT L xs) 141) 125 = .ok (.iload 4, 2) := by
  show decode prog_11_method_21_code 125 = _
  decide +kernel
theorem d141_127 (L : Nat) (xs : Nat → Int32) : decode (ax_code (mgT L xs) 141) 127 = .ok (.iconst 2, 1) := by
  show decode prog_11_method_21_code 127 = _
  decide +kernel
theorem d141_128 (L : Nat) (xs : Nat → Int32) : decode (ax_code (mgT L xs) 141) 128 = .ok (.iadd, 1) := by
  show decode prog_11_method_21_code 128 = _
  decide +kernel
theorem d141_129 (L : Nat) (xs : Nat → Int32) : decode (ax_code (mgT L xs) 141) 129 = .ok (.if_icmp .le 7, 3) := by
  show decode prog_11_method_21_code 129 = _
  decide +kernel
theorem d141_132 (L : Nat) (xs : Nat → Int32) : decode (ax_code (mgT L xs) 141) 132 = .ok (.iconst 1, 1) := by
  show decode prog_11_method_21_code 132 = _
  decide +kernel
theorem d141_133 (L : Nat) (xs : Nat → Int32) : decode (ax_code (mgT L xs) 141) 133 = .ok (.goto 4, 3) := by
  show decode prog_11_method_21_code 133 = _
  decide +kernel
theorem d141_136 (L : Nat) (xs : Nat → Int32) : decode (ax_code (mgT L xs) 141) 136 = .ok (.iconst 0, 1) := by
  show decode prog_11_method_21_code 136 = _
  decide +kernel
theorem d141_137 (L : Nat) (xs : Nat → Int32) : decode (ax_code (mgT L xs) 141) 137 = .ok (.istore 9, 2) := by
  show decode prog_11_method_21_code 137 = _
  decide +kernel
theorem d141_139 (L : Nat) (xs : Nat → Int32) : decode (ax_code (mgT L xs) 141) 139 = .ok (.aload_n 0, 1) := by
  show decode prog_11_method_21_code 139 = _
  decide +kernel
theorem d141_140 (L : Nat) (xs : Nat → Int32) : decode (ax_code (mgT L xs) 141) 140 = .ok (.aload_n 0, 1) := by
  show decode prog_11_method_21_code 140 = _
  decide +kernel
theorem d141_141 (L : Nat) (xs : Nat → Int32) : decode (ax_code (mgT L xs) 141) 141 = .ok (.getfield 16, 3) := by
  show decode prog_11_method_21_code 141 = _
  decide +kernel
theorem d141_144 (L : Nat) (xs : Nat → Int32) : decode (ax_code (mgT L xs) 141) 144 = .ok (.iload 5, 2) := by
  show decode prog_11_method_21_code 144 = _
  decide +kernel
theorem d141_146 (L : Nat) (xs : Nat → Int32) : decode (ax_code (mgT L xs) 141) 146 = .ok (.iload 4, 2) := by
  show decode prog_11_method_21_code 146 = _
  decide +kernel
theorem d141_148 (L : Nat) (xs : Nat → Int32) : decode (ax_code (mgT L xs) 141) 148 = .ok (.iadd, 1) := by
  show decode prog_11_method_21_code 148 = _
  decide +kernel
theorem d141_149 (L : Nat) (xs : Nat → Int32) : decode (ax_code (mgT L xs) 141) 149 = .ok (.iconst 2, 1) := by
  show decode prog_11_method_21_code 149 = _
  decide +kernel
theorem d141_150 (L : Nat) (xs : Nat → Int32) : decode (ax_code (mgT L xs) 141) 150 = .ok (.iadd, 1) := by
  show decode prog_11_method_21_code 150 = _
  decide +kernel
theorem d141_151 (L : Nat) (xs : Nat → Int32) : decode (ax_code (mgT L xs) 141) 151 = .ok (.iaload, 1) := by
  show decode prog_11_method_21_code 151 = _
  decide +kernel
theorem d141_152 (L : Nat) (xs : Nat → Int32) : decode (ax_code (mgT L xs) 141) 152 = .ok (.invokevirtual 159, 3) := by
  show decode prog_11_method_21_code 152 = _
  decide +kernel
theorem d141_155 (L : Nat) (xs : Nat → Int32) : decode (ax_code (mgT L xs) 141) 155 = .ok (.aload_n 0, 1) := by
  show decode prog_11_method_21_code 155 = _
  decide +kernel
theorem d141_156 (L : Nat) (xs : Nat → Int32) : decode (ax_code (mgT L xs) 141) 156 = .ok (.iload 8, 2) := by
  show decode prog_11_method_21_code 156 = _
  decide +kernel
theorem d141_158 (L : Nat) (xs : Nat → Int32) : decode (ax_code (mgT L xs) 141) 158 = .ok (.invokestatic 93, 3) := by
  show decode prog_11_method_21_code 158 = _
  decide +kernel
theorem d141_161 (L : Nat) (xs : Nat → Int32) : decode (ax_code (mgT L xs) 141) 161 = .ok (.ifCond .eq 11, 3) := by
  show decode prog_11_method_21_code 161 = _
  decide +kernel
theorem d141_164 (L : Nat) (xs : Nat → Int32) : decode (ax_code (mgT L xs) 141) 164 = .ok (.iload 8, 2) := by
  show decode prog_11_method_21_code 164 = _
  decide +kernel
theorem d141_166 (L : Nat) (xs : Nat → Int32) : decode (ax_code (mgT L xs) 141) 166 = .ok (.bipush 48, 2) := by
  show decode prog_11_method_21_code 166 = _
  decide +kernel
theorem d141_168 (L : Nat) (xs : Nat → Int32) : decode (ax_code (mgT L xs) 141) 168 = .ok (.isub, 1) := by
  show decode prog_11_method_21_code 168 = _
  decide +kernel
theorem d141_169 (L : Nat) (xs : Nat → Int32) : decode (ax_code (mgT L xs) 141) 169 = .ok (.goto 4, 3) := by
  show decode prog_11_method_21_code 169 = _
  decide +kernel
theorem d141_172 (L : Nat) (xs : Nat → Int32) : decode (ax_code (mgT L xs) 141) 172 = .ok (.iconst 0, 1) := by
  show decode prog_11_method_21_code 172 = _
  decide +kernel
theorem d141_173 (L : Nat) (xs : Nat → Int32) : decode (ax_code (mgT L xs) 141) 173 = .ok (.iload 9, 2) := by
  show decode prog_11_method_21_code 173 = _
  decide +kernel
theorem d141_175 (L : Nat) (xs : Nat → Int32) : decode (ax_code (mgT L xs) 141) 175 = .ok (.invokevirtual 162, 3) := by
  show decode prog_11_method_21_code 175 = _
  decide +kernel
theorem d141_178 (L : Nat) (xs : Nat → Int32) : decode (ax_code (mgT L xs) 141) 178 = .ok (.iload 7, 2) := by
  show decode prog_11_method_21_code 178 = _
  decide +kernel
theorem d141_180 (L : Nat) (xs : Nat → Int32) : decode (ax_code (mgT L xs) 141) 180 = .ok (.istore 4, 2) := by
  show decode prog_11_method_21_code 180 = _
  decide +kernel
theorem d141_182 (L : Nat) (xs : Nat → Int32) : decode (ax_code (mgT L xs) 141) 182 = .ok (.goto (-168), 3) := by
  show decode prog_11_method_21_code 182 = _
  decide +kernel
theorem d141_185 (L : Nat) (xs : Nat → Int32) : decode (ax_code (mgT L xs) 141) 185 = .ok (.aload_n 0, 1) := by
  show decode prog_11_method_21_code 185 = _
  decide +kernel
theorem d141_186 (L : Nat) (xs : Nat → Int32) : decode (ax_code (mgT L xs) 141) 186 = .ok (.getfield 37, 3) := by
  show decode prog_11_method_21_code 186 = _
  decide +kernel
theorem d141_189 (L : Nat) (xs : Nat → Int32) : decode (ax_code (mgT L xs) 141) 189 = .ok (.iconst 0, 1) := by
  show decode prog_11_method_21_code 189 = _
  decide +kernel
theorem d141_190 (L : Nat) (xs : Nat → Int32) : decode (ax_code (mgT L xs) 141) 190 = .ok (.aload_n 0, 1) := by
  show decode prog_11_method_21_code 190 = _
  decide +kernel
theorem d141_191 (L : Nat) (xs : Nat → Int32) : decode (ax_code (mgT L xs) 141) 191 = .ok (.getfield 134, 3) := by
  show decode prog_11_method_21_code 191 = _
  decide +kernel
theorem d141_194 (L : Nat) (xs : Nat → Int32) : decode (ax_code (mgT L xs) 141) 194 = .ok (.invokestatic 103, 3) := by
  show decode prog_11_method_21_code 194 = _
  decide +kernel
theorem d141_197 (L : Nat) (xs : Nat → Int32) : decode (ax_code (mgT L xs) 141) 197 = .ok (.istore 6, 2) := by
  show decode prog_11_method_21_code 197 = _
  decide +kernel
theorem d141_199 (L : Nat) (xs : Nat → Int32) : decode (ax_code (mgT L xs) 141) 199 = .ok (.aload_n 0, 1) := by
  show decode prog_11_method_21_code 199 = _
  decide +kernel
theorem d141_200 (L : Nat) (xs : Nat → Int32) : decode (ax_code (mgT L xs) 141) 200 = .ok (.iload 6, 2) := by
  show decode prog_11_method_21_code 200 = _
  decide +kernel
theorem d141_202 (L : Nat) (xs : Nat → Int32) : decode (ax_code (mgT L xs) 141) 202 = .ok (.ifCond .eq 10, 3) := by
  show decode prog_11_method_21_code 202 = _
  decide +kernel
theorem d141_205 (L : Nat) (xs : Nat → Int32) : decode (ax_code (mgT L xs) 141) 205 = .ok (.aload_n 0, 1) := by
  show decode prog_11_method_21_code 205 = _
  decide +kernel
theorem d141_206 (L : Nat) (xs : Nat → Int32) : decode (ax_code (mgT L xs) 141) 206 = .ok (.getfield 134, 3) := by
  show decode prog_11_method_21_code 206 = _
  decide +kernel
theorem d141_209 (L : Nat) (xs : Nat → Int32) : decode (ax_code (mgT L xs) 141) 209 = .ok (.goto 4, 3) := by
  show decode prog_11_method_21_code 209 = _
  decide +kernel
theorem d141_212 (L : Nat) (xs : Nat → Int32) : decode (ax_code (mgT L xs) 141) 212 = .ok (.iconst 0, 1) := by
  show decode prog_11_method_21_code 212 = _
  decide +kernel
theorem d141_213 (L : Nat) (xs : Nat → Int32) : decode (ax_code (mgT L xs) 141) 213 = .ok (.putfield 114, 3) := by
  show decode prog_11_method_21_code 213 = _
  decide +kernel
theorem d141_216 (L : Nat) (xs : Nat → Int32) : decode (ax_code (mgT L xs) 141) 216 = .ok (.iconst 0, 1) := by
  show decode prog_11_method_21_code 216 = _
  decide +kernel
theorem d141_217 (L : Nat) (xs : Nat → Int32) : decode (ax_code (mgT L xs) 141) 217 = .ok (.istore 7, 2) := by
  show decode prog_11_method_21_code 217 = _
  decide +kernel
theorem d141_219 (L : Nat) (xs : Nat → Int32) : decode (ax_code (mgT L xs) 141) 219 = .ok (.iload 7, 2) := by
  show decode prog_11_method_21_code 219 = _
  decide +kernel
theorem d141_221 (L : Nat) (xs : Nat → Int32) : decode (ax_code (mgT L xs) 141) 221 = .ok (.aload_n 0, 1) := by
  show decode prog_11_method_21_code 221 = _
  decide +kernel
theorem d141_222 (L : Nat) (xs : Nat → Int32) : decode (ax_code (mgT L xs) 141) 222 = .ok (.getfield 114, 3) := by
  show decode prog_11_method_21_code 222 = _
  decide +kernel
theorem d141_225 (L : Nat) (xs : Nat → Int32) : decode (ax_code (mgT L xs) 141) 225 = .ok (.if_icmp .ge 23, 3) := by
  show decode prog_11_method_21_code 225 = _
  decide +kernel
theorem d141_228 (L : Nat) (xs : Nat → Int32) : decode (ax_code (mgT L xs) 141) 228 = .ok (.aload_n 0, 1) := by
  show decode prog_11_method_21_code 228 = _
  decide +kernel
theorem d141_229 (L : Nat) (xs : Nat → Int32) : decode (ax_code (mgT L xs) 141) 229 = .ok (.getfield 28, 3) := by
  show decode prog_11_method_21_code 229 = _
  decide +kernel
theorem d141_232 (L : Nat) (xs : Nat → Int32) : decode (ax_code (mgT L xs) 141) 232 = .ok (.iload 7, 2) := by
  show decode prog_11_method_21_code 232 = _
  decide +kernel
theorem d141_234 (L : Nat) (xs : Nat → Int32) : decode (ax_code (mgT L xs) 141) 234 = .ok (.aload_n 0, 1) := by
  show decode prog_11_method_21_code 234 = _
  decide +kernel
theorem d141_235 (L : Nat) (xs : Nat → Int32) : decode (ax_code (mgT L xs) 141) 235 = .ok (.getfield 37, 3) := by
  show decode prog_11_method_21_code 235 = _
  decide +kernel
theorem d141_238 (L : Nat) (xs : Nat → Int32) : decode (ax_code (mgT L xs) 141) 238 = .ok (.iload 7, 2) := by
  show decode prog_11_method_21_code 238 = _
  decide +kernel
theorem d141_240 (L : Nat) (xs : Nat → Int32) : decode (ax_code (mgT L xs) 141) 240 = .ok (.iaload, 1) := by
  show decode prog_11_method_21_code 240 = _
  decide +kernel
theorem d141_241 (L : Nat) (xs : Nat → Int32) : decode (ax_code (mgT L xs) 141) 241 = .ok (.iastore, 1) := by
  show decode prog_11_method_21_code 241 = _
  decide +kernel
theorem d141_242 (L : Nat) (xs : Nat → Int32) : decode (ax_code (mgT L xs) 141) 242 = .ok (.iinc 7 1, 3) := by
  show decode prog_11_method_21_code 242 = _
  decide +kernel
theorem d141_245 (L : Nat) (xs : Nat → Int32) : decode (ax_code (mgT L xs) 141) 245 = .ok (.goto (-26), 3) := by
  show decode prog_11_method_21_code 245 = _
  decide +kernel
theorem d141_248 (L : Nat) (xs : Nat → Int32) : decode (ax_code (mgT L xs) 141) 248 = .ok (.iload 6, 2) := by
  show decode prog_11_method_21_code 248 = _
  decide +kernel
theorem d141_250 (L : Nat) (xs : Nat → Int32) : decode (ax_code (mgT L xs) 141) 250 = .ok (.ireturn, 1) := by
  show decode prog_11_method_21_code 250 = _
  decide +kernel
theorem mac_cases {g : Nat → Nat} {i j e : Nat} (h : t_mac g i j = some e) : (g (i + 1) = 37 ∧ e = i + 1 ∧ e < j) ∨ (g (i + 1) = 123 ∧ i + 3 ≤ e ∧ e < j ∧ (g (i + 2) = 100 ∨ g (i + 2) = 105 ∨ g (i + 2) = 111) ∧ ¬ g (i + 3) = 48) := by
  have hlt := t_mac_lt h
  unfold t_mac at h
  by_cases c : g (i + 1) = 123
  · rw [if_pos c] at h
    split at h
    · rename_i h2
      cases h
      refine Or.inr ⟨c, ?_, hlt.2, h2.1, ?_⟩
      · unfold m_e2; split <;> split <;> omega
      · intro z
        have h3 := h2.2.2
        have e2 : m_e2 g i = i + 3 := by unfold m_e2; rw [if_neg (by omega), if_neg (by omega)]
        rw [e2] at h3
        omega
    · cases h
  · rw [if_neg c] at h
    split at h
    · rename_i h2
      cases h
      exact Or.inl ⟨h2.2, rfl, h2.1⟩
    · cases h
theorem name_0 {l : List Nat} (h : t_name (gl l) 0 l.length = true) : ¬ gl l 0 = 46 := by
  intro z
  have hl := t_name_len h
  unfold t_name at h
  have h2 := (Bool.and_eq_true_iff.mp h).2
  rw [show l.length - 0 = (l.length - 1) + 1 by omega, f_run] at h2
  rw [if_pos z] at h2
  simp at h2
theorem mac_pp {g : Nat → Nat} {i e : Nat} {dom ip fst : List Nat} (hd : ¬ g (i + 3) = 48) : x_mac g i e dom ip fst = x_pp (x_src g i dom ip fst) (if 48 ≤ g (i + 3) ∧ g (i + 3) ≤ 57 then g (i + 3) - 48 else 0) (decide (g (e - 1) = 114)) := by
  have hp : x_pts g i = (if (if 48 ≤ g (i + 3) ∧ g (i + 3) ≤ 57 then g (i + 3) - 48 else 0) = 0 then 48 else (if 48 ≤ g (i + 3) ∧ g (i + 3) ≤ 57 then g (i + 3) - 48 else 0)) := by
    unfold x_pts
    by_cases c : 49 ≤ g (i + 3) ∧ g (i + 3) ≤ 57
    · rw [if_pos c, if_pos (show 48 ≤ g (i + 3) ∧ g (i + 3) ≤ 57 by omega), if_neg (by omega)]
    · rw [if_neg c, if_neg (show ¬ (48 ≤ g (i + 3) ∧ g (i + 3) ≤ 57) by omega), if_pos rfl]
  unfold x_mac x_pp
  rw [← hp]
  by_cases c : g (e - 1) = 114
  · rw [if_pos c, if_pos (decide_eq_true c)]
  · rw [if_neg c, if_neg (by rw [decide_eq_false c]; decide)]
theorem take49 (B : List Nat) : t_name (gl (B.take 49)) 0 (B.take 49).length = t_name (gl B) 0 B.length := by
  by_cases c : B.length ≤ 49
  · rw [List.take_of_length_le c]
  · rw [t_name_f (Or.inr (by rw [List.length_take]; omega)), t_name_f (Or.inr (by omega))]
theorem adr_len (x : Int32) : (f_adr x).length ≤ 15 := by
  unfold f_adr
  have h := fun k => (f_byte_len (oct x k)).1
  have h3 := h 3
  have h2 := h 2
  have h1 := h 1
  have h0 := h 0
  simp only [List.length_append, List.length_cons, List.length_nil]
  omega
section KX
variable {L : Nat} {xs : Nat → Int32} {d r c f : Nat} {D dom : List Nat} {s : mg_s} {E : ckE} {Q : Option Value → mg_s → Prop}
/-- what is expanded, and what stands for the macros -/
def isX (s : mg_s) (E : ckE) (r c f : Nat) (D dom : List Nat) : Prop := isRec s r c D ∧ isE s E ∧ f < 13 ∧ s.1 141 23 = nI (f + 1) ∧ s.2.1 155 f = nI dom.length ∧ holdA s 154 (48 * f) dom ∧ t_name (gl dom) 0 dom.length = true
theorem isX_of {s s' : mg_s} {F A : List Nat} (h : isX s E r c f D dom) (m : mfr s s' F A) (h1 : ∀ k ∈ F, k ∈ kF) (h2 : ∀ k ∈ A, k ∈ kA) (h23 : 23 ∉ F) (h3 : ∀ k ∈ [144, 145, 146, 154, 155], k ∉ A) : isX s' E r c f D dom :=
  ⟨isRec_of h.1 (m.2.2.1 144 (h3 144 (by decide))) (m.2.2.1 145 (h3 145 (by decide))) (m.2.2.1 146 (h3 146 (by decide))), isE_of h.2.1 m h1 h2, h.2.2.1, (m.2.1 23 h23).trans h.2.2.2.1, (congrFun (m.2.2.1 155 (h3 155 (by decide))) _).trans h.2.2.2.2.1, m.hold (h3 154 (by decide)) h.2.2.2.2.2.1, h.2.2.2.2.2.2⟩
theorem md_fetch {i : Nat} (hX : isX s E r c f D dom) (hl : gl D (i + 2) = 100 ∨ gl D (i + 2) = 105 ∨ gl D (i + 2) = 111) : ca L xs (d + 2) 143 [.ref 141, .int (nI (gl D (i + 2)))] s (fun v s' => v = none ∧ mfr s s' [22] [153] ∧ s'.1 141 22 = nI (x_src (gl D) i dom E.2.2.1 E.2.2.2).length ∧ holdA s' 153 0 (x_src (gl D) i dom E.2.2.1 E.2.2.2)) := by
  obtain ⟨hR, hE, hf, h23, h55, hdm, hN⟩ := hX
  have hl1 := t_name_len hN
  have hl2 := t_name_len hE.2.2.2.2.1
  unfold x_src
  rcases hl with e | e | e
  · rw [if_pos e, e]
    exact ca_mono (md_fetchd (d := d + 1) (l := dom) hf (by omega) h23 h55 hdm) (fun v s' h => h)
  · rw [if_neg (by omega), if_pos e, e, hE.2.2.2.2.2]
    exact md_fetchi hf h23 hE.2.1
  · rw [if_neg (by omega), if_neg (by omega), e]
    exact ca_mono (md_fetcho (d := d + 1) (l := E.2.2.2) hf (by omega) h23 hE.2.2.1 hE.2.2.2.1) (fun v s' h => h)
theorem src_ok {i : Nat} (hX : isX s E r c f D dom) : (x_src (gl D) i dom E.2.2.1 E.2.2.2).length ≤ 48 ∧ ((x_src (gl D) i dom E.2.2.1 E.2.2.2).length ≤ 47 ∨ ¬ gl (x_src (gl D) i dom E.2.2.1 E.2.2.2) 0 = 46) := by
  obtain ⟨hR, hE, hf, h23, h55, hdm, hN⟩ := hX
  have hl1 := t_name_len hN
  have hl2 := t_name_len hE.2.2.2.2.1
  have ha := adr_len E.2.1
  unfold x_src
  split
  · exact ⟨by omega, Or.inr (name_0 hN)⟩
  · split
    · rw [hE.2.2.2.2.2]; exact ⟨by omega, Or.inl (by omega)⟩
    · exact ⟨by omega, Or.inr (name_0 hE.2.2.2.2.1)⟩
theorem dig_iff (x : Nat) : (48 ≤ x ∧ x ≤ 57 ∧ bI (c_dig x) = 1) ∨ (¬ (48 ≤ x ∧ x ≤ 57) ∧ bI (c_dig x) = 0) := by
  unfold c_dig
  by_cases h1 : 48 ≤ x
  · by_cases h2 : x ≤ 57
    · left; refine ⟨h1, h2, ?_⟩; simp [h1, h2, bI]
    · right; refine ⟨by omega, ?_⟩; simp [h2, bI]
  · right; refine ⟨by omega, ?_⟩; simp [h1, bI]
theorem pk_sub2e {a b : Nat} (h : a = b + 2) : nI a - 2 = nI b := by
  subst h
  have h2 : (2 : Int32) = nI 2 := rfl
  rw [h2, pk_sub (by omega), Nat.add_sub_cancel]
theorem md_ex_l {j k0 : Nat} (hj : j ≤ D.length) : ∀ (m i : Nat) (B : List Nat) (s : mg_s) (c6 c7 c8 c9 : Option Value), j ≤ i + m → i ≤ j → f_tgt (gl D) j m i = true → isX s E r c f D dom → s.1 141 17 = nI B.length → holdA s 151 0 B → B.length + 12 * (j - i) ≤ 1500 → (∀ s' c6 c7 c8 c9, mfr s s' [17, 19, 22] [151, 152, 153] → s'.1 141 17 = nI (B ++ f_exp (gl D) j dom E.2.2.1 E.2.2.2 m i).length → holdA s' 151 0 (B ++ f_exp (gl D) j dom E.2.2.1 E.2.2.2 m i) → (B ++ f_exp (gl D) j dom E.2.2.1 E.2.2.2 m i).length ≤ 1500 → wp L xs (d + 2) 141 185 [some (.ref 141), some (.int (nI r)), some (.int (nI k0)), some (.int (nI (c + j))), some (.int (nI (c + j))), some (.int (nI (100 * r))), c6, c7, c8, c9] [] s' Q) → wp L xs (d + 2) 141 14 [some (.ref 141), some (.int (nI r)), some (.int (nI k0)), some (.int (nI (c + j))), some (.int (nI (c + i))), some (.int (nI (100 * r))), c6, c7, c8, c9] [] s Q := by
  intro m
  induction m with
  | zero =>
    intro i B s c6 c7 c8 c9 hm hi ht hX h17 hB hcap kk
    have hR := hX.1
    have hr16 := hR.1
    have hcl := hR.2.2.1
    have hij : i = j := by omega
    subst hij
    refine wg_iload (d141_14 L xs) rfl ?_
    refine wg_iload_n (d141_16 L xs) rfl ?_
    refine wn_icmp_ge (d141_17 L xs) (x := c + i) (y := c + i) (by omega) (by omega) (t := 185) (by decide) (fun h1 => ?_) (fun h1 => by omega)
    rw [f_exp, List.append_nil] at kk
    exact kk s c6 c7 c8 c9 (mfr.rf s _ _) h17 hB (by omega)
  | succ m ih =>
    intro i B s c6 c7 c8 c9 hm hi ht hX h17 hB hcap kk
    have hR := hX.1
    have hr16 := hR.1
    have hc1 := hR.2.1
    have hcl := hR.2.2.1
    have hgi := rec_gl hR i
    rw [f_tgt] at ht
    rw [f_exp] at kk
    refine wg_iload (d141_14 L xs) rfl ?_
    refine wg_iload_n (d141_16 L xs) rfl ?_
    refine wn_icmp_ge (d141_17 L xs) (x := c + i) (y := c + j) (by omega) (by omega) (t := 185) (by decide) (fun h1 => ?_) (fun h1 => ?_)
    · have hij : i = j := by omega
      rw [if_neg (show ¬ i < j by omega), List.append_nil] at kk
      subst hij
      exact kk s c6 c7 c8 c9 (mfr.rf s _ _) h17 hB (by omega)
    · rw [if_pos (show i < j by omega)] at ht kk
      by_cases h37 : gl D i = 37
      · rw [if_pos h37] at ht kk
        cases hq : t_mac (gl D) i j with
        | none => rw [hq] at ht; cases ht
        | some e =>
          rw [hq] at ht kk
          dsimp only at ht kk
          have hel := t_mac_lt hq
          rcases mac_cases hq with ⟨q1, q2, q3⟩ | ⟨q1, q2, q3, hlet, q48⟩
          · refine wg_aload_n (d141_20 L xs) rfl ?_
            refine wg_get (d141_21 L xs) (kd := 1) (cj := 9) (k0 := 5) rfl (Or.inl rfl) (by decide) rfl rfl ?_
            refine wg_iload (d141_24 L xs) rfl ?_
            refine wg_iload (d141_26 L xs) rfl ?_
            refine wg_iadd (d141_28 L xs) ?_
            refine wg_top (y := (nI ((100 * r) + (c + i)))) (nI_add (100 * r) (c + i)) ?_
            refine wg_iald (d141_29 L xs) (n := 1600) (by decide) rfl (vp_in_nI (n := (100 * r) + (c + i)) (by omega) (by omega)) ?_
            refine wg_top (y := (nI (gl D i))) (by rw [nI_nat (n := (100 * r) + (c + i)) (by omega)]; exact (rec_at hR (i := i) (by omega) (by omega))) ?_
            refine wg_istore (d141_30 L xs) (ls' := [some (.ref 141), some (.int (nI r)), some (.int (nI k0)), some (.int (nI (c + j))), some (.int (nI (c + i))), some (.int (nI (100 * r))), some (.int (nI (gl D i))), c7, c8, c9]) (Nat.le_of_ble_eq_true rfl) rfl ?_
            refine wg_iload (d141_32 L xs) rfl ?_
            refine wg_bipush (d141_34 L xs) (x := 37) (by decide) ?_
            refine wn_icmp_eq (d141_36 L xs) (x := gl D i) (y := 37) (by omega) (by omega) (t := 51) (by decide) (fun h21 => ?_) (fun h21 => by omega)
            refine wg_aload_n (d141_51 L xs) rfl ?_
            refine wg_get (d141_52 L xs) (kd := 1) (cj := 9) (k0 := 5) rfl (Or.inl rfl) (by decide) rfl rfl ?_
            refine wg_iload (d141_55 L xs) rfl ?_
            refine wg_iload (d141_57 L xs) rfl ?_
            refine wg_iadd (d141_59 L xs) ?_
            refine wg_top (y := (nI ((100 * r) + (c + i)))) (nI_add (100 * r) (c + i)) ?_
            refine wg_iconst (d141_60 L xs) (x := 1) (by decide) ?_
            refine wg_iadd (d141_61 L xs) ?_
            refine wg_top (y := (nI (((100 * r) + (c + i)) + 1))) (nI_add ((100 * r) + (c + i)) 1) ?_
            refine wg_iald (d141_62 L xs) (n := 1600) (by decide) rfl (vp_in_nI (n := ((100 * r) + (c + i)) + 1) (by omega) (by omega)) ?_
            refine wg_top (y := (nI (gl D (i + 1)))) (by rw [nI_nat (n := ((100 * r) + (c + i)) + 1) (by omega)]; exact (rec_at hR (i := i + 1) (by omega) (by omega))) ?_
            refine wg_bipush (d141_63 L xs) (x := 37) (by decide) ?_
            refine wn_icmp_ne (d141_65 L xs) (x := gl D (i + 1)) (y := 37) (by omega) (by omega) (t := 80) (by decide) (fun h22 => by omega) (fun h22 => ?_)
            refine wg_aload_n (d141_68 L xs) rfl ?_
            refine wg_bipush (d141_69 L xs) (x := 37) (by decide) ?_
            refine wg_invv (d141_71 L xs) (kd := 7) (mj := 142) (n := 1) rfl (Or.inl rfl) (ys := [.int 37]) (r := []) rfl rfl (by decide) rfl rfl (Nat.le_of_ble_eq_true rfl) (md_put (c := 37) (by omega) (by omega) h17 hB) ?_
            rintro _ s1 ⟨rfl, m1, b17, bB⟩
            refine wg_iinc (d141_74 L xs) (y := (nI (c + i + 2))) (ls' := [some (.ref 141), some (.int (nI r)), some (.int (nI k0)), some (.int (nI (c + j))), some (.int (nI (c + i + 2))), some (.int (nI (100 * r))), some (.int (nI (gl D i))), c7, c8, c9]) rfl (nI_add (c + i) 2) rfl ?_
            refine wg_goto (d141_77 L xs) (t := 182) (by decide) ?_
            refine wg_goto (d141_182 L xs) (t := 14) (by decide) ?_
            rw [if_neg (show ¬ i + 1 < e by omega)] at kk
            have e0 : B ++ 37 :: f_exp (gl D) j dom E.2.2.1 E.2.2.2 m (e + 1) = (B ++ [37]) ++ f_exp (gl D) j dom E.2.2.1 E.2.2.2 m (e + 1) := by rw [List.append_assoc]; rfl
            rw [e0] at kk
            subst q2
            exact ih (i + 1 + 1) (B ++ [37]) s1 _ _ _ _ (by omega) (by omega) ht (isX_of hX m1 (by decide) (by decide) (by decide) (by decide)) b17 bB (by rw [len_app1]; omega) (fun s' c6 c7 c8 c9 m2 => kk s' c6 c7 c8 c9 ((m1.more (by decide) (by decide)).trans m2))
          · have hso := src_ok (i := i) hX
            have hg3 := rec_gl hR (i + 3)
            have hge := rec_gl hR (e - 1)
            rw [if_pos (show i + 1 < e by omega), mac_pp q48] at kk
            refine wg_aload_n (d141_20 L xs) rfl ?_
            refine wg_get (d141_21 L xs) (kd := 1) (cj := 9) (k0 := 5) rfl (Or.inl rfl) (by decide) rfl rfl ?_
            refine wg_iload (d141_24 L xs) rfl ?_
            refine wg_iload (d141_26 L xs) rfl ?_
            refine wg_iadd (d141_28 L xs) ?_
            refine wg_top (y := (nI ((100 * r) + (c + i)))) (nI_add (100 * r) (c + i)) ?_
            refine wg_iald (d141_29 L xs) (n := 1600) (by decide) rfl (vp_in_nI (n := (100 * r) + (c + i)) (by omega) (by omega)) ?_
            refine wg_top (y := (nI (gl D i))) (by rw [nI_nat (n := (100 * r) + (c + i)) (by omega)]; exact (rec_at hR (i := i) (by omega) (by omega))) ?_
            refine wg_istore (d141_30 L xs) (ls' := [some (.ref 141), some (.int (nI r)), some (.int (nI k0)), some (.int (nI (c + j))), some (.int (nI (c + i))), some (.int (nI (100 * r))), some (.int (nI (gl D i))), c7, c8, c9]) (Nat.le_of_ble_eq_true rfl) rfl ?_
            refine wg_iload (d141_32 L xs) rfl ?_
            refine wg_bipush (d141_34 L xs) (x := 37) (by decide) ?_
            refine wn_icmp_eq (d141_36 L xs) (x := gl D i) (y := 37) (by omega) (by omega) (t := 51) (by decide) (fun h21 => ?_) (fun h21 => by omega)
            refine wg_aload_n (d141_51 L xs) rfl ?_
            refine wg_get (d141_52 L xs) (kd := 1) (cj := 9) (k0 := 5) rfl (Or.inl rfl) (by decide) rfl rfl ?_
            refine wg_iload (d141_55 L xs) rfl ?_
            refine wg_iload (d141_57 L xs) rfl ?_
            refine wg_iadd (d141_59 L xs) ?_
            refine wg_top (y := (nI ((100 * r) + (c + i)))) (nI_add (100 * r) (c + i)) ?_
            refine wg_iconst (d141_60 L xs) (x := 1) (by decide) ?_
            refine wg_iadd (d141_61 L xs) ?_
            refine wg_top (y := (nI (((100 * r) + (c + i)) + 1))) (nI_add ((100 * r) + (c + i)) 1) ?_
            refine wg_iald (d141_62 L xs) (n := 1600) (by decide) rfl (vp_in_nI (n := ((100 * r) + (c + i)) + 1) (by omega) (by omega)) ?_
            refine wg_top (y := (nI (gl D (i + 1)))) (by rw [nI_nat (n := ((100 * r) + (c + i)) + 1) (by omega)]; exact (rec_at hR (i := i + 1) (by omega) (by omega))) ?_
            refine wg_bipush (d141_63 L xs) (x := 37) (by decide) ?_
            refine wn_icmp_ne (d141_65 L xs) (x := gl D (i + 1)) (y := 37) (by omega) (by omega) (t := 80) (by decide) (fun h22 => ?_) (fun h22 => by omega)
            refine wg_aload_n (d141_80 L xs) rfl ?_
            refine wg_iload_n (d141_81 L xs) rfl ?_
            refine wg_iload (d141_82 L xs) rfl ?_
            refine wg_iload_n (d141_84 L xs) rfl ?_
            refine wg_invv (d141_85 L xs) (kd := 7) (mj := 131) (n := 3) rfl (Or.inl rfl) (ys := [.int (nI (c + j)), .int (nI (c + i)), .int (nI r)]) (r := []) rfl rfl (by decide) rfl rfl (Nat.le_of_ble_eq_true rfl) (by have h := md_mac (L := L) (xs := xs) (d := d + 1) (i := i) (j := j) hR hj (by omega); rw [hq] at h; exact h) ?_
            rintro _ _ ⟨rfl, rfl⟩
            refine wg_istore (d141_88 L xs) (ls' := [some (.ref 141), some (.int (nI r)), some (.int (nI k0)), some (.int (nI (c + j))), some (.int (nI (c + i))), some (.int (nI (100 * r))), some (.int (nI (gl D i))), some (.int (nI (c + e + 1))), c8, c9]) (Nat.le_of_ble_eq_true rfl) rfl ?_
            refine wg_aload_n (d141_90 L xs) rfl ?_
            refine wg_get (d141_91 L xs) (kd := 1) (cj := 9) (k0 := 5) rfl (Or.inl rfl) (by decide) rfl rfl ?_
            refine wg_iload (d141_94 L xs) rfl ?_
            refine wg_iload (d141_96 L xs) rfl ?_
            refine wg_iadd (d141_98 L xs) ?_
            refine wg_top (y := (nI ((100 * r) + (c + i)))) (nI_add (100 * r) (c + i)) ?_
            refine wg_iconst (d141_99 L xs) (x := 3) (by decide) ?_
            refine wg_iadd (d141_100 L xs) ?_
            refine wg_top (y := (nI (((100 * r) + (c + i)) + 3))) (nI_add ((100 * r) + (c + i)) 3) ?_
            refine wg_iald (d141_101 L xs) (n := 1600) (by decide) rfl (vp_in_nI (n := ((100 * r) + (c + i)) + 3) (by omega) (by omega)) ?_
            refine wg_top (y := (nI (gl D (i + 3)))) (by rw [nI_nat (n := ((100 * r) + (c + i)) + 3) (by omega)]; exact (rec_at hR (i := i + 3) (by omega) (by omega))) ?_
            refine wg_istore (d141_102 L xs) (ls' := [some (.ref 141), some (.int (nI r)), some (.int (nI k0)), some (.int (nI (c + j))), some (.int (nI (c + i))), some (.int (nI (100 * r))), some (.int (nI (gl D i))), some (.int (nI (c + e + 1))), some (.int (nI (gl D (i + 3)))), c9]) (Nat.le_of_ble_eq_true rfl) rfl ?_
            refine wg_aload_n (d141_104 L xs) rfl ?_
            refine wg_get (d141_105 L xs) (kd := 1) (cj := 9) (k0 := 5) rfl (Or.inl rfl) (by decide) rfl rfl ?_
            refine wg_iload (d141_108 L xs) rfl ?_
            refine wg_iload (d141_110 L xs) rfl ?_
            refine wg_iadd (d141_112 L xs) ?_
            refine wg_top (y := (nI ((100 * r) + (c + e + 1)))) (nI_add (100 * r) (c + e + 1)) ?_
            refine wg_iconst (d141_113 L xs) (x := 2) (by decide) ?_
            refine wg_isub (d141_114 L xs) ?_
            refine wg_top (y := (nI (100 * r + (c + (e - 1))))) (pk_sub2e (by omega)) ?_
            refine wg_iald (d141_115 L xs) (n := 1600) (by decide) rfl (vp_in_nI (n := 100 * r + (c + (e - 1))) (by omega) (by omega)) ?_
            refine wg_top (y := (nI (gl D (e - 1)))) (by rw [nI_nat (n := 100 * r + (c + (e - 1))) (by omega)]; exact (rec_at hR (i := (e - 1)) (by omega) (by omega))) ?_
            refine wg_bipush (d141_116 L xs) (x := 114) (by decide) ?_
            refine wn_icmp_ne (d141_118 L xs) (x := gl D (e - 1)) (y := 114) (by omega) (by omega) (t := 136) (by decide) (fun h23 => ?_) (fun h23 => ?_)
            · refine wg_iconst (d141_136 L xs) (x := 0) (by decide) ?_
              refine wg_istore (d141_137 L xs) (ls' := [some (.ref 141), some (.int (nI r)), some (.int (nI k0)), some (.int (nI (c + j))), some (.int (nI (c + i))), some (.int (nI (100 * r))), some (.int (nI (gl D i))), some (.int (nI (c + e + 1))), some (.int (nI (gl D (i + 3)))), some (.int 0)]) (Nat.le_of_ble_eq_true rfl) rfl ?_
              refine wg_aload_n (d141_139 L xs) rfl ?_
              refine wg_aload_n (d141_140 L xs) rfl ?_
              refine wg_get (d141_141 L xs) (kd := 1) (cj := 9) (k0 := 5) rfl (Or.inl rfl) (by decide) rfl rfl ?_
              refine wg_iload (d141_144 L xs) rfl ?_
              refine wg_iload (d141_146 L xs) rfl ?_
              refine wg_iadd (d141_148 L xs) ?_
              refine wg_top (y := (nI ((100 * r) + (c + i)))) (nI_add (100 * r) (c + i)) ?_
              refine wg_iconst (d141_149 L xs) (x := 2) (by decide) ?_
              refine wg_iadd (d141_150 L xs) ?_
              refine wg_top (y := (nI (((100 * r) + (c + i)) + 2))) (nI_add ((100 * r) + (c + i)) 2) ?_
              refine wg_iald (d141_151 L xs) (n := 1600) (by decide) rfl (vp_in_nI (n := ((100 * r) + (c + i)) + 2) (by omega) (by omega)) ?_
              refine wg_top (y := (nI (gl D (i + 2)))) (by rw [nI_nat (n := ((100 * r) + (c + i)) + 2) (by omega)]; exact (rec_at hR (i := i + 2) (by omega) (by omega))) ?_
              refine wg_invv (d141_152 L xs) (kd := 7) (mj := 143) (n := 1) rfl (Or.inl rfl) (ys := [.int (nI (gl D (i + 2)))]) (r := []) rfl rfl (by decide) rfl rfl (Nat.le_of_ble_eq_true rfl) (md_fetch (i := i) hX hlet) ?_
              rintro _ s1 ⟨rfl, m1, b22, bs⟩
              refine wg_aload_n (d141_155 L xs) rfl ?_
              refine wg_iload (d141_156 L xs) rfl ?_
              refine wg_invs (d141_158 L xs) (kd := 6) (mj := 112) (n := 1) rfl (Or.inl rfl) (ys := [.int (nI (gl D (i + 3)))]) (r := [.ref 141]) rfl rfl (Nat.le_of_ble_eq_true rfl) (md_dig (by omega)) ?_
              rintro _ _ ⟨rfl, rfl⟩
              have hbd := bI_lt (c_dig (gl D (i + 3)))
              have hdd := dig_iff (gl D (i + 3))
              refine wn_if_eq (d141_161 L xs) (x := bI (c_dig (gl D (i + 3)))) (by omega) (t := 172) (by decide) (fun h24 => ?_) (fun h24 => ?_)
              · refine wg_iconst (d141_172 L xs) (x := 0) (by decide) ?_
                refine wg_iload (d141_173 L xs) rfl ?_
                refine wg_invv (d141_175 L xs) (kd := 7) (mj := 145) (n := 2) rfl (Or.inl rfl) (ys := [.int 0, .int 0]) (r := []) rfl rfl (by decide) rfl rfl (Nat.le_of_ble_eq_true rfl) (md_parts (src := x_src (gl D) i dom E.2.2.1 E.2.2.2) (many := 0) (back := false) (B := B) (by omega) hso.1 hso.2 b22 bs ((m1.2.1 17 (by decide)).trans h17) (m1.hold (by decide) hB) (by omega)) ?_
                rintro _ s2 ⟨rfl, m2, b17, bB⟩
                refine wg_iload (d141_178 L xs) rfl ?_
                refine wg_istore (d141_180 L xs) (ls' := [some (.ref 141), some (.int (nI r)), some (.int (nI k0)), some (.int (nI (c + j))), some (.int (nI (c + e + 1))), some (.int (nI (100 * r))), some (.int (nI (gl D i))), some (.int (nI (c + e + 1))), some (.int (nI (gl D (i + 3)))), some (.int 0)]) (Nat.le_of_ble_eq_true rfl) rfl ?_
                refine wg_goto (d141_182 L xs) (t := 14) (by decide) ?_
                rw [if_neg (show ¬ (48 ≤ gl D (i + 3) ∧ gl D (i + 3) ≤ 57) by omega), decide_eq_false (show ¬ gl D (e - 1) = 114 from fun z => by first | omega | (rw [show e - 1 = i + 2 by omega] at z; omega))] at kk
                rw [← List.append_assoc] at kk
                have hpl := x_pp_len (src := x_src (gl D) i dom E.2.2.1 E.2.2.2) (many := 0) (back := false)
                exact ih (e + 1) _ s2 _ _ _ _ (by omega) (by omega) ht (isX_of (isX_of hX m1 (by decide) (by decide) (by decide) (by decide)) m2 (by decide) (by decide) (by decide) (by decide)) b17 bB (by rw [List.length_append]; omega) (fun s' c6 c7 c8 c9 m3 => kk s' c6 c7 c8 c9 (((m1.more (by decide) (by decide)).trans (m2.more (by decide) (by decide))).trans m3))
              · refine wg_iload (d141_164 L xs) rfl ?_
                refine wg_bipush (d141_166 L xs) (x := 48) (by decide) ?_
                refine wg_isub (d141_168 L xs) ?_
                refine wg_top (y := (nI (gl D (i + 3) - 48))) (pk_sub (a := gl D (i + 3)) (b := 48) (by omega)) ?_
                refine wg_goto (d141_169 L xs) (t := 173) (by decide) ?_
                refine wg_iload (d141_173 L xs) rfl ?_
                refine wg_invv (d141_175 L xs) (kd := 7) (mj := 145) (n := 2) rfl (Or.inl rfl) (ys := [.int 0, .int (nI (gl D (i + 3) - 48))]) (r := []) rfl rfl (by decide) rfl rfl (Nat.le_of_ble_eq_true rfl) (md_parts (src := x_src (gl D) i dom E.2.2.1 E.2.2.2) (many := gl D (i + 3) - 48) (back := false) (B := B) (by omega) hso.1 hso.2 b22 bs ((m1.2.1 17 (by decide)).trans h17) (m1.hold (by decide) hB) (by omega)) ?_
                rintro _ s2 ⟨rfl, m2, b17, bB⟩
                refine wg_iload (d141_178 L xs) rfl ?_
                refine wg_istore (d141_180 L xs) (ls' := [some (.ref 141), some (.int (nI r)), some (.int (nI k0)), some (.int (nI (c + j))), some (.int (nI (c + e + 1))), some (.int (nI (100 * r))), some (.int (nI (gl D i))), some (.int (nI (c + e + 1))), some (.int (nI (gl D (i + 3)))), some (.int 0)]) (Nat.le_of_ble_eq_true rfl) rfl ?_
                refine wg_goto (d141_182 L xs) (t := 14) (by decide) ?_
                rw [if_pos (show 48 ≤ gl D (i + 3) ∧ gl D (i + 3) ≤ 57 by omega), decide_eq_false (show ¬ gl D (e - 1) = 114 from fun z => by first | omega | (rw [show e - 1 = i + 2 by omega] at z; omega))] at kk
                rw [← List.append_assoc] at kk
                have hpl := x_pp_len (src := x_src (gl D) i dom E.2.2.1 E.2.2.2) (many := gl D (i + 3) - 48) (back := false)
                exact ih (e + 1) _ s2 _ _ _ _ (by omega) (by omega) ht (isX_of (isX_of hX m1 (by decide) (by decide) (by decide) (by decide)) m2 (by decide) (by decide) (by decide) (by decide)) b17 bB (by rw [List.length_append]; omega) (fun s' c6 c7 c8 c9 m3 => kk s' c6 c7 c8 c9 (((m1.more (by decide) (by decide)).trans (m2.more (by decide) (by decide))).trans m3))
            · refine wg_iload (d141_121 L xs) rfl ?_
              refine wg_iconst (d141_123 L xs) (x := 2) (by decide) ?_
              refine wg_isub (d141_124 L xs) ?_
              refine wg_top (y := (nI (c + (e - 1)))) (pk_sub2e (by omega)) ?_
              refine wg_iload (d141_125 L xs) rfl ?_
              refine wg_iconst (d141_127 L xs) (x := 2) (by decide) ?_
              refine wg_iadd (d141_128 L xs) ?_
              refine wg_top (y := (nI (c + i + 2))) (nI_add (c + i) 2) ?_
              refine wn_icmp_le (d141_129 L xs) (x := c + (e - 1)) (y := c + i + 2) (by omega) (by omega) (t := 136) (by decide) (fun h25 => ?_) (fun h25 => ?_)
              · refine wg_iconst (d141_136 L xs) (x := 0) (by decide) ?_
                refine wg_istore (d141_137 L xs) (ls' := [some (.ref 141), some (.int (nI r)), some (.int (nI k0)), some (.int (nI (c + j))), some (.int (nI (c + i))), some (.int (nI (100 * r))), some (.int (nI (gl D i))), some (.int (nI (c + e + 1))), some (.int (nI (gl D (i + 3)))), some (.int 0)]) (Nat.le_of_ble_eq_true rfl) rfl ?_
                refine wg_aload_n (d141_139 L xs) rfl ?_
                refine wg_aload_n (d141_140 L xs) rfl ?_
                refine wg_get (d141_141 L xs) (kd := 1) (cj := 9) (k0 := 5) rfl (Or.inl rfl) (by decide) rfl rfl ?_
                refine wg_iload (d141_144 L xs) rfl ?_
                refine wg_iload (d141_146 L xs) rfl ?_
                refine wg_iadd (d141_148 L xs) ?_
                refine wg_top (y := (nI ((100 * r) + (c + i)))) (nI_add (100 * r) (c + i)) ?_
                refine wg_iconst (d141_149 L xs) (x := 2) (by decide) ?_
                refine wg_iadd (d141_150 L xs) ?_
                refine wg_top (y := (nI (((100 * r) + (c + i)) + 2))) (nI_add ((100 * r) + (c + i)) 2) ?_
                refine wg_iald (d141_151 L xs) (n := 1600) (by decide) rfl (vp_in_nI (n := ((100 * r) + (c + i)) + 2) (by omega) (by omega)) ?_
                refine wg_top (y := (nI (gl D (i + 2)))) (by rw [nI_nat (n := ((100 * r) + (c + i)) + 2) (by omega)]; exact (rec_at hR (i := i + 2) (by omega) (by omega))) ?_
                refine wg_invv (d141_152 L xs) (kd := 7) (mj := 143) (n := 1) rfl (Or.inl rfl) (ys := [.int (nI (gl D (i + 2)))]) (r := []) rfl rfl (by decide) rfl rfl (Nat.le_of_ble_eq_true rfl) (md_fetch (i := i) hX hlet) ?_
                rintro _ s1 ⟨rfl, m1, b22, bs⟩
                refine wg_aload_n (d141_155 L xs) rfl ?_
                refine wg_iload (d141_156 L xs) rfl ?_
                refine wg_invs (d141_158 L xs) (kd := 6) (mj := 112) (n := 1) rfl (Or.inl rfl) (ys := [.int (nI (gl D (i + 3)))]) (r := [.ref 141]) rfl rfl (Nat.le_of_ble_eq_true rfl) (md_dig (by omega)) ?_
                rintro _ _ ⟨rfl, rfl⟩
                have hbd := bI_lt (c_dig (gl D (i + 3)))
                have hdd := dig_iff (gl D (i + 3))
                refine wn_if_eq (d141_161 L xs) (x := bI (c_dig (gl D (i + 3)))) (by omega) (t := 172) (by decide) (fun h26 => ?_) (fun h26 => ?_)
                · refine wg_iconst (d141_172 L xs) (x := 0) (by decide) ?_
                  refine wg_iload (d141_173 L xs) rfl ?_
                  refine wg_invv (d141_175 L xs) (kd := 7) (mj := 145) (n := 2) rfl (Or.inl rfl) (ys := [.int 0, .int 0]) (r := []) rfl rfl (by decide) rfl rfl (Nat.le_of_ble_eq_true rfl) (md_parts (src := x_src (gl D) i dom E.2.2.1 E.2.2.2) (many := 0) (back := false) (B := B) (by omega) hso.1 hso.2 b22 bs ((m1.2.1 17 (by decide)).trans h17) (m1.hold (by decide) hB) (by omega)) ?_
                  rintro _ s2 ⟨rfl, m2, b17, bB⟩
                  refine wg_iload (d141_178 L xs) rfl ?_
                  refine wg_istore (d141_180 L xs) (ls' := [some (.ref 141), some (.int (nI r)), some (.int (nI k0)), some (.int (nI (c + j))), some (.int (nI (c + e + 1))), some (.int (nI (100 * r))), some (.int (nI (gl D i))), some (.int (nI (c + e + 1))), some (.int (nI (gl D (i + 3)))), some (.int 0)]) (Nat.le_of_ble_eq_true rfl) rfl ?_
                  refine wg_goto (d141_182 L xs) (t := 14) (by decide) ?_
                  rw [if_neg (show ¬ (48 ≤ gl D (i + 3) ∧ gl D (i + 3) ≤ 57) by omega), decide_eq_false (show ¬ gl D (e - 1) = 114 from fun z => by first | omega | (rw [show e - 1 = i + 2 by omega] at z; omega))] at kk
                  rw [← List.append_assoc] at kk
                  have hpl := x_pp_len (src := x_src (gl D) i dom E.2.2.1 E.2.2.2) (many := 0) (back := false)
                  exact ih (e + 1) _ s2 _ _ _ _ (by omega) (by omega) ht (isX_of (isX_of hX m1 (by decide) (by decide) (by decide) (by decide)) m2 (by decide) (by decide) (by decide) (by decide)) b17 bB (by rw [List.length_append]; omega) (fun s' c6 c7 c8 c9 m3 => kk s' c6 c7 c8 c9 (((m1.more (by decide) (by decide)).trans (m2.more (by decide) (by decide))).trans m3))
                · refine wg_iload (d141_164 L xs) rfl ?_
                  refine wg_bipush (d141_166 L xs) (x := 48) (by decide) ?_
                  refine wg_isub (d141_168 L xs) ?_
                  refine wg_top (y := (nI (gl D (i + 3) - 48))) (pk_sub (a := gl D (i + 3)) (b := 48) (by omega)) ?_
                  refine wg_goto (d141_169 L xs) (t := 173) (by decide) ?_
                  refine wg_iload (d141_173 L xs) rfl ?_
                  refine wg_invv (d141_175 L xs) (kd := 7) (mj := 145) (n := 2) rfl (Or.inl rfl) (ys := [.int 0, .int (nI (gl D (i + 3) - 48))]) (r := []) rfl rfl (by decide) rfl rfl (Nat.le_of_ble_eq_true rfl) (md_parts (src := x_src (gl D) i dom E.2.2.1 E.2.2.2) (many := gl D (i + 3) - 48) (back := false) (B := B) (by omega) hso.1 hso.2 b22 bs ((m1.2.1 17 (by decide)).trans h17) (m1.hold (by decide) hB) (by omega)) ?_
                  rintro _ s2 ⟨rfl, m2, b17, bB⟩
                  refine wg_iload (d141_178 L xs) rfl ?_
                  refine wg_istore (d141_180 L xs) (ls' := [some (.ref 141), some (.int (nI r)), some (.int (nI k0)), some (.int (nI (c + j))), some (.int (nI (c + e + 1))), some (.int (nI (100 * r))), some (.int (nI (gl D i))), some (.int (nI (c + e + 1))), some (.int (nI (gl D (i + 3)))), some (.int 0)]) (Nat.le_of_ble_eq_true rfl) rfl ?_
                  refine wg_goto (d141_182 L xs) (t := 14) (by decide) ?_
                  rw [if_pos (show 48 ≤ gl D (i + 3) ∧ gl D (i + 3) ≤ 57 by omega), decide_eq_false (show ¬ gl D (e - 1) = 114 from fun z => by first | omega | (rw [show e - 1 = i + 2 by omega] at z; omega))] at kk
                  rw [← List.append_assoc] at kk
                  have hpl := x_pp_len (src := x_src (gl D) i dom E.2.2.1 E.2.2.2) (many := gl D (i + 3) - 48) (back := false)
                  exact ih (e + 1) _ s2 _ _ _ _ (by omega) (by omega) ht (isX_of (isX_of hX m1 (by decide) (by decide) (by decide) (by decide)) m2 (by decide) (by decide) (by decide) (by decide)) b17 bB (by rw [List.length_append]; omega) (fun s' c6 c7 c8 c9 m3 => kk s' c6 c7 c8 c9 (((m1.more (by decide) (by decide)).trans (m2.more (by decide) (by decide))).trans m3))
              · refine wg_iconst (d141_132 L xs) (x := 1) (by decide) ?_
                refine wg_goto (d141_133 L xs) (t := 137) (by decide) ?_
                refine wg_istore (d141_137 L xs) (ls' := [some (.ref 141), some (.int (nI r)), some (.int (nI k0)), some (.int (nI (c + j))), some (.int (nI (c + i))), some (.int (nI (100 * r))), some (.int (nI (gl D i))), some (.int (nI (c + e + 1))), some (.int (nI (gl D (i + 3)))), some (.int 1)]) (Nat.le_of_ble_eq_true rfl) rfl ?_
                refine wg_aload_n (d141_139 L xs) rfl ?_
                refine wg_aload_n (d141_140 L xs) rfl ?_
                refine wg_get (d141_141 L xs) (kd := 1) (cj := 9) (k0 := 5) rfl (Or.inl rfl) (by decide) rfl rfl ?_
                refine wg_iload (d141_144 L xs) rfl ?_
                refine wg_iload (d141_146 L xs) rfl ?_
                refine wg_iadd (d141_148 L xs) ?_
                refine wg_top (y := (nI ((100 * r) + (c + i)))) (nI_add (100 * r) (c + i)) ?_
                refine wg_iconst (d141_149 L xs) (x := 2) (by decide) ?_
                refine wg_iadd (d141_150 L xs) ?_
                refine wg_top (y := (nI (((100 * r) + (c + i)) + 2))) (nI_add ((100 * r) + (c + i)) 2) ?_
                refine wg_iald (d141_151 L xs) (n := 1600) (by decide) rfl (vp_in_nI (n := ((100 * r) + (c + i)) + 2) (by omega) (by omega)) ?_
                refine wg_top (y := (nI (gl D (i + 2)))) (by rw [nI_nat (n := ((100 * r) + (c + i)) + 2) (by omega)]; exact (rec_at hR (i := i + 2) (by omega) (by omega))) ?_
                refine wg_invv (d141_152 L xs) (kd := 7) (mj := 143) (n := 1) rfl (Or.inl rfl) (ys := [.int (nI (gl D (i + 2)))]) (r := []) rfl rfl (by decide) rfl rfl (Nat.le_of_ble_eq_true rfl) (md_fetch (i := i) hX hlet) ?_
                rintro _ s1 ⟨rfl, m1, b22, bs⟩
                refine wg_aload_n (d141_155 L xs) rfl ?_
                refine wg_iload (d141_156 L xs) rfl ?_
                refine wg_invs (d141_158 L xs) (kd := 6) (mj := 112) (n := 1) rfl (Or.inl rfl) (ys := [.int (nI (gl D (i + 3)))]) (r := [.ref 141]) rfl rfl (Nat.le_of_ble_eq_true rfl) (md_dig (by omega)) ?_
                rintro _ _ ⟨rfl, rfl⟩
                have hbd := bI_lt (c_dig (gl D (i + 3)))
                have hdd := dig_iff (gl D (i + 3))
                refine wn_if_eq (d141_161 L xs) (x := bI (c_dig (gl D (i + 3)))) (by omega) (t := 172) (by decide) (fun h27 => ?_) (fun h27 => ?_)
                · refine wg_iconst (d141_172 L xs) (x := 0) (by decide) ?_
                  refine wg_iload (d141_173 L xs) rfl ?_
                  refine wg_invv (d141_175 L xs) (kd := 7) (mj := 145) (n := 2) rfl (Or.inl rfl) (ys := [.int 1, .int 0]) (r := []) rfl rfl (by decide) rfl rfl (Nat.le_of_ble_eq_true rfl) (md_parts (src := x_src (gl D) i dom E.2.2.1 E.2.2.2) (many := 0) (back := true) (B := B) (by omega) hso.1 hso.2 b22 bs ((m1.2.1 17 (by decide)).trans h17) (m1.hold (by decide) hB) (by omega)) ?_
                  rintro _ s2 ⟨rfl, m2, b17, bB⟩
                  refine wg_iload (d141_178 L xs) rfl ?_
                  refine wg_istore (d141_180 L xs) (ls' := [some (.ref 141), some (.int (nI r)), some (.int (nI k0)), some (.int (nI (c + j))), some (.int (nI (c + e + 1))), some (.int (nI (100 * r))), some (.int (nI (gl D i))), some (.int (nI (c + e + 1))), some (.int (nI (gl D (i + 3)))), some (.int 1)]) (Nat.le_of_ble_eq_true rfl) rfl ?_
                  refine wg_goto (d141_182 L xs) (t := 14) (by decide) ?_
                  rw [if_neg (show ¬ (48 ≤ gl D (i + 3) ∧ gl D (i + 3) ≤ 57) by omega), decide_eq_true (show gl D (e - 1) = 114 by omega)] at kk
                  rw [← List.append_assoc] at kk
                  have hpl := x_pp_len (src := x_src (gl D) i dom E.2.2.1 E.2.2.2) (many := 0) (back := true)
                  exact ih (e + 1) _ s2 _ _ _ _ (by omega) (by omega) ht (isX_of (isX_of hX m1 (by decide) (by decide) (by decide) (by decide)) m2 (by decide) (by decide) (by decide) (by decide)) b17 bB (by rw [List.length_append]; omega) (fun s' c6 c7 c8 c9 m3 => kk s' c6 c7 c8 c9 (((m1.more (by decide) (by decide)).trans (m2.more (by decide) (by decide))).trans m3))
                · refine wg_iload (d141_164 L xs) rfl ?_
                  refine wg_bipush (d141_166 L xs) (x := 48) (by decide) ?_
                  refine wg_isub (d141_168 L xs) ?_
                  refine wg_top (y := (nI (gl D (i + 3) - 48))) (pk_sub (a := gl D (i + 3)) (b := 48) (by omega)) ?_
                  refine wg_goto (d141_169 L xs) (t := 173) (by decide) ?_
                  refine wg_iload (d141_173 L xs) rfl ?_
                  refine wg_invv (d141_175 L xs) (kd := 7) (mj := 145) (n := 2) rfl (Or.inl rfl) (ys := [.int 1, .int (nI (gl D (i + 3) - 48))]) (r := []) rfl rfl (by decide) rfl rfl (Nat.le_of_ble_eq_true rfl) (md_parts (src := x_src (gl D) i dom E.2.2.1 E.2.2.2) (many := gl D (i + 3) - 48) (back := true) (B := B) (by omega) hso.1 hso.2 b22 bs ((m1.2.1 17 (by decide)).trans h17) (m1.hold (by decide) hB) (by omega)) ?_
                  rintro _ s2 ⟨rfl, m2, b17, bB⟩
                  refine wg_iload (d141_178 L xs) rfl ?_
                  refine wg_istore (d141_180 L xs) (ls' := [some (.ref 141), some (.int (nI r)), some (.int (nI k0)), some (.int (nI (c + j))), some (.int (nI (c + e + 1))), some (.int (nI (100 * r))), some (.int (nI (gl D i))), some (.int (nI (c + e + 1))), some (.int (nI (gl D (i + 3)))), some (.int 1)]) (Nat.le_of_ble_eq_true rfl) rfl ?_
                  refine wg_goto (d141_182 L xs) (t := 14) (by decide) ?_
                  rw [if_pos (show 48 ≤ gl D (i + 3) ∧ gl D (i + 3) ≤ 57 by omega), decide_eq_true (show gl D (e - 1) = 114 by omega)] at kk
                  rw [← List.append_assoc] at kk
                  have hpl := x_pp_len (src := x_src (gl D) i dom E.2.2.1 E.2.2.2) (many := gl D (i + 3) - 48) (back := true)
                  exact ih (e + 1) _ s2 _ _ _ _ (by omega) (by omega) ht (isX_of (isX_of hX m1 (by decide) (by decide) (by decide) (by decide)) m2 (by decide) (by decide) (by decide) (by decide)) b17 bB (by rw [List.length_append]; omega) (fun s' c6 c7 c8 c9 m3 => kk s' c6 c7 c8 c9 (((m1.more (by decide) (by decide)).trans (m2.more (by decide) (by decide))).trans m3))
      · rw [if_neg h37] at ht kk
        refine wg_aload_n (d141_20 L xs) rfl ?_
        refine wg_get (d141_21 L xs) (kd := 1) (cj := 9) (k0 := 5) rfl (Or.inl rfl) (by decide) rfl rfl ?_
        refine wg_iload (d141_24 L xs) rfl ?_
        refine wg_iload (d141_26 L xs) rfl ?_
        refine wg_iadd (d141_28 L xs) ?_
        refine wg_top (y := (nI ((100 * r) + (c + i)))) (nI_add (100 * r) (c + i)) ?_
        refine wg_iald (d141_29 L xs) (n := 1600) (by decide) rfl (vp_in_nI (n := (100 * r) + (c + i)) (by omega) (by omega)) ?_
        refine wg_top (y := (nI (gl D i))) (by rw [nI_nat (n := (100 * r) + (c + i)) (by omega)]; exact (rec_at hR (i := i) (by omega) (by omega))) ?_
        refine wg_istore (d141_30 L xs) (ls' := [some (.ref 141), some (.int (nI r)), some (.int (nI k0)), some (.int (nI (c + j))), some (.int (nI (c + i))), some (.int (nI (100 * r))), some (.int (nI (gl D i))), c7, c8, c9]) (Nat.le_of_ble_eq_true rfl) rfl ?_
        refine wg_iload (d141_32 L xs) rfl ?_
        refine wg_bipush (d141_34 L xs) (x := 37) (by decide) ?_
        refine wn_icmp_eq (d141_36 L xs) (x := gl D i) (y := 37) (by omega) (by omega) (t := 51) (by decide) (fun h21 => by omega) (fun h21 => ?_)
        refine wg_aload_n (d141_39 L xs) rfl ?_
        refine wg_iload (d141_40 L xs) rfl ?_
        refine wg_invv (d141_42 L xs) (kd := 7) (mj := 142) (n := 1) rfl (Or.inl rfl) (ys := [.int (nI (gl D i))]) (r := []) rfl rfl (by decide) rfl rfl (Nat.le_of_ble_eq_true rfl) (md_put (c := gl D i) (by omega) (by omega) h17 hB) ?_
        rintro _ s1 ⟨rfl, m1, b17, bB⟩
        refine wg_iinc (d141_45 L xs) (y := (nI (c + i + 1))) (ls' := [some (.ref 141), some (.int (nI r)), some (.int (nI k0)), some (.int (nI (c + j))), some (.int (nI (c + i + 1))), some (.int (nI (100 * r))), some (.int (nI (gl D i))), c7, c8, c9]) rfl (nI_add (c + i) 1) rfl ?_
        refine wg_goto (d141_48 L xs) (t := 182) (by decide) ?_
        refine wg_goto (d141_182 L xs) (t := 14) (by decide) ?_
        have e0 : B ++ gl D i :: f_exp (gl D) j dom E.2.2.1 E.2.2.2 m (i + 1) = (B ++ [gl D i]) ++ f_exp (gl D) j dom E.2.2.1 E.2.2.2 m (i + 1) := by rw [List.append_assoc]; rfl
        rw [e0] at kk
        exact ih (i + 1) (B ++ [gl D i]) s1 _ _ _ _ (by omega) (by omega) ht (isX_of hX m1 (by decide) (by decide) (by decide) (by decide)) b17 bB (by rw [len_app1]; omega) (fun s' c6 c7 c8 c9 m2 => kk s' c6 c7 c8 c9 ((m1.more (by decide) (by decide)).trans m2))
theorem md_ex_c {l : List Nat} {r k0 k1 k2 k3 gd : Nat} {c8 c9 : Option Value} (hcap : l.length ≤ 48) : ∀ (q k : Nat) (s : mg_s), k + q = l.length → s.1 141 10 = nI l.length → holdA s 151 0 l → (∀ j, j < k → s.2.1 148 (0 + j) = nI (gl l j)) → (∀ s', mfr s s' [] [148] → holdA s' 148 0 l → (∀ j, j < 0 ∨ 0 + l.length ≤ j → s'.2.1 148 j = s.2.1 148 j) → wp L xs (d + 2) 141 248 [some (.ref 141), some (.int (nI r)), some (.int (nI k0)), some (.int (nI k1)), some (.int (nI k2)), some (.int (nI k3)), some (.int (nI gd)), some (.int (nI l.length)), c8, c9] [] s' Q) → wp L xs (d + 2) 141 219 [some (.ref 141), some (.int (nI r)), some (.int (nI k0)), some (.int (nI k1)), some (.int (nI k2)), some (.int (nI k3)), some (.int (nI gd)), some (.int (nI k)), c8, c9] [] s Q := by
  intro q
  induction q with
  | zero =>
    intro k s hk h10 hsrc hdst kk
    have hk0 : k = l.length := by omega
    subst hk0
    refine wg_iload (d141_219 L xs) rfl ?_
    refine wg_aload_n (d141_221 L xs) rfl ?_
    refine wg_get (d141_222 L xs) (kd := 1) (cj := 9) (k0 := 10) rfl (Or.inl rfl) (by decide) rfl rfl ?_
    refine wg_top (y := (nI l.length)) h10 ?_
    refine wn_icmp_ge (d141_225 L xs) (x := l.length) (y := l.length) (by omega) (by omega) (t := 248) (by decide) (fun h1 => ?_) (fun h1 => by omega)
    exact kk s (mfr.rf s _ _) ⟨hsrc.1, hdst⟩ (fun _ _ => rfl)
  | succ q ih =>
    intro k s hk h10 hsrc hdst kk
    have hgk := gl_lt hsrc.1 k
    refine wg_iload (d141_219 L xs) rfl ?_
    refine wg_aload_n (d141_221 L xs) rfl ?_
    refine wg_get (d141_222 L xs) (kd := 1) (cj := 9) (k0 := 10) rfl (Or.inl rfl) (by decide) rfl rfl ?_
    refine wg_top (y := (nI l.length)) h10 ?_
    refine wn_icmp_ge (d141_225 L xs) (x := k) (y := l.length) (by omega) (by omega) (t := 248) (by decide) (fun h1 => by omega) (fun h1 => ?_)
    refine wg_aload_n (d141_228 L xs) rfl ?_
    refine wg_get (d141_229 L xs) (kd := 1) (cj := 9) (k0 := 11) rfl (Or.inl rfl) (by decide) rfl rfl ?_
    refine wg_iload (d141_232 L xs) rfl ?_
    refine wg_aload_n (d141_234 L xs) rfl ?_
    refine wg_get (d141_235 L xs) (kd := 1) (cj := 9) (k0 := 18) rfl (Or.inl rfl) (by decide) rfl rfl ?_
    refine wg_iload (d141_238 L xs) rfl ?_
    refine wg_iald (d141_240 L xs) (n := 1500) (by decide) rfl (vp_in_nI (n := k) (by omega) (by omega)) ?_
    refine wg_top (y := (nI (gl l k))) (by rw [nI_nat (n := k) (by omega)]; exact ((congrArg (s.2.1 151) (show k = 0 + k by omega)).trans (hsrc.2 k (by omega)))) ?_
    refine wg_iast (d141_241 L xs) (n := 60) (by decide) rfl (vp_in_nI (n := k) (by omega) (by omega)) rfl ?_
    rw [nI_nat (n := k) (by omega)]
    refine wg_iinc (d141_242 L xs) (y := (nI (k + 1))) (ls' := [some (.ref 141), some (.int (nI r)), some (.int (nI k0)), some (.int (nI k1)), some (.int (nI k2)), some (.int (nI k3)), some (.int (nI gd)), some (.int (nI (k + 1))), c8, c9]) rfl (nI_add k 1) rfl ?_
    refine wg_goto (d141_245 L xs) (t := 219) (by decide) ?_
    refine ih (k + 1) _ (by omega) h10 (holdA_A hsrc (by decide)) (fun j hj => ?_) (fun s' m1 m2 m3 => kk s' ((mfr_A s (by decide)).trans m1) m2 (fun j hj => (m3 j hj).trans (mA_ne _ _ (Or.inr (by omega)))))
    by_cases e : j = k
    · subst e; exact (congrArg ((mg_A s 148 j (nI (gl l j))).2.1 148) (show 0 + j = j by omega)).trans (mA_at _ _ _ _)
    · exact (mA_ne _ _ (Or.inr (by omega))).trans (hdst j (by omega))
theorem md_expand {i j : Nat} (hX : isX s E r c f D dom) (hj : j ≤ D.length) (ht : t_tgt (gl D) i j = true) : ca L xs (d + 3) 141 [.ref 141, .int (nI r), .int (nI (c + i)), .int (nI (c + j))] s (fun v s' => v = some (.int (nI (bI (t_name (gl (x_w E D dom i j)) 0 (x_w E D dom i j).length)))) ∧ mfr s s' [10, 17, 19, 22] [148, 151, 152, 153] ∧ (t_name (gl (x_w E D dom i j)) 0 (x_w E D dom i j).length = true → s'.1 141 10 = nI (x_w E D dom i j).length ∧ holdA s' 148 0 (x_w E D dom i j))) := by
  refine wg_call (Nat.le_of_ble_eq_true rfl) ?_
  have hR := hX.1
  have hr16 := hR.1
  have hc1 := hR.2.1
  have hcl := hR.2.2.1
  have ht2 := Bool.and_eq_true_iff.mp ht
  have hij := of_decide_eq_true ht2.1
  show wp L xs (d + 2) 141 0 [some (.ref 141), some (.int (nI r)), some (.int (nI (c + i))), some (.int (nI (c + j))), none, none, none, none, none, none] [] s _
  refine wg_aload_n (d141_0 L xs) rfl ?_
  refine wg_iconst (d141_1 L xs) (x := 0) (by decide) ?_
  refine wg_puti (d141_2 L xs) (cj := 9) (k0 := 17) rfl (by decide) rfl (Nat.le_of_ble_eq_true rfl) rfl rfl rfl ?_
  refine wg_iload_n (d141_5 L xs) rfl ?_
  refine wg_istore (d141_6 L xs) (ls' := [some (.ref 141), some (.int (nI r)), some (.int (nI (c + i))), some (.int (nI (c + j))), some (.int (nI (c + i))), none, none, none, none, none]) (Nat.le_of_ble_eq_true rfl) rfl ?_
  refine wg_bipush (d141_8 L xs) (x := 100) (by decide) ?_
  refine wg_iload_n (d141_10 L xs) rfl ?_
  refine wg_imul (d141_11 L xs) ?_
  refine wg_top (y := (nI (100 * r))) (pk_mul 100 r) ?_
  refine wg_istore (d141_12 L xs) (ls' := [some (.ref 141), some (.int (nI r)), some (.int (nI (c + i))), some (.int (nI (c + j))), some (.int (nI (c + i))), some (.int (nI (100 * r))), none, none, none, none]) (Nat.le_of_ble_eq_true rfl) rfl ?_
  refine md_ex_l (E := E) (f := f) (dom := dom) hj (j - i) i [] _ _ _ _ _ (by omega) (by omega) ht2.2 (isX_of hX (mfr_I s (F := [17]) (A := []) (by decide)) (by decide) (by decide) (by decide) (by decide)) rfl ⟨fun x hx => absurd hx (by intro q; cases q), fun k hk => absurd hk (by show ¬ k < 0; omega)⟩ (by show 0 + 12 * (j - i) ≤ 1500; omega) (fun s1 c6 c7 c8 c9 m1 b17 bB hcap => ?_)
  rw [List.nil_append] at b17 bB hcap
  have hmm := (mfr_I s (k := 17) (x := 0) (F := [10, 17, 19, 22]) (A := [148, 151, 152, 153]) (by decide)).trans (m1.more (by decide) (by decide))
  have hxw : x_w E D dom i j = (f_exp (gl D) j dom E.2.2.1 E.2.2.2 (j - i) i).take 49 := rfl
  rw [hxw, take49]
  generalize hBB : f_exp (gl D) j dom E.2.2.1 E.2.2.2 (j - i) i = B at *
  have hg : ∀ k, k < B.length → s1.2.1 151 k = nI (gl B k) ∧ gl B k < 65536 := fun k hk => ⟨by have := bB.2 k hk; rw [Nat.zero_add] at this; exact this, Nat.lt_trans (gl_lt bB.1 k) (by decide)⟩
  cases hgd : t_name (gl B) 0 B.length with
  | false =>
    refine wg_aload_n (d141_185 L xs) rfl ?_
    refine wg_get (d141_186 L xs) (kd := 1) (cj := 9) (k0 := 18) rfl (Or.inl rfl) (by decide) rfl rfl ?_
    refine wg_iconst (d141_189 L xs) (x := 0) (by decide) ?_
    refine wg_aload_n (d141_190 L xs) rfl ?_
    refine wg_get (d141_191 L xs) (kd := 1) (cj := 9) (k0 := 17) rfl (Or.inl rfl) (by decide) rfl rfl ?_
    refine wg_top (y := (nI B.length)) b17 ?_
    refine wg_invs (d141_194 L xs) (kd := 6) (mj := 110) (n := 3) rfl (Or.inl rfl) (ys := [.int (nI B.length), .int 0, .ref 151]) (r := []) rfl rfl (Nat.le_of_ble_eq_true rfl) (by have h := md_isName (L := L) (xs := xs) (d := d) (s := s1) (q := 151) (N := 1500) (fr := 0) (to := B.length) (g := gl B) isA_all.2.2.2.2.2.2.2.2.2.1 hg hcap (by omega) (by omega); rw [hgd] at h; exact h) ?_
    rintro _ _ ⟨rfl, rfl⟩
    refine wg_istore (d141_197 L xs) (ls' := [some (.ref 141), some (.int (nI r)), some (.int (nI (c + i))), some (.int (nI (c + j))), some (.int (nI (c + j))), some (.int (nI (100 * r))), some (.int 0), c7, c8, c9]) (Nat.le_of_ble_eq_true rfl) rfl ?_
    refine wg_aload_n (d141_199 L xs) rfl ?_
    refine wg_iload (d141_200 L xs) rfl ?_
    refine wg_if_eq (d141_202 L xs) (t := 212) (by decide) (fun _ => ?_) (fun hn => absurd (by decide) hn)
    refine wg_iconst (d141_212 L xs) (x := 0) (by decide) ?_
    refine wg_puti (d141_213 L xs) (cj := 9) (k0 := 10) rfl (by decide) rfl (Nat.le_of_ble_eq_true rfl) rfl rfl rfl ?_
    refine wg_iconst (d141_216 L xs) (x := 0) (by decide) ?_
    refine wg_istore (d141_217 L xs) (ls' := [some (.ref 141), some (.int (nI r)), some (.int (nI (c + i))), some (.int (nI (c + j))), some (.int (nI (c + j))), some (.int (nI (100 * r))), some (.int 0), some (.int 0), c8, c9]) (Nat.le_of_ble_eq_true rfl) rfl ?_
    refine wg_iload (d141_219 L xs) rfl ?_
    refine wg_aload_n (d141_221 L xs) rfl ?_
    refine wg_get (d141_222 L xs) (kd := 1) (cj := 9) (k0 := 10) rfl (Or.inl rfl) (by decide) rfl rfl ?_
    refine wg_top (y := 0) rfl ?_
    refine wg_icmp_ge (d141_225 L xs) (t := 248) (by decide) (fun _ => ?_) (fun hn => absurd (by decide) hn)
    refine wg_iload (d141_248 L xs) rfl ?_
    exact wg_iret (d141_250 L xs) rfl rfl ⟨rfl, hmm.trans (mfr_I s1 (by decide)), fun z => absurd z (by decide)⟩
  | true =>
    have hbl := t_name_len hgd
    have htk : B.take 49 = B := List.take_of_length_le (by omega)
    rw [htk]
    refine wg_aload_n (d141_185 L xs) rfl ?_
    refine wg_get (d141_186 L xs) (kd := 1) (cj := 9) (k0 := 18) rfl (Or.inl rfl) (by decide) rfl rfl ?_
    refine wg_iconst (d141_189 L xs) (x := 0) (by decide) ?_
    refine wg_aload_n (d141_190 L xs) rfl ?_
    refine wg_get (d141_191 L xs) (kd := 1) (cj := 9) (k0 := 17) rfl (Or.inl rfl) (by decide) rfl rfl ?_
    refine wg_top (y := (nI B.length)) b17 ?_
    refine wg_invs (d141_194 L xs) (kd := 6) (mj := 110) (n := 3) rfl (Or.inl rfl) (ys := [.int (nI B.length), .int 0, .ref 151]) (r := []) rfl rfl (Nat.le_of_ble_eq_true rfl) (by have h := md_isName (L := L) (xs := xs) (d := d) (s := s1) (q := 151) (N := 1500) (fr := 0) (to := B.length) (g := gl B) isA_all.2.2.2.2.2.2.2.2.2.1 hg hcap (by omega) (by omega); rw [hgd] at h; exact h) ?_
    rintro _ _ ⟨rfl, rfl⟩
    refine wg_istore (d141_197 L xs) (ls' := [some (.ref 141), some (.int (nI r)), some (.int (nI (c + i))), some (.int (nI (c + j))), some (.int (nI (c + j))), some (.int (nI (100 * r))), some (.int 1), c7, c8, c9]) (Nat.le_of_ble_eq_true rfl) rfl ?_
    refine wg_aload_n (d141_199 L xs) rfl ?_
    refine wg_iload (d141_200 L xs) rfl ?_
    refine wg_if_eq (d141_202 L xs) (t := 212) (by decide) (fun hp => absurd hp (by decide)) (fun _ => ?_)
    refine wg_aload_n (d141_205 L xs) rfl ?_
    refine wg_get (d141_206 L xs) (kd := 1) (cj := 9) (k0 := 17) rfl (Or.inl rfl) (by decide) rfl rfl ?_
    refine wg_top (y := (nI B.length)) b17 ?_
    refine wg_goto (d141_209 L xs) (t := 213) (by decide) ?_
    refine wg_puti (d141_213 L xs) (cj := 9) (k0 := 10) rfl (by decide) rfl (Nat.le_of_ble_eq_true rfl) rfl rfl rfl ?_
    refine wg_iconst (d141_216 L xs) (x := 0) (by decide) ?_
    refine wg_istore (d141_217 L xs) (ls' := [some (.ref 141), some (.int (nI r)), some (.int (nI (c + i))), some (.int (nI (c + j))), some (.int (nI (c + j))), some (.int (nI (100 * r))), some (.int 1), some (.int 0), c8, c9]) (Nat.le_of_ble_eq_true rfl) rfl ?_
    refine md_ex_c (l := B) (by omega) B.length 0 _ (by omega) rfl (holdA_of bB rfl) (fun j hj => absurd hj (by omega)) (fun s2 m2 m3 m4 => ?_)
    refine wg_iload (d141_248 L xs) rfl ?_
    exact wg_iret (d141_250 L xs) rfl rfl ⟨rfl, (hmm.trans (mfr_I s1 (by decide))).trans (m2.more (by decide) (by decide)), fun _ => ⟨m2.2.1 10 (by decide), m3⟩⟩
end KX
