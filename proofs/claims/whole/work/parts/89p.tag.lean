/-! the reference: a tag -/
theorem d160_0 (L : Nat) (xs : Nat → Int32) : decode (ax_code (mgT L xs) 160) 0 = .ok (.iload_n 3, 1) := by
  show decode prog_11_method_54_code 0 = _
  decide +kernel
theorem d160_1 (L : Nat) (xs : Nat → Int32) : decode (ax_code (mgT L xs) 160) 1 = .ok (.iload_n 2, 1) := by
  show decode prog_11_method_54_code 1 = _
  decide +kernel
theorem d160_2 (L : Nat) (xs : Nat → Int32) : decode (ax_code (mgT L xs) 160) 2 = .ok (.isub, 1) := by
  show decode prog_11_method_54_code 2 = _
  decide +kernel
theorem d160_3 (L : Nat) (xs : Nat → Int32) : decode (ax_code (mgT L xs) 160) 3 = .ok (.istore 5, 2) := by
  show decode prog_11_method_54_code 3 = _
  decide +kernel
theorem d160_5 (L : Nat) (xs : Nat → Int32) : decode (ax_code (mgT L xs) 160) 5 = .ok (.iload_n 3, 1) := by
  show decode prog_11_method_54_code 5 = _
  decide +kernel
theorem d160_6 (L : Nat) (xs : Nat → Int32) : decode (ax_code (mgT L xs) 160) 6 = .ok (.iconst 1, 1) := by
  show decode prog_11_method_54_code 6 = _
  decide +kernel
theorem d160_7 (L : Nat) (xs : Nat → Int32) : decode (ax_code (mgT L xs) 160) 7 = .ok (.iadd, 1) := by
  show decode prog_11_method_54_code 7 = _
  decide +kernel
theorem d160_8 (L : Nat) (xs : Nat → Int32) : decode (ax_code (mgT L xs) 160) 8 = .ok (.istore 6, 2) := by
  show decode prog_11_method_54_code 8 = _
  decide +kernel
theorem d160_10 (L : Nat) (xs : Nat → Int32) : decode (ax_code (mgT L xs) 160) 10 = .ok (.iload 5, 2) := by
  show decode prog_11_method_54_code 10 = _
  decide +kernel
theorem d160_12 (L : Nat) (xs : Nat → Int32) : decode (ax_code (mgT L xs) 160) 12 = .ok (.iconst 1, 1) := by
  show decode prog_11_method_54_code 12 = _
  decide +kernel
theorem d160_13 (L : Nat) (xs : Nat → Int32) : decode (ax_code (mgT L xs) 160) 13 = .ok (.if_icmp .ne 54, 3) := by
  show decode prog_11_method_54_code 13 = _
  decide +kernel
theorem d160_16 (L : Nat) (xs : Nat → Int32) : decode (ax_code (mgT L xs) 160) 16 = .ok (.aload_n 0, 1) := by
  show decode prog_11_method_54_code 16 = _
  decide +kernel
theorem d160_17 (L : Nat) (xs : Nat → Int32) : decode (ax_code (mgT L xs) 160) 17 = .ok (.iload_n 1, 1) := by
  show decode prog_11_method_54_code 17 = _
  decide +kernel
theorem d160_18 (L : Nat) (xs : Nat → Int32) : decode (ax_code (mgT L xs) 160) 18 = .ok (.iload_n 2, 1) := by
  show decode prog_11_method_54_code 18 = _
  decide +kernel
theorem d160_19 (L : Nat) (xs : Nat → Int32) : decode (ax_code (mgT L xs) 160) 19 = .ok (.invokevirtual 166, 3) := by
  show decode prog_11_method_54_code 19 = _
  decide +kernel
theorem d160_22 (L : Nat) (xs : Nat → Int32) : decode (ax_code (mgT L xs) 160) 22 = .ok (.bipush 112, 2) := by
  show decode prog_11_method_54_code 22 = _
  decide +kernel
theorem d160_24 (L : Nat) (xs : Nat → Int32) : decode (ax_code (mgT L xs) 160) 24 = .ok (.if_icmp .ne 43, 3) := by
  show decode prog_11_method_54_code 24 = _
  decide +kernel
theorem d160_27 (L : Nat) (xs : Nat → Int32) : decode (ax_code (mgT L xs) 160) 27 = .ok (.aload_n 0, 1) := by
  show decode prog_11_method_54_code 27 = _
  decide +kernel
theorem d160_28 (L : Nat) (xs : Nat → Int32) : decode (ax_code (mgT L xs) 160) 28 = .ok (.aload_n 0, 1) := by
  show decode prog_11_method_54_code 28 = _
  decide +kernel
theorem d160_29 (L : Nat) (xs : Nat → Int32) : decode (ax_code (mgT L xs) 160) 29 = .ok (.getfield 286, 3) := by
  show decode prog_11_method_54_code 29 = _
  decide +kernel
theorem d160_32 (L : Nat) (xs : Nat → Int32) : decode (ax_code (mgT L xs) 160) 32 = .ok (.ifCond .ne 15, 3) := by
  show decode prog_11_method_54_code 32 = _
  decide +kernel
theorem d160_35 (L : Nat) (xs : Nat → Int32) : decode (ax_code (mgT L xs) 160) 35 = .ok (.aload_n 0, 1) := by
  show decode prog_11_method_54_code 35 = _
  decide +kernel
theorem d160_36 (L : Nat) (xs : Nat → Int32) : decode (ax_code (mgT L xs) 160) 36 = .ok (.iload_n 1, 1) := by
  show decode prog_11_method_54_code 36 = _
  decide +kernel
theorem d160_37 (L : Nat) (xs : Nat → Int32) : decode (ax_code (mgT L xs) 160) 37 = .ok (.iload 6, 2) := by
  show decode prog_11_method_54_code 37 = _
  decide +kernel
theorem d160_39 (L : Nat) (xs : Nat → Int32) : decode (ax_code (mgT L xs) 160) 39 = .ok (.iload 4, 2) := by
  show decode prog_11_method_54_code 39 = _
  decide +kernel
theorem d160_41 (L : Nat) (xs : Nat → Int32) : decode (ax_code (mgT L xs) 160) 41 = .ok (.invokevirtual 289, 3) := by
  show decode prog_11_method_54_code 41 = _
  decide +kernel
theorem d160_44 (L : Nat) (xs : Nat → Int32) : decode (ax_code (mgT L xs) 160) 44 = .ok (.goto 7, 3) := by
  show decode prog_11_method_54_code 44 = _
  decide +kernel
theorem d160_47 (L : Nat) (xs : Nat → Int32) : decode (ax_code (mgT L xs) 160) 47 = .ok (.aload_n 0, 1) := by
  show decode prog_11_method_54_code 47 = _
  decide +kernel
theorem d160_48 (L : Nat) (xs : Nat → Int32) : decode (ax_code (mgT L xs) 160) 48 = .ok (.getfield 286, 3) := by
  show decode prog_11_method_54_code 48 = _
  decide +kernel
theorem d160_51 (L : Nat) (xs : Nat → Int32) : decode (ax_code (mgT L xs) 160) 51 = .ok (.putfield 286, 3) := by
  show decode prog_11_method_54_code 51 = _
  decide +kernel
theorem d160_54 (L : Nat) (xs : Nat → Int32) : decode (ax_code (mgT L xs) 160) 54 = .ok (.aload_n 0, 1) := by
  show decode prog_11_method_54_code 54 = _
  decide +kernel
theorem d160_55 (L : Nat) (xs : Nat → Int32) : decode (ax_code (mgT L xs) 160) 55 = .ok (.getfield 286, 3) := by
  show decode prog_11_method_54_code 55 = _
  decide +kernel
theorem d160_58 (L : Nat) (xs : Nat → Int32) : decode (ax_code (mgT L xs) 160) 58 = .ok (.ifCond .le 7, 3) := by
  show decode prog_11_method_54_code 58 = _
  decide +kernel
theorem d160_61 (L : Nat) (xs : Nat → Int32) : decode (ax_code (mgT L xs) 160) 61 = .ok (.iconst 1, 1) := by
  show decode prog_11_method_54_code 61 = _
  decide +kernel
theorem d160_62 (L : Nat) (xs : Nat → Int32) : decode (ax_code (mgT L xs) 160) 62 = .ok (.goto 4, 3) := by
  show decode prog_11_method_54_code 62 = _
  decide +kernel
theorem d160_65 (L : Nat) (xs : Nat → Int32) : decode (ax_code (mgT L xs) 160) 65 = .ok (.iconst 0, 1) := by
  show decode prog_11_method_54_code 65 = _
  decide +kernel
theorem d160_66 (L : Nat) (xs : Nat → Int32) : decode (ax_code (mgT L xs) 160) 66 = .ok (.ireturn, 1) := by
  show decode prog_11_method_54_code 66 = _
  decide +kernel
theorem d160_67 (L : Nat) (xs : Nat → Int32) : decode (ax_code (mgT L xs) 160) 67 = .ok (.iload 5, 2) := by
  show decode prog_11_method_54_code 67 = _
  decide +kernel
theorem d160_69 (L : Nat) (xs : Nat → Int32) : decode (ax_code (mgT L xs) 160) 69 = .ok (.iconst 2, 1) := by
  show decode prog_11_method_54_code 69 = _
  decide +kernel
theorem d160_70 (L : Nat) (xs : Nat → Int32) : decode (ax_code (mgT L xs) 160) 70 = .ok (.if_icmp .ne 67, 3) := by
  show decode prog_11_method_54_code 70 = _
  decide +kernel
theorem d160_73 (L : Nat) (xs : Nat → Int32) : decode (ax_code (mgT L xs) 160) 73 = .ok (.aload_n 0, 1) := by
  show decode prog_11_method_54_code 73 = _
  decide +kernel
theorem d160_74 (L : Nat) (xs : Nat → Int32) : decode (ax_code (mgT L xs) 160) 74 = .ok (.iload_n 1, 1) := by
  show decode prog_11_method_54_code 74 = _
  decide +kernel
theorem d160_75 (L : Nat) (xs : Nat → Int32) : decode (ax_code (mgT L xs) 160) 75 = .ok (.iload_n 2, 1) := by
  show decode prog_11_method_54_code 75 = _
  decide +kernel
theorem d160_76 (L : Nat) (xs : Nat → Int32) : decode (ax_code (mgT L xs) 160) 76 = .ok (.invokevirtual 166, 3) := by
  show decode prog_11_method_54_code 76 = _
  decide +kernel
theorem d160_79 (L : Nat) (xs : Nat → Int32) : decode (ax_code (mgT L xs) 160) 79 = .ok (.bipush 115, 2) := by
  show decode prog_11_method_54_code 79 = _
  decide +kernel
theorem d160_81 (L : Nat) (xs : Nat → Int32) : decode (ax_code (mgT L xs) 160) 81 = .ok (.if_icmp .ne 56, 3) := by
  show decode prog_11_method_54_code 81 = _
  decide +kernel
theorem d160_84 (L : Nat) (xs : Nat → Int32) : decode (ax_code (mgT L xs) 160) 84 = .ok (.aload_n 0, 1) := by
  show decode prog_11_method_54_code 84 = _
  decide +kernel
theorem d160_85 (L : Nat) (xs : Nat → Int32) : decode (ax_code (mgT L xs) 160) 85 = .ok (.iload_n 1, 1) := by
  show decode prog_11_method_54_code 85 = _
  decide +kernel
theorem d160_86 (L : Nat) (xs : Nat → Int32) : decode (ax_code (mgT L xs) 160) 86 = .ok (.iload_n 2, 1) := by
  show decode prog_11_method_54_code 86 = _
  decide +kernel
theorem d160_87 (L : Nat) (xs : Nat → Int32) : decode (ax_code (mgT L xs) 160) 87 = .ok (.iconst 1, 1) := by
  show decode prog_11_method_54_code 87 = _
  decide +kernel
theorem d160_88 (L : Nat) (xs : Nat → Int32) : decode (ax_code (mgT L xs) 160) 88 = .ok (.iadd, 1) := by
  show decode prog_11_method_54_code 88 = _
  decide +kernel
theorem d160_89 (L : Nat) (xs : Nat → Int32) : decode (ax_code (mgT L xs) 160) 89 = .ok (.invokevirtual 166, 3) := by
  show decode prog_11_method_54_code 89 = _
  decide +kernel
theorem d160_92 (L : Nat) (xs : Nat → Int32) : decode (ax_code (mgT L xs) 160) 92 = .ok (.bipush 112, 2) := by
  show decode prog_11_method_54_code 92 = _
  decide +kernel
theorem d160_94 (L : Nat) (xs : Nat → Int32) : decode (ax_code (mgT L xs) 160) 94 = .ok (.if_icmp .ne 43, 3) := by
  show decode prog_11_method_54_code 94 = _
  decide +kernel
theorem d160_97 (L : Nat) (xs : Nat → Int32) : decode (ax_code (mgT L xs) 160) 97 = .ok (.aload_n 0, 1) := by
  show decode prog_11_method_54_code 97 = _
  decide +kernel
theorem d160_98 (L : Nat) (xs : Nat → Int32) : decode (ax_code (mgT L xs) 160) 98 = .ok (.aload_n 0, 1) := by
  show decode prog_11_method_54_code 98 = _
  decide +kernel
theorem d160_99 (L : Nat) (xs : Nat → Int32) : decode (ax_code (mgT L xs) 160) 99 = .ok (.getfield 292, 3) := by
  show decode prog_11_method_54_code 99 = _
  decide +kernel
theorem d160_102 (L : Nat) (xs : Nat → Int32) : decode (ax_code (mgT L xs) 160) 102 = .ok (.ifCond .ne 15, 3) := by
  show decode prog_11_method_54_code 102 = _
  decide +kernel
theorem d160_105 (L : Nat) (xs : Nat → Int32) : decode (ax_code (mgT L xs) 160) 105 = .ok (.aload_n 0, 1) := by
  show decode prog_11_method_54_code 105 = _
  decide +kernel
theorem d160_106 (L : Nat) (xs : Nat → Int32) : decode (ax_code (mgT L xs) 160) 106 = .ok (.iload_n 1, 1) := by
  show decode prog_11_method_54_code 106 = _
  decide +kernel
theorem d160_107 (L : Nat) (xs : Nat → Int32) : decode (ax_code (mgT L xs) 160) 107 = .ok (.iload 6, 2) := by
  show decode prog_11_method_54_code 107 = _
  decide +kernel
theorem d160_109 (L : Nat) (xs : Nat → Int32) : decode (ax_code (mgT L xs) 160) 109 = .ok (.iload 4, 2) := by
  show decode prog_11_method_54_code 109 = _
  decide +kernel
theorem d160_111 (L : Nat) (xs : Nat → Int32) : decode (ax_code (mgT L xs) 160) 111 = .ok (.invokevirtual 289, 3) := by
  show decode prog_11_method_54_code 111 = _
  decide +kernel
theorem d160_114 (L : Nat) (xs : Nat → Int32) : decode (ax_code (mgT L xs) 160) 114 = .ok (.goto 7, 3) := by
  show decode prog_11_method_54_code 114 = _
  decide +kernel
theorem d160_117 (L : Nat) (xs : Nat → Int32) : decode (ax_code (mgT L xs) 160) 117 = .ok (.aload_n 0, 1) := by
  show decode prog_11_method_54_code 117 = _
  decide +kernel
theorem d160_118 (L : Nat) (xs : Nat → Int32) : decode (ax_code (mgT L xs) 160) 118 = .ok (.getfield 292, 3) := by
  show decode prog_11_method_54_code 118 = _
  decide +kernel
theorem d160_121 (L : Nat) (xs : Nat → Int32) : decode (ax_code (mgT L xs) 160) 121 = .ok (.putfield 292, 3) := by
  show decode prog_11_method_54_code 121 = _
  decide +kernel
theorem d160_124 (L : Nat) (xs : Nat → Int32) : decode (ax_code (mgT L xs) 160) 124 = .ok (.aload_n 0, 1) := by
  show decode prog_11_method_54_code 124 = _
  decide +kernel
theorem d160_125 (L : Nat) (xs : Nat → Int32) : decode (ax_code (mgT L xs) 160) 125 = .ok (.getfield 292, 3) := by
  show decode prog_11_method_54_code 125 = _
  decide +kernel
theorem d160_128 (L : Nat) (xs : Nat → Int32) : decode (ax_code (mgT L xs) 160) 128 = .ok (.ifCond .le 7, 3) := by
  show decode prog_11_method_54_code 128 = _
  decide +kernel
theorem d160_131 (L : Nat) (xs : Nat → Int32) : decode (ax_code (mgT L xs) 160) 131 = .ok (.iconst 1, 1) := by
  show decode prog_11_method_54_code 131 = _
  decide +kernel
theorem d160_132 (L : Nat) (xs : Nat → Int32) : decode (ax_code (mgT L xs) 160) 132 = .ok (.goto 4, 3) := by
  show decode prog_11_method_54_code 132 = _
  decide +kernel
theorem d160_135 (L : Nat) (xs : Nat → Int32) : decode (ax_code (mgT L xs) 160) 135 = .ok (.iconst 0, 1) := by
  show decode prog_11_method_54_code 135 = _
  decide +kernel
theorem d160_136 (L : Nat) (xs : Nat → Int32) : decode (ax_code (mgT L xs) 160) 136 = .ok (.ireturn, 1) := by
  show decode prog_11_method_54_code 136 = _
  decide +kernel
theorem d160_137 (L : Nat) (xs : Nat → Int32) : decode (ax_code (mgT L xs) 160) 137 = .ok (.iload 5, 2) := by
  show decode prog_11_method_54_code 137 = _
  decide +kernel
theorem d160_139 (L : Nat) (xs : Nat → Int32) : decode (ax_code (mgT L xs) 160) 139 = .ok (.iconst 4, 1) := by
  show decode prog_11_method_54_code 139 = _
  decide +kernel
theorem d160_140 (L : Nat) (xs : Nat → Int32) : decode (ax_code (mgT L xs) 160) 140 = .ok (.if_icmp .ne 102, 3) := by
  show decode prog_11_method_54_code 140 = _
  decide +kernel
theorem d160_143 (L : Nat) (xs : Nat → Int32) : decode (ax_code (mgT L xs) 160) 143 = .ok (.aload_n 0, 1) := by
  show decode prog_11_method_54_code 143 = _
  decide +kernel
theorem d160_144 (L : Nat) (xs : Nat → Int32) : decode (ax_code (mgT L xs) 160) 144 = .ok (.iload_n 1, 1) := by
  show decode prog_11_method_54_code 144 = _
  decide +kernel
theorem d160_145 (L : Nat) (xs : Nat → Int32) : decode (ax_code (mgT L xs) 160) 145 = .ok (.iload_n 2, 1) := by
  show decode prog_11_method_54_code 145 = _
  decide +kernel
theorem d160_146 (L : Nat) (xs : Nat → Int32) : decode (ax_code (mgT L xs) 160) 146 = .ok (.bipush 97, 2) := by
  show decode prog_11_method_54_code 146 = _
  decide +kernel
theorem d160_148 (L : Nat) (xs : Nat → Int32) : decode (ax_code (mgT L xs) 160) 148 = .ok (.bipush 115, 2) := by
  show decode prog_11_method_54_code 148 = _
  decide +kernel
theorem d160_150 (L : Nat) (xs : Nat → Int32) : decode (ax_code (mgT L xs) 160) 150 = .ok (.bipush 112, 2) := by
  show decode prog_11_method_54_code 150 = _
  decide +kernel
theorem d160_152 (L : Nat) (xs : Nat → Int32) : decode (ax_code (mgT L xs) 160) 152 = .ok (.invokevirtual 170, 3) := by
  show decode prog_11_method_54_code 152 = _
  decide +kernel
theorem d160_155 (L : Nat) (xs : Nat → Int32) : decode (ax_code (mgT L xs) 160) 155 = .ok (.ifCond .eq 87, 3) := by
  show decode prog_11_method_54_code 155 = _
  decide +kernel
theorem d160_158 (L : Nat) (xs : Nat → Int32) : decode (ax_code (mgT L xs) 160) 158 = .ok (.aload_n 0, 1) := by
  show decode prog_11_method_54_code 158 = _
  decide +kernel
theorem d160_159 (L : Nat) (xs : Nat → Int32) : decode (ax_code (mgT L xs) 160) 159 = .ok (.iload_n 1, 1) := by
  show decode prog_11_method_54_code 159 = _
  decide +kernel
theorem d160_160 (L : Nat) (xs : Nat → Int32) : decode (ax_code (mgT L xs) 160) 160 = .ok (.iload_n 2, 1) := by
  show decode prog_11_method_54_code 160 = _
  decide +kernel
theorem d160_161 (L : Nat) (xs : Nat → Int32) : decode (ax_code (mgT L xs) 160) 161 = .ok (.iconst 3, 1) := by
  show decode prog_11_method_54_code 161 = _
  decide +kernel
theorem d160_162 (L : Nat) (xs : Nat → Int32) : decode (ax_code (mgT L xs) 160) 162 = .ok (.iadd, 1) := by
  show decode prog_11_method_54_code 162 = _
  decide +kernel
theorem d160_163 (L : Nat) (xs : Nat → Int32) : decode (ax_code (mgT L xs) 160) 163 = .ok (.invokevirtual 166, 3) := by
  show decode prog_11_method_54_code 163 = _
  decide +kernel
theorem d160_166 (L : Nat) (xs : Nat → Int32) : decode (ax_code (mgT L xs) 160) 166 = .ok (.bipush 102, 2) := by
  show decode prog_11_method_54_code 166 = _
  decide +kernel
theorem d160_168 (L : Nat) (xs : Nat → Int32) : decode (ax_code (mgT L xs) 160) 168 = .ok (.if_icmp .ne 74, 3) := by
  show decode prog_11_method_54_code 168 = _
  decide +kernel
theorem d160_171 (L : Nat) (xs : Nat → Int32) : decode (ax_code (mgT L xs) 160) 171 = .ok (.aload_n 0, 1) := by
  show decode prog_11_method_54_code 171 = _
  decide +kernel
theorem d160_172 (L : Nat) (xs : Nat → Int32) : decode (ax_code (mgT L xs) 160) 172 = .ok (.getfield 295, 3) := by
  show decode prog_11_method_54_code 172 = _
  decide +kernel
theorem d160_175 (L : Nat) (xs : Nat → Int32) : decode (ax_code (mgT L xs) 160) 175 = .ok (.ifCond .ge 53, 3) := by
  show decode prog_11_method_54_code 175 = _
  decide +kernel
theorem d160_178 (L : Nat) (xs : Nat → Int32) : decode (ax_code (mgT L xs) 160) 178 = .ok (.iload 4, 2) := by
  show decode prog_11_method_54_code 178 = _
  decide +kernel
theorem d160_180 (L : Nat) (xs : Nat → Int32) : decode (ax_code (mgT L xs) 160) 180 = .ok (.iload 6, 2) := by
  show decode prog_11_method_54_code 180 = _
  decide +kernel
theorem d160_182 (L : Nat) (xs : Nat → Int32) : decode (ax_code (mgT L xs) 160) 182 = .ok (.iconst 1, 1) := by
  show decode prog_11_method_54_code 182 = _
  decide +kernel
theorem d160_183 (L : Nat) (xs : Nat → Int32) : decode (ax_code (mgT L xs) 160) 183 = .ok (.iadd, 1) := by
  show decode prog_11_method_54_code 183 = _
  decide +kernel
theorem d160_184 (L : Nat) (xs : Nat → Int32) : decode (ax_code (mgT L xs) 160) 184 = .ok (.if_icmp .ne 13, 3) := by
  show decode prog_11_method_54_code 184 = _
  decide +kernel
theorem d160_187 (L : Nat) (xs : Nat → Int32) : decode (ax_code (mgT L xs) 160) 187 = .ok (.aload_n 0, 1) := by
  show decode prog_11_method_54_code 187 = _
  decide +kernel
theorem d160_188 (L : Nat) (xs : Nat → Int32) : decode (ax_code (mgT L xs) 160) 188 = .ok (.iload_n 1, 1) := by
  show decode prog_11_method_54_code 188 = _
  decide +kernel
theorem d160_189 (L : Nat) (xs : Nat → Int32) : decode (ax_code (mgT L xs) 160) 189 = .ok (.iload 6, 2) := by
  show decode prog_11_method_54_code 189 = _
  decide +kernel
theorem d160_191 (L : Nat) (xs : Nat → Int32) : decode (ax_code (mgT L xs) 160) 191 = .ok (.invokevirtual 166, 3) := by
  show decode prog_11_method_54_code 191 = _
  decide +kernel
theorem d160_194 (L : Nat) (xs : Nat → Int32) : decode (ax_code (mgT L xs) 160) 194 = .ok (.goto 5, 3) := by
  show decode prog_11_method_54_code 194 = _
  decide +kernel
theorem d160_197 (L : Nat) (xs : Nat → Int32) : decode (ax_code (mgT L xs) 160) 197 = .ok (.bipush 32, 2) := by
  show decode prog_11_method_54_code 197 = _
  decide +kernel
theorem d160_199 (L : Nat) (xs : Nat → Int32) : decode (ax_code (mgT L xs) 160) 199 = .ok (.istore 7, 2) := by
  show decode prog_11_method_54_code 199 = _
  decide +kernel
theorem d160_201 (L : Nat) (xs : Nat → Int32) : decode (ax_code (mgT L xs) 160) 201 = .ok (.aload_n 0, 1) := by
  show decode prog_11_method_54_code 201 = _
  decide +kernel
theorem d160_202 (L : Nat) (xs : Nat → Int32) : decode (ax_code (mgT L xs) 160) 202 = .ok (.iload 7, 2) := by
  show decode prog_11_method_54_code 202 = _
  decide +kernel
theorem d160_204 (L : Nat) (xs : Nat → Int32) : decode (ax_code (mgT L xs) 160) 204 = .ok (.bipush 115, 2) := by
  show decode prog_11_method_54_code 204 = _
  decide +kernel
theorem d160_206 (L : Nat) (xs : Nat → Int32) : decode (ax_code (mgT L xs) 160) 206 = .ok (.if_icmp .ne 7, 3) := by
  show decode prog_11_method_54_code 206 = _
  decide +kernel
theorem d160_209 (L : Nat) (xs : Nat → Int32) : decode (ax_code (mgT L xs) 160) 209 = .ok (.iconst 1, 1) := by
  show decode prog_11_method_54_code 209 = _
  decide +kernel
theorem d160_210 (L : Nat) (xs : Nat → Int32) : decode (ax_code (mgT L xs) 160) 210 = .ok (.goto 15, 3) := by
  show decode prog_11_method_54_code 210 = _
  decide +kernel
theorem d160_213 (L : Nat) (xs : Nat → Int32) : decode (ax_code (mgT L xs) 160) 213 = .ok (.iload 7, 2) := by
  show decode prog_11_method_54_code 213 = _
  decide +kernel
theorem d160_215 (L : Nat) (xs : Nat → Int32) : decode (ax_code (mgT L xs) 160) 215 = .ok (.bipush 114, 2) := by
  show decode prog_11_method_54_code 215 = _
  decide +kernel
theorem d160_217 (L : Nat) (xs : Nat → Int32) : decode (ax_code (mgT L xs) 160) 217 = .ok (.if_icmp .ne 7, 3) := by
  show decode prog_11_method_54_code 217 = _
  decide +kernel
theorem d160_220 (L : Nat) (xs : Nat → Int32) : decode (ax_code (mgT L xs) 160) 220 = .ok (.iconst 0, 1) := by
  show decode prog_11_method_54_code 220 = _
  decide +kernel
theorem d160_221 (L : Nat) (xs : Nat → Int32) : decode (ax_code (mgT L xs) 160) 221 = .ok (.goto 4, 3) := by
  show decode prog_11_method_54_code 221 = _
  decide +kernel
theorem d160_224 (L : Nat) (xs : Nat → Int32) : decode (ax_code (mgT L xs) 160) 224 = .ok (.iconst 2, 1) := by
  show decode prog_11_method_54_code 224 = _
  decide +kernel
theorem d160_225 (L : Nat) (xs : Nat → Int32) : decode (ax_code (mgT L xs) 160) 225 = .ok (.putfield 295, 3) := by
  show decode prog_11_method_54_code 225 = _
  decide +kernel
theorem d160_228 (L : Nat) (xs : Nat → Int32) : decode (ax_code (mgT L xs) 160) 228 = .ok (.aload_n 0, 1) := by
  show decode prog_11_method_54_code 228 = _
  decide +kernel
theorem d160_229 (L : Nat) (xs : Nat → Int32) : decode (ax_code (mgT L xs) 160) 229 = .ok (.getfield 295, 3) := by
  show decode prog_11_method_54_code 229 = _
  decide +kernel
theorem d160_232 (L : Nat) (xs : Nat → Int32) : decode (ax_code (mgT L xs) 160) 232 = .ok (.iconst 2, 1) := by
  show decode prog_11_method_54_code 232 = _
  decide +kernel
theorem d160_233 (L : Nat) (xs : Nat → Int32) : decode (ax_code (mgT L xs) 160) 233 = .ok (.if_icmp .ge 7, 3) := by
  show decode prog_11_method_54_code 233 = _
  decide +kernel
theorem d160_236 (L : Nat) (xs : Nat → Int32) : decode (ax_code (mgT L xs) 160) 236 = .ok (.iconst 1, 1) := by
  show decode prog_11_method_54_code 236 = _
  decide +kernel
theorem d160_237 (L : Nat) (xs : Nat → Int32) : decode (ax_code (mgT L xs) 160) 237 = .ok (.goto 4, 3) := by
  show decode prog_11_method_54_code 237 = _
  decide +kernel
theorem d160_240 (L : Nat) (xs : Nat → Int32) : decode (ax_code (mgT L xs) 160) 240 = .ok (.iconst 0, 1) := by
  show decode prog_11_method_54_code 240 = _
  decide +kernel
theorem d160_241 (L : Nat) (xs : Nat → Int32) : decode (ax_code (mgT L xs) 160) 241 = .ok (.ireturn, 1) := by
  show decode prog_11_method_54_code 241 = _
  decide +kernel
theorem d160_242 (L : Nat) (xs : Nat → Int32) : decode (ax_code (mgT L xs) 160) 242 = .ok (.iload 5, 2) := by
  show decode prog_11_method_54_code 242 = _
  decide +kernel
theorem d160_244 (L : Nat) (xs : Nat → Int32) : decode (ax_code (mgT L xs) 160) 244 = .ok (.iconst 3, 1) := by
  show decode prog_11_method_54_code 244 = _
  decide +kernel
theorem d160_245 (L : Nat) (xs : Nat → Int32) : decode (ax_code (mgT L xs) 160) 245 = .ok (.if_icmp .ne 98, 3) := by
  show decode prog_11_method_54_code 245 = _
  decide +kernel
theorem d160_248 (L : Nat) (xs : Nat → Int32) : decode (ax_code (mgT L xs) 160) 248 = .ok (.aload_n 0, 1) := by
  show decode prog_11_method_54_code 248 = _
  decide +kernel
theorem d160_249 (L : Nat) (xs : Nat → Int32) : decode (ax_code (mgT L xs) 160) 249 = .ok (.iload_n 1, 1) := by
  show decode prog_11_method_54_code 249 = _
  decide +kernel
theorem d160_250 (L : Nat) (xs : Nat → Int32) : decode (ax_code (mgT L xs) 160) 250 = .ok (.iload_n 2, 1) := by
  show decode prog_11_method_54_code 250 = _
  decide +kernel
theorem d160_251 (L : Nat) (xs : Nat → Int32) : decode (ax_code (mgT L xs) 160) 251 = .ok (.bipush 112, 2) := by
  show decode prog_11_method_54_code 251 = _
  decide +kernel
theorem d160_253 (L : Nat) (xs : Nat → Int32) : decode (ax_code (mgT L xs) 160) 253 = .ok (.bipush 99, 2) := by
  show decode prog_11_method_54_code 253 = _
  decide +kernel
theorem d160_255 (L : Nat) (xs : Nat → Int32) : decode (ax_code (mgT L xs) 160) 255 = .ok (.bipush 116, 2) := by
  show decode prog_11_method_54_code 255 = _
  decide +kernel
theorem d160_257 (L : Nat) (xs : Nat → Int32) : decode (ax_code (mgT L xs) 160) 257 = .ok (.invokevirtual 170, 3) := by
  show decode prog_11_method_54_code 257 = _
  decide +kernel
theorem d160_260 (L : Nat) (xs : Nat → Int32) : decode (ax_code (mgT L xs) 160) 260 = .ok (.ifCond .eq 83, 3) := by
  show decode prog_11_method_54_code 260 = _
  decide +kernel
theorem d160_263 (L : Nat) (xs : Nat → Int32) : decode (ax_code (mgT L xs) 160) 263 = .ok (.aload_n 0, 1) := by
  show decode prog_11_method_54_code 263 = _
  decide +kernel
theorem d160_264 (L : Nat) (xs : Nat → Int32) : decode (ax_code (mgT L xs) 160) 264 = .ok (.getfield 298, 3) := by
  show decode prog_11_method_54_code 264 = _
  decide +kernel
theorem d160_267 (L : Nat) (xs : Nat → Int32) : decode (ax_code (mgT L xs) 160) 267 = .ok (.ifCond .ge 60, 3) := by
  show decode prog_11_method_54_code 267 = _
  decide +kernel
theorem d160_270 (L : Nat) (xs : Nat → Int32) : decode (ax_code (mgT L xs) 160) 270 = .ok (.aload_n 0, 1) := by
  show decode prog_11_method_54_code 270 = _
  decide +kernel
theorem d160_271 (L : Nat) (xs : Nat → Int32) : decode (ax_code (mgT L xs) 160) 271 = .ok (.aload_n 0, 1) := by
  show decode prog_11_method_54_code 271 = _
  decide +kernel
theorem d160_272 (L : Nat) (xs : Nat → Int32) : decode (ax_code (mgT L xs) 160) 272 = .ok (.getfield 16, 3) := by
  show decode prog_11_method_54_code 272 = _
  decide +kernel
theorem d160_275 (L : Nat) (xs : Nat → Int32) : decode (ax_code (mgT L xs) 160) 275 = .ok (.bipush 100, 2) := by
  show decode prog_11_method_54_code 275 = _
  decide +kernel
theorem d160_277 (L : Nat) (xs : Nat → Int32) : decode (ax_code (mgT L xs) 160) 277 = .ok (.iload_n 1, 1) := by
  show decode prog_11_method_54_code 277 = _
  decide +kernel
theorem d160_278 (L : Nat) (xs : Nat → Int32) : decode (ax_code (mgT L xs) 160) 278 = .ok (.imul, 1) := by
  show decode prog_11_method_54_code 278 = _
  decide +kernel
theorem d160_279 (L : Nat) (xs : Nat → Int32) : decode (ax_code (mgT L xs) 160) 279 = .ok (.iload 6, 2) := by
  show decode prog_11_method_54_code 279 = _
  decide +kernel
theorem d160_281 (L : Nat) (xs : Nat → Int32) : decode (ax_code (mgT L xs) 160) 281 = .ok (.iadd, 1) := by
  show decode prog_11_method_54_code 281 = _
  decide +kernel
theorem d160_282 (L : Nat) (xs : Nat → Int32) : decode (ax_code (mgT L xs) 160) 282 = .ok (.bipush 100, 2) := by
  show decode prog_11_method_54_code 282 = _
  decide +kernel
theorem d160_284 (L : Nat) (xs : Nat → Int32) : decode (ax_code (mgT L xs) 160) 284 = .ok (.iload_n 1, 1) := by
  show decode prog_11_method_54_code 284 = _
  decide +kernel
theorem d160_285 (L : Nat) (xs : Nat → Int32) : decode (ax_code (mgT L xs) 160) 285 = .ok (.imul, 1) := by
  show decode prog_11_method_54_code 285 = _
  decide +kernel
theorem d160_286 (L : Nat) (xs : Nat → Int32) : decode (ax_code (mgT L xs) 160) 286 = .ok (.iload 4, 2) := by
  show decode prog_11_method_54_code 286 = _
  decide +kernel
theorem d160_288 (L : Nat) (xs : Nat → Int32) : decode (ax_code (mgT L xs) 160) 288 = .ok (.iadd, 1) := by
  show decode prog_11_method_54_code 288 = _
  decide +kernel
theorem d160_289 (L : Nat) (xs : Nat → Int32) : decode (ax_code (mgT L xs) 160) 289 = .ok (.bipush 100, 2) := by
  show decode prog_11_method_54_code 289 = _
  decide +kernel
theorem d160_291 (L : Nat) (xs : Nat → Int32) : decode (ax_code (mgT L xs) 160) 291 = .ok (.invokevirtual 99, 3) := by
  show decode prog_11_method_54_code 291 = _
  decide +kernel
theorem d160_294 (L : Nat) (xs : Nat → Int32) : decode (ax_code (mgT L xs) 160) 294 = .ok (.istore 7, 2) := by
  show decode prog_11_method_54_code 294 = _
  decide +kernel
theorem d160_296 (L : Nat) (xs : Nat → Int32) : decode (ax_code (mgT L xs) 160) 296 = .ok (.aload_n 0, 1) := by
  show decode prog_11_method_54_code 296 = _
  decide +kernel
theorem d160_297 (L : Nat) (xs : Nat → Int32) : decode (ax_code (mgT L xs) 160) 297 = .ok (.iload 7, 2) := by
  show decode prog_11_method_54_code 297 = _
  decide +kernel
theorem d160_299 (L : Nat) (xs : Nat → Int32) : decode (ax_code (mgT L xs) 160) 299 = .ok (.ifCond .lt 17, 3) := by
  show decode prog_11_method_54_code 299 = _
  decide +kernel
theorem d160_302 (L : Nat) (xs : Nat → Int32) : decode (ax_code (mgT L xs) 160) 302 = .ok (.aload_n 0, 1) := by
  show decode prog_11_method_54_code 302 = _
  decide +kernel
theorem d160_303 (L : Nat) (xs : Nat → Int32) : decode (ax_code (mgT L xs) 160) 303 = .ok (.getfield 96, 3) := by
  show decode prog_11_method_54_code 303 = _
  decide +kernel
theorem d160_306 (L : Nat) (xs : Nat → Int32) : decode (ax_code (mgT L xs) 160) 306 = .ok (.bipush 100, 2) := by
  show decode prog_11_method_54_code 306 = _
  decide +kernel
theorem d160_308 (L : Nat) (xs : Nat → Int32) : decode (ax_code (mgT L xs) 160) 308 = .ok (.iload_n 1, 1) := by
  show decode prog_11_method_54_code 308 = _
  decide +kernel
theorem d160_309 (L : Nat) (xs : Nat → Int32) : decode (ax_code (mgT L xs) 160) 309 = .ok (.imul, 1) := by
  show decode prog_11_method_54_code 309 = _
  decide +kernel
theorem d160_310 (L : Nat) (xs : Nat → Int32) : decode (ax_code (mgT L xs) 160) 310 = .ok (.iload 4, 2) := by
  show decode prog_11_method_54_code 310 = _
  decide +kernel
theorem d160_312 (L : Nat) (xs : Nat → Int32) : decode (ax_code (mgT L xs) 160) 312 = .ok (.iadd, 1) := by
  show decode prog_11_method_54_code 312 = _
  decide +kernel
theorem d160_313 (L : Nat) (xs : Nat → Int32) : decode (ax_code (mgT L xs) 160) 313 = .ok (.if_icmp .ge 9, 3) := by
  show decode prog_11_method_54_code 313 = _
  decide +kernel
theorem d160_316 (L : Nat) (xs : Nat → Int32) : decode (ax_code (mgT L xs) 160) 316 = .ok (.sipush 999, 3) := by
  show decode prog_11_method_54_code 316 = _
  decide +kernel
theorem d160_319 (L : Nat) (xs : Nat → Int32) : decode (ax_code (mgT L xs) 160) 319 = .ok (.goto 5, 3) := by
  show decode prog_11_method_54_code 319 = _
  decide +kernel
theorem d160_322 (L : Nat) (xs : Nat → Int32) : decode (ax_code (mgT L xs) 160) 322 = .ok (.iload 7, 2) := by
  show decode prog_11_method_54_code 322 = _
  decide +kernel
theorem d160_324 (L : Nat) (xs : Nat → Int32) : decode (ax_code (mgT L xs) 160) 324 = .ok (.putfield 298, 3) := by
  show decode prog_11_method_54_code 324 = _
  decide +kernel
theorem d160_327 (L : Nat) (xs : Nat → Int32) : decode (ax_code (mgT L xs) 160) 327 = .ok (.aload_n 0, 1) := by
  show decode prog_11_method_54_code 327 = _
  decide +kernel
theorem d160_328 (L : Nat) (xs : Nat → Int32) : decode (ax_code (mgT L xs) 160) 328 = .ok (.getfield 298, 3) := by
  show decode prog_11_method_54_code 328 = _
  decide +kernel
theorem d160_331 (L : Nat) (xs : Nat → Int32) : decode (ax_code (mgT L xs) 160) 331 = .ok (.sipush 999, 3) := by
  show decode prog_11_method_54_code 331 = _
  decide +kernel
theorem d160_334 (L : Nat) (xs : Nat → Int32) : decode (ax_code (mgT L xs) 160) 334 = .ok (.if_icmp .ge 7, 3) := by
  show decode prog_11_method_54_code 334 = _
  decide +kernel
theorem d160_337 (L : Nat) (xs : Nat → Int32) : decode (ax_code (mgT L xs) 160) 337 = .ok (.iconst 1, 1) := by
  show decode prog_11_method_54_code 337 = _
  decide +kernel
theorem d160_338 (L : Nat) (xs : Nat → Int32) : decode (ax_code (mgT L xs) 160) 338 = .ok (.goto 4, 3) := by
  show decode prog_11_method_54_code 338 = _
  decide +kernel
theorem d160_341 (L : Nat) (xs : Nat → Int32) : decode (ax_code (mgT L xs) 160) 341 = .ok (.iconst 0, 1) := by
  show decode prog_11_method_54_code 341 = _
  decide +kernel
theorem d160_342 (L : Nat) (xs : Nat → Int32) : decode (ax_code (mgT L xs) 160) 342 = .ok (.ireturn, 1) := by
  show decode prog_11_method_54_code 342 = _
  decide +kernel
theorem d160_343 (L : Nat) (xs : Nat → Int32) : decode (ax_code (mgT L xs) 160) 343 = .ok (.iconst 1, 1) := by
  show decode prog_11_method_54_code 343 = _
  decide +kernel
theorem d160_344 (L : Nat) (xs : Nat → Int32) : decode (ax_code (mgT L xs) 160) 344 = .ok (.ireturn, 1) := by
  show decode prog_11_method_54_code 344 = _
  decide +kernel
section KZ
variable {L : Nat} {xs : Nat → Int32} {d r c a e en : Nat} {D : List Nat} {P : plT} {s : mg_s} {Q : Option Value → mg_s → Prop}
def pF : List Nat := [9, 43, 44, 45, 46]
theorem pl_m1 {v : Nat} (h : v ≤ 100) : ¬ nI v = -1 := nI_neg1 (by omega)
theorem bI_f' {b : Bool} (h : ¬ b = true) : b = false := Bool.eq_false_iff.mpr h
theorem md_tg4 {c7 : Option Value} (hR : isRec s r c D) (hae : a < e) (hen : e + 1 < en) (hD : en ≤ D.length) (hp : isPM s P) (hok : okP P) : wp L xs (d + 3) 160 242 [some (.ref 141), some (.int (nI r)), some (.int (nI (c + a))), some (.int (nI (c + e))), some (.int (nI (c + en))), some (.int (nI (e - a))), some (.int (nI (c + e + 1))), c7] [] s (fun rv s' => rv = some (.int (nI (bI (f_tg4 (gl D) a en e P).1))) ∧ mfr s s' pF [] ∧ ((f_tg4 (gl D) a en e P).1 = true → isPM s' (f_tg4 (gl D) a en e P).2 ∧ okP (f_tg4 (gl D) a en e P).2)) := by
  have hr16 := hR.1
  have hc1 := hR.2.1
  have hcl := hR.2.2.1
  have hga := fun k => ga_lt hR k
  have hwd := wd_pct (g := ga D) a e
  have hbt := bI_lt (t_word (ga D) a e w_pct)
  by_cases hw : t_word (ga D) a e w_pct = true
  · have hwg : t_word (gl D) a e w_pct = true := by rw [wd_ga (by omega)]; exact hw
    rw [hw] at hwd hbt
    have hwd1 := hwd.resolve_right (fun z => absurd z.2 (by decide))
    clear hwd
    rcases hok.2.2.2 with h4 | ⟨v4, hv4, h4⟩
    · have hT : f_tg4 (gl D) a en e P = (decide (¬ oI (t_num (gl D) (e + 1) en 100) = -1), (P.1, P.2.1, P.2.2.1, oI (t_num (gl D) (e + 1) en 100))) := by unfold f_tg4; rw [if_pos ⟨h4, hwg⟩]
      rw [hT, num_eq (by omega)]
      have hdl := r_dg_le (g := gl D) (to := en) (k := e + 1) (by omega)
      cases hq : r_num (gl D) (e + 1) 100 (r_dg (gl D) en (e + 1)) with
      | none =>
        refine wg_iload (d160_242 L xs) rfl ?_
        refine wg_iconst (d160_244 L xs) (x := 3) (by decide) ?_
        refine wn_icmp_ne (d160_245 L xs) (x := e - a) (y := 3) (by omega) (by omega) (t := 343) (by decide) (fun h61 => by omega) (fun h61 => ?_)
        refine wg_aload_n (d160_248 L xs) rfl ?_
        refine wg_iload_n (d160_249 L xs) rfl ?_
        refine wg_iload_n (d160_250 L xs) rfl ?_
        refine wg_bipush (d160_251 L xs) (x := 112) (by decide) ?_
        refine wg_bipush (d160_253 L xs) (x := 99) (by decide) ?_
        refine wg_bipush (d160_255 L xs) (x := 116) (by decide) ?_
        refine wg_invv (d160_257 L xs) (kd := 7) (mj := 124) (n := 5) rfl (Or.inl rfl) (ys := [.int 116, .int 99, .int 112, .int (nI (c + a)), .int (nI r)]) (r := []) rfl rfl (by decide) rfl rfl (Nat.le_of_ble_eq_true rfl) (md_word (i := a) (x := 112) (y := 99) (z := 116) hR (by omega) (by omega) (by decide) (by decide) (by decide)) ?_
        rintro _ _ ⟨rfl, rfl⟩
        have hw_7627632 := w3_n D a 112 99 116
        refine wn_if_eq (d160_260 L xs) (x := bI (w3 D a 112 99 116)) (by omega) (t := 343) (by decide) (fun h62 => by omega) (fun h62 => ?_)
        refine wg_aload_n (d160_263 L xs) rfl ?_
        refine wg_get (d160_264 L xs) (kd := 1) (cj := 9) (k0 := 46) rfl (Or.inl rfl) (by decide) rfl rfl ?_
        refine wg_top (y := (-1)) (hp.2.2.2.trans h4) ?_
        refine wg_if_ge (d160_267 L xs) (t := 327) (by decide) (fun hp => absurd hp (by decide)) (fun _ => ?_)
        refine wg_aload_n (d160_270 L xs) rfl ?_
        refine wg_aload_n (d160_271 L xs) rfl ?_
        refine wg_get (d160_272 L xs) (kd := 1) (cj := 9) (k0 := 5) rfl (Or.inl rfl) (by decide) rfl rfl ?_
        refine wg_bipush (d160_275 L xs) (x := 100) (by decide) ?_
        refine wg_iload_n (d160_277 L xs) rfl ?_
        refine wg_imul (d160_278 L xs) ?_
        refine wg_top (y := (nI (100 * r))) (pk_mul 100 r) ?_
        refine wg_iload (d160_279 L xs) rfl ?_
        refine wg_iadd (d160_281 L xs) ?_
        refine wg_top (y := (nI ((100 * r) + (c + e + 1)))) (nI_add (100 * r) (c + e + 1)) ?_
        refine wg_bipush (d160_282 L xs) (x := 100) (by decide) ?_
        refine wg_iload_n (d160_284 L xs) rfl ?_
        refine wg_imul (d160_285 L xs) ?_
        refine wg_top (y := (nI (100 * r))) (pk_mul 100 r) ?_
        refine wg_iload (d160_286 L xs) rfl ?_
        refine wg_iadd (d160_288 L xs) ?_
        refine wg_top (y := (nI ((100 * r) + (c + en)))) (nI_add (100 * r) (c + en)) ?_
        refine wg_bipush (d160_289 L xs) (x := 100) (by decide) ?_
        refine wg_invv (d160_291 L xs) (kd := 7) (mj := 114) (n := 4) rfl (Or.inl rfl) (ys := [.int 100, .int (nI ((100 * r) + (c + en))), .int (nI ((100 * r) + (c + e + 1))), .ref 144]) (r := []) rfl rfl (by decide) rfl rfl (Nat.le_of_ble_eq_true rfl) (by have h := md_numR (L := L) (xs := xs) (d := d + 1) (a := e + 1) (b := en) (most := 100) hR (by omega) hD (by omega); rw [hq] at h; exact h) ?_
        rintro _ _ ⟨rfl, rfl⟩
        refine wg_istore (d160_294 L xs) (ls' := [some (.ref 141), some (.int (nI r)), some (.int (nI (c + a))), some (.int (nI (c + e))), some (.int (nI (c + en))), some (.int (nI (e - a))), some (.int (nI (c + e + 1))), some (.int (-1))]) (Nat.le_of_ble_eq_true rfl) rfl ?_
        refine wg_aload_n (d160_296 L xs) rfl ?_
        refine wg_iload (d160_297 L xs) rfl ?_
        refine wg_if_lt (d160_299 L xs) (t := 316) (by decide) (fun _ => ?_) (fun hn => absurd (by decide) hn)
        refine wg_sipush (d160_316 L xs) (x := 999) (by decide) ?_
        refine wg_goto (d160_319 L xs) (t := 324) (by decide) ?_
        refine wg_puti (d160_324 L xs) (cj := 9) (k0 := 46) rfl (by decide) rfl (Nat.le_of_ble_eq_true rfl) rfl rfl rfl ?_
        refine wg_aload_n (d160_327 L xs) rfl ?_
        refine wg_get (d160_328 L xs) (kd := 1) (cj := 9) (k0 := 46) rfl (Or.inl rfl) (by decide) rfl rfl ?_
        refine wg_top (y := 999) rfl ?_
        refine wg_sipush (d160_331 L xs) (x := 999) (by decide) ?_
        refine wg_icmp_ge (d160_334 L xs) (t := 341) (by decide) (fun _ => ?_) (fun hn => absurd (by decide) hn)
        refine wg_iconst (d160_341 L xs) (x := 0) (by decide) ?_
        exact wg_iret (d160_342 L xs) rfl rfl ⟨by rw [show (if (r_dg (gl D) en (e + 1)).2 = en then (none : Option Nat) else none) = none by split <;> rfl]; rfl, (mfr_I s (by decide)).trans (mfr_I _ (by decide)), fun z => by rw [show (if (r_dg (gl D) en (e + 1)).2 = en then (none : Option Nat) else none) = none by split <;> rfl] at z; exact absurd z (by show ¬ decide (¬ (-1 : Int32) = -1) = true; decide)⟩
      | some v =>
        have hv := r_num_le hq
        refine wg_iload (d160_242 L xs) rfl ?_
        refine wg_iconst (d160_244 L xs) (x := 3) (by decide) ?_
        refine wn_icmp_ne (d160_245 L xs) (x := e - a) (y := 3) (by omega) (by omega) (t := 343) (by decide) (fun h61 => by omega) (fun h61 => ?_)
        refine wg_aload_n (d160_248 L xs) rfl ?_
        refine wg_iload_n (d160_249 L xs) rfl ?_
        refine wg_iload_n (d160_250 L xs) rfl ?_
        refine wg_bipush (d160_251 L xs) (x := 112) (by decide) ?_
        refine wg_bipush (d160_253 L xs) (x := 99) (by decide) ?_
        refine wg_bipush (d160_255 L xs) (x := 116) (by decide) ?_
        refine wg_invv (d160_257 L xs) (kd := 7) (mj := 124) (n := 5) rfl (Or.inl rfl) (ys := [.int 116, .int 99, .int 112, .int (nI (c + a)), .int (nI r)]) (r := []) rfl rfl (by decide) rfl rfl (Nat.le_of_ble_eq_true rfl) (md_word (i := a) (x := 112) (y := 99) (z := 116) hR (by omega) (by omega) (by decide) (by decide) (by decide)) ?_
        rintro _ _ ⟨rfl, rfl⟩
        have hw_7627632 := w3_n D a 112 99 116
        refine wn_if_eq (d160_260 L xs) (x := bI (w3 D a 112 99 116)) (by omega) (t := 343) (by decide) (fun h62 => by omega) (fun h62 => ?_)
        refine wg_aload_n (d160_263 L xs) rfl ?_
        refine wg_get (d160_264 L xs) (kd := 1) (cj := 9) (k0 := 46) rfl (Or.inl rfl) (by decide) rfl rfl ?_
        refine wg_top (y := (-1)) (hp.2.2.2.trans h4) ?_
        refine wg_if_ge (d160_267 L xs) (t := 327) (by decide) (fun hp => absurd hp (by decide)) (fun _ => ?_)
        refine wg_aload_n (d160_270 L xs) rfl ?_
        refine wg_aload_n (d160_271 L xs) rfl ?_
        refine wg_get (d160_272 L xs) (kd := 1) (cj := 9) (k0 := 5) rfl (Or.inl rfl) (by decide) rfl rfl ?_
        refine wg_bipush (d160_275 L xs) (x := 100) (by decide) ?_
        refine wg_iload_n (d160_277 L xs) rfl ?_
        refine wg_imul (d160_278 L xs) ?_
        refine wg_top (y := (nI (100 * r))) (pk_mul 100 r) ?_
        refine wg_iload (d160_279 L xs) rfl ?_
        refine wg_iadd (d160_281 L xs) ?_
        refine wg_top (y := (nI ((100 * r) + (c + e + 1)))) (nI_add (100 * r) (c + e + 1)) ?_
        refine wg_bipush (d160_282 L xs) (x := 100) (by decide) ?_
        refine wg_iload_n (d160_284 L xs) rfl ?_
        refine wg_imul (d160_285 L xs) ?_
        refine wg_top (y := (nI (100 * r))) (pk_mul 100 r) ?_
        refine wg_iload (d160_286 L xs) rfl ?_
        refine wg_iadd (d160_288 L xs) ?_
        refine wg_top (y := (nI ((100 * r) + (c + en)))) (nI_add (100 * r) (c + en)) ?_
        refine wg_bipush (d160_289 L xs) (x := 100) (by decide) ?_
        refine wg_invv (d160_291 L xs) (kd := 7) (mj := 114) (n := 4) rfl (Or.inl rfl) (ys := [.int 100, .int (nI ((100 * r) + (c + en))), .int (nI ((100 * r) + (c + e + 1))), .ref 144]) (r := []) rfl rfl (by decide) rfl rfl (Nat.le_of_ble_eq_true rfl) (by have h := md_numR (L := L) (xs := xs) (d := d + 1) (a := e + 1) (b := en) (most := 100) hR (by omega) hD (by omega); rw [hq] at h; exact h) ?_
        rintro _ _ ⟨rfl, rfl⟩
        refine wg_istore (d160_294 L xs) (ls' := [some (.ref 141), some (.int (nI r)), some (.int (nI (c + a))), some (.int (nI (c + e))), some (.int (nI (c + en))), some (.int (nI (e - a))), some (.int (nI (c + e + 1))), some (.int (nI v))]) (Nat.le_of_ble_eq_true rfl) rfl ?_
        refine wg_aload_n (d160_296 L xs) rfl ?_
        refine wg_iload (d160_297 L xs) rfl ?_
        refine wn_if_lt (d160_299 L xs) (x := v) (by omega) (t := 316) (by decide) (fun h64 => by omega) (fun h64 => ?_)
        refine wg_aload_n (d160_302 L xs) rfl ?_
        refine wg_get (d160_303 L xs) (kd := 1) (cj := 9) (k0 := 9) rfl (Or.inl rfl) (by decide) rfl rfl ?_
        refine wg_top (y := (nI (100 * r + (c + (r_dg (gl D) en (e + 1)).2)))) rfl ?_
        refine wg_bipush (d160_306 L xs) (x := 100) (by decide) ?_
        refine wg_iload_n (d160_308 L xs) rfl ?_
        refine wg_imul (d160_309 L xs) ?_
        refine wg_top (y := (nI (100 * r))) (pk_mul 100 r) ?_
        refine wg_iload (d160_310 L xs) rfl ?_
        refine wg_iadd (d160_312 L xs) ?_
        refine wg_top (y := (nI ((100 * r) + (c + en)))) (nI_add (100 * r) (c + en)) ?_
        refine wn_icmp_ge (d160_313 L xs) (x := 100 * r + (c + (r_dg (gl D) en (e + 1)).2)) (y := (100 * r) + (c + en)) (by omega) (by omega) (t := 322) (by decide) (fun h65 => ?_) (fun h65 => ?_)
        · refine wg_iload (d160_322 L xs) rfl ?_
          refine wg_puti (d160_324 L xs) (cj := 9) (k0 := 46) rfl (by decide) rfl (Nat.le_of_ble_eq_true rfl) rfl rfl rfl ?_
          refine wg_aload_n (d160_327 L xs) rfl ?_
          refine wg_get (d160_328 L xs) (kd := 1) (cj := 9) (k0 := 46) rfl (Or.inl rfl) (by decide) rfl rfl ?_
          refine wg_top (y := (nI v)) rfl ?_
          refine wg_sipush (d160_331 L xs) (x := 999) (by decide) ?_
          refine wn_icmp_ge (d160_334 L xs) (x := v) (y := 999) (by omega) (by omega) (t := 341) (by decide) (fun h66 => by omega) (fun h66 => ?_)
          refine wg_iconst (d160_337 L xs) (x := 1) (by decide) ?_
          refine wg_goto (d160_338 L xs) (t := 342) (by decide) ?_
          exact wg_iret (d160_342 L xs) rfl rfl ⟨by rw [if_pos (by omega)]; show _ = some (Value.int (nI (bI (decide (¬ nI v = -1))))); rw [decide_eq_true (pl_m1 hv)]; rfl, (mfr_I s (by decide)).trans (mfr_I _ (by decide)), fun _ => by rw [if_pos (by omega)]; exact ⟨⟨hp.1, hp.2.1, hp.2.2.1, rfl⟩, hok.1, hok.2.1, hok.2.2.1, Or.inr ⟨v, hv, rfl⟩⟩⟩
        · refine wg_sipush (d160_316 L xs) (x := 999) (by decide) ?_
          refine wg_goto (d160_319 L xs) (t := 324) (by decide) ?_
          refine wg_puti (d160_324 L xs) (cj := 9) (k0 := 46) rfl (by decide) rfl (Nat.le_of_ble_eq_true rfl) rfl rfl rfl ?_
          refine wg_aload_n (d160_327 L xs) rfl ?_
          refine wg_get (d160_328 L xs) (kd := 1) (cj := 9) (k0 := 46) rfl (Or.inl rfl) (by decide) rfl rfl ?_
          refine wg_top (y := 999) rfl ?_
          refine wg_sipush (d160_331 L xs) (x := 999) (by decide) ?_
          refine wg_icmp_ge (d160_334 L xs) (t := 341) (by decide) (fun _ => ?_) (fun hn => absurd (by decide) hn)
          refine wg_iconst (d160_341 L xs) (x := 0) (by decide) ?_
          exact wg_iret (d160_342 L xs) rfl rfl ⟨by rw [if_neg (by omega)]; rfl, (mfr_I s (by decide)).trans (mfr_I _ (by decide)), fun z => by rw [if_neg (by omega)] at z; exact absurd z (by show ¬ decide (¬ (-1 : Int32) = -1) = true; decide)⟩
    · have hT : f_tg4 (gl D) a en e P = (true, P) := by unfold f_tg4; rw [if_neg (fun z => pl_m1 hv4 (h4.symm.trans z.1))]
      refine wg_iload (d160_242 L xs) rfl ?_
      refine wg_iconst (d160_244 L xs) (x := 3) (by decide) ?_
      refine wn_icmp_ne (d160_245 L xs) (x := e - a) (y := 3) (by omega) (by omega) (t := 343) (by decide) (fun h61 => by omega) (fun h61 => ?_)
      refine wg_aload_n (d160_248 L xs) rfl ?_
      refine wg_iload_n (d160_249 L xs) rfl ?_
      refine wg_iload_n (d160_250 L xs) rfl ?_
      refine wg_bipush (d160_251 L xs) (x := 112) (by decide) ?_
      refine wg_bipush (d160_253 L xs) (x := 99) (by decide) ?_
      refine wg_bipush (d160_255 L xs) (x := 116) (by decide) ?_
      refine wg_invv (d160_257 L xs) (kd := 7) (mj := 124) (n := 5) rfl (Or.inl rfl) (ys := [.int 116, .int 99, .int 112, .int (nI (c + a)), .int (nI r)]) (r := []) rfl rfl (by decide) rfl rfl (Nat.le_of_ble_eq_true rfl) (md_word (i := a) (x := 112) (y := 99) (z := 116) hR (by omega) (by omega) (by decide) (by decide) (by decide)) ?_
      rintro _ _ ⟨rfl, rfl⟩
      have hw_7627632 := w3_n D a 112 99 116
      refine wn_if_eq (d160_260 L xs) (x := bI (w3 D a 112 99 116)) (by omega) (t := 343) (by decide) (fun h62 => by omega) (fun h62 => ?_)
      refine wg_aload_n (d160_263 L xs) rfl ?_
      refine wg_get (d160_264 L xs) (kd := 1) (cj := 9) (k0 := 46) rfl (Or.inl rfl) (by decide) rfl rfl ?_
      refine wg_top (y := (nI v4)) (hp.2.2.2.trans h4) ?_
      refine wn_if_ge (d160_267 L xs) (x := v4) (by omega) (t := 327) (by decide) (fun h63 => ?_) (fun h63 => by omega)
      refine wg_aload_n (d160_327 L xs) rfl ?_
      refine wg_get (d160_328 L xs) (kd := 1) (cj := 9) (k0 := 46) rfl (Or.inl rfl) (by decide) rfl rfl ?_
      refine wg_top (y := (nI v4)) (hp.2.2.2.trans h4) ?_
      refine wg_sipush (d160_331 L xs) (x := 999) (by decide) ?_
      refine wn_icmp_ge (d160_334 L xs) (x := v4) (y := 999) (by omega) (by omega) (t := 341) (by decide) (fun h64 => by omega) (fun h64 => ?_)
      refine wg_iconst (d160_337 L xs) (x := 1) (by decide) ?_
      refine wg_goto (d160_338 L xs) (t := 342) (by decide) ?_
      exact wg_iret (d160_342 L xs) rfl rfl ⟨by rw [hT]; rfl, mfr.rf s _ _, fun _ => by rw [hT]; exact ⟨hp, hok⟩⟩
  · have hT : f_tg4 (gl D) a en e P = (true, P) := tg_4 (fun z => hw (by rw [← wd_ga (by omega)]; exact z))
    have hwd0 := hwd.resolve_left (fun z => absurd z.2 (by rw [bI_f' hw]; decide))
    clear hwd
    refine wg_iload (d160_242 L xs) rfl ?_
    refine wg_iconst (d160_244 L xs) (x := 3) (by decide) ?_
    refine wn_icmp_ne (d160_245 L xs) (x := e - a) (y := 3) (by omega) (by omega) (t := 343) (by decide) (fun h61 => ?_) (fun h61 => ?_)
    · refine wg_iconst (d160_343 L xs) (x := 1) (by decide) ?_
      exact wg_iret (d160_344 L xs) rfl rfl ⟨by rw [hT]; rfl, mfr.rf s _ _, fun _ => by rw [hT]; exact ⟨hp, hok⟩⟩
    · refine wg_aload_n (d160_248 L xs) rfl ?_
      refine wg_iload_n (d160_249 L xs) rfl ?_
      refine wg_iload_n (d160_250 L xs) rfl ?_
      refine wg_bipush (d160_251 L xs) (x := 112) (by decide) ?_
      refine wg_bipush (d160_253 L xs) (x := 99) (by decide) ?_
      refine wg_bipush (d160_255 L xs) (x := 116) (by decide) ?_
      refine wg_invv (d160_257 L xs) (kd := 7) (mj := 124) (n := 5) rfl (Or.inl rfl) (ys := [.int 116, .int 99, .int 112, .int (nI (c + a)), .int (nI r)]) (r := []) rfl rfl (by decide) rfl rfl (Nat.le_of_ble_eq_true rfl) (md_word (i := a) (x := 112) (y := 99) (z := 116) hR (by omega) (by omega) (by decide) (by decide) (by decide)) ?_
      rintro _ _ ⟨rfl, rfl⟩
      have hw_7627632 := w3_n D a 112 99 116
      refine wn_if_eq (d160_260 L xs) (x := bI (w3 D a 112 99 116)) (by omega) (t := 343) (by decide) (fun h62 => ?_) (fun h62 => ?_)
      · refine wg_iconst (d160_343 L xs) (x := 1) (by decide) ?_
        exact wg_iret (d160_344 L xs) rfl rfl ⟨by rw [hT]; rfl, mfr.rf s _ _, fun _ => by rw [hT]; exact ⟨hp, hok⟩⟩
      · exfalso; omega
theorem md_tg3 {c7 : Option Value} (hR : isRec s r c D) (hae : a < e) (hen : e + 1 < en) (hD : en ≤ D.length) (hp : isPM s P) (hok : okP P) : wp L xs (d + 3) 160 137 [some (.ref 141), some (.int (nI r)), some (.int (nI (c + a))), some (.int (nI (c + e))), some (.int (nI (c + en))), some (.int (nI (e - a))), some (.int (nI (c + e + 1))), c7] [] s (fun rv s' => rv = some (.int (nI (bI (f_tg3 (gl D) a en e P).1))) ∧ mfr s s' pF [] ∧ ((f_tg3 (gl D) a en e P).1 = true → isPM s' (f_tg3 (gl D) a en e P).2 ∧ okP (f_tg3 (gl D) a en e P).2)) := by
  have hr16 := hR.1
  have hc1 := hR.2.1
  have hcl := hR.2.2.1
  have hga := fun k => ga_lt hR k
  have hwd := wd_aspf (g := ga D) a e
  by_cases hw : t_word (ga D) a e w_aspf = true
  · have hwg : t_word (gl D) a e w_aspf = true := by rw [wd_ga (by omega)]; exact hw
    rw [hw] at hwd
    have hwd1 := hwd.resolve_right (fun z => absurd z.2 (by decide))
    clear hwd
    have hno : ∀ (h : ¬ P.2.2.1 = -1), f_tg3 (gl D) a en e P = (true, P) := fun h => by unfold f_tg3; rw [if_neg (fun z => h z.1), tg_4 (wd_len (by show ¬ e - a = 3; omega))]
    rcases hok.2.2.1 with h3 | h3 | h3
    · have hT : f_tg3 (gl D) a en e P = (decide (¬ oI (t_aln (gl D) (e + 1) en) = -1), (P.1, P.2.1, oI (t_aln (gl D) (e + 1) en), P.2.2.2)) := by unfold f_tg3; rw [if_pos ⟨h3, hwg⟩]
      have hr_ := wd_r (g := ga D) (e + 1) en
      have hs_ := wd_s (g := ga D) (e + 1) en
      have hA : t_aln (gl D) (e + 1) en = if t_word (ga D) (e + 1) en w_r = true then some 0 else if t_word (ga D) (e + 1) en w_s = true then some 1 else none := by unfold t_aln; rw [wd_ga hD, wd_ga hD]
      rw [hT, hA]
      refine wg_iload (d160_137 L xs) rfl ?_
      refine wg_iconst (d160_139 L xs) (x := 4) (by decide) ?_
      refine wn_icmp_ne (d160_140 L xs) (x := e - a) (y := 4) (by omega) (by omega) (t := 242) (by decide) (fun h61 => by omega) (fun h61 => ?_)
      refine wg_aload_n (d160_143 L xs) rfl ?_
      refine wg_iload_n (d160_144 L xs) rfl ?_
      refine wg_iload_n (d160_145 L xs) rfl ?_
      refine wg_bipush (d160_146 L xs) (x := 97) (by decide) ?_
      refine wg_bipush (d160_148 L xs) (x := 115) (by decide) ?_
      refine wg_bipush (d160_150 L xs) (x := 112) (by decide) ?_
      refine wg_invv (d160_152 L xs) (kd := 7) (mj := 124) (n := 5) rfl (Or.inl rfl) (ys := [.int 112, .int 115, .int 97, .int (nI (c + a)), .int (nI r)]) (r := []) rfl rfl (by decide) rfl rfl (Nat.le_of_ble_eq_true rfl) (md_word (i := a) (x := 97) (y := 115) (z := 112) hR (by omega) (by omega) (by decide) (by decide) (by decide)) ?_
      rintro _ _ ⟨rfl, rfl⟩
      have hw_7369569 := w3_n D a 97 115 112
      refine wn_if_eq (d160_155 L xs) (x := bI (w3 D a 97 115 112)) (by omega) (t := 242) (by decide) (fun h62 => by omega) (fun h62 => ?_)
      refine wg_aload_n (d160_158 L xs) rfl ?_
      refine wg_iload_n (d160_159 L xs) rfl ?_
      refine wg_iload_n (d160_160 L xs) rfl ?_
      refine wg_iconst (d160_161 L xs) (x := 3) (by decide) ?_
      refine wg_iadd (d160_162 L xs) ?_
      refine wg_top (y := (nI (c + a + 3))) (nI_add (c + a) 3) ?_
      refine wg_invv (d160_163 L xs) (kd := 7) (mj := 125) (n := 2) rfl (Or.inl rfl) (ys := [.int (nI (c + a + 3)), .int (nI r)]) (r := []) rfl rfl (by decide) rfl rfl (Nat.le_of_ble_eq_true rfl) (md_at (i := a + 3) hR (by omega) (by omega)) ?_
      rintro _ _ ⟨rfl, rfl⟩
      have hat_a_3 := hga (a + 3)
      refine wg_bipush (d160_166 L xs) (x := 102) (by decide) ?_
      refine wn_icmp_ne (d160_168 L xs) (x := ga D (a + 3)) (y := 102) (by omega) (by omega) (t := 242) (by decide) (fun h63 => by omega) (fun h63 => ?_)
      refine wg_aload_n (d160_171 L xs) rfl ?_
      refine wg_get (d160_172 L xs) (kd := 1) (cj := 9) (k0 := 45) rfl (Or.inl rfl) (by decide) rfl rfl ?_
      refine wg_top (y := (-1)) (hp.2.2.1.trans h3) ?_
      refine wg_if_ge (d160_175 L xs) (t := 228) (by decide) (fun hp => absurd hp (by decide)) (fun _ => ?_)
      refine wg_iload (d160_178 L xs) rfl ?_
      refine wg_iload (d160_180 L xs) rfl ?_
      refine wg_iconst (d160_182 L xs) (x := 1) (by decide) ?_
      refine wg_iadd (d160_183 L xs) ?_
      refine wg_top (y := (nI (c + e + 2))) (nI_add (c + e + 1) 1) ?_
      refine wn_icmp_ne (d160_184 L xs) (x := c + en) (y := c + e + 2) (by omega) (by omega) (t := 197) (by decide) (fun h65 => ?_) (fun h65 => ?_)
      · refine wg_bipush (d160_197 L xs) (x := 32) (by decide) ?_
        refine wg_istore (d160_199 L xs) (ls' := [some (.ref 141), some (.int (nI r)), some (.int (nI (c + a))), some (.int (nI (c + e))), some (.int (nI (c + en))), some (.int (nI (e - a))), some (.int (nI (c + e + 1))), some (.int 32)]) (Nat.le_of_ble_eq_true rfl) rfl ?_
        refine wg_aload_n (d160_201 L xs) rfl ?_
        refine wg_iload (d160_202 L xs) rfl ?_
        refine wg_bipush (d160_204 L xs) (x := 115) (by decide) ?_
        refine wg_icmp_ne (d160_206 L xs) (t := 213) (by decide) (fun _ => ?_) (fun hn => absurd (by decide) hn)
        refine wg_iload (d160_213 L xs) rfl ?_
        refine wg_bipush (d160_215 L xs) (x := 114) (by decide) ?_
        refine wg_icmp_ne (d160_217 L xs) (t := 224) (by decide) (fun _ => ?_) (fun hn => absurd (by decide) hn)
        refine wg_iconst (d160_224 L xs) (x := 2) (by decide) ?_
        refine wg_puti (d160_225 L xs) (cj := 9) (k0 := 45) rfl (by decide) rfl (Nat.le_of_ble_eq_true rfl) rfl rfl rfl ?_
        refine wg_aload_n (d160_228 L xs) rfl ?_
        refine wg_get (d160_229 L xs) (kd := 1) (cj := 9) (k0 := 45) rfl (Or.inl rfl) (by decide) rfl rfl ?_
        refine wg_top (y := 2) rfl ?_
        refine wg_iconst (d160_232 L xs) (x := 2) (by decide) ?_
        refine wg_icmp_ge (d160_233 L xs) (t := 240) (by decide) (fun _ => ?_) (fun hn => absurd (by decide) hn)
        refine wg_iconst (d160_240 L xs) (x := 0) (by decide) ?_
        exact wg_iret (d160_241 L xs) rfl rfl ⟨by rw [if_neg (w_no (b := t_word (ga D) (e + 1) en w_r) (by omega)), if_neg (w_no (b := t_word (ga D) (e + 1) en w_s) (by omega))]; rfl, mfr_I s (by decide), fun z => by rw [if_neg (w_no (b := t_word (ga D) (e + 1) en w_r) (by omega)), if_neg (w_no (b := t_word (ga D) (e + 1) en w_s) (by omega))] at z; exact absurd z (by show ¬ decide (¬ (-1 : Int32) = -1) = true; decide)⟩
      · refine wg_aload_n (d160_187 L xs) rfl ?_
        refine wg_iload_n (d160_188 L xs) rfl ?_
        refine wg_iload (d160_189 L xs) rfl ?_
        refine wg_invv (d160_191 L xs) (kd := 7) (mj := 125) (n := 2) rfl (Or.inl rfl) (ys := [.int (nI (c + e + 1)), .int (nI r)]) (r := []) rfl rfl (by decide) rfl rfl (Nat.le_of_ble_eq_true rfl) (md_at (i := e + 1) hR (by omega) (by omega)) ?_
        rintro _ _ ⟨rfl, rfl⟩
        have hat_e_1 := hga (e + 1)
        refine wg_goto (d160_194 L xs) (t := 199) (by decide) ?_
        refine wg_istore (d160_199 L xs) (ls' := [some (.ref 141), some (.int (nI r)), some (.int (nI (c + a))), some (.int (nI (c + e))), some (.int (nI (c + en))), some (.int (nI (e - a))), some (.int (nI (c + e + 1))), some (.int (nI (ga D (e + 1))))]) (Nat.le_of_ble_eq_true rfl) rfl ?_
        refine wg_aload_n (d160_201 L xs) rfl ?_
        refine wg_iload (d160_202 L xs) rfl ?_
        refine wg_bipush (d160_204 L xs) (x := 115) (by decide) ?_
        refine wn_icmp_ne (d160_206 L xs) (x := ga D (e + 1)) (y := 115) (by omega) (by omega) (t := 213) (by decide) (fun h69 => ?_) (fun h69 => ?_)
        · refine wg_iload (d160_213 L xs) rfl ?_
          refine wg_bipush (d160_215 L xs) (x := 114) (by decide) ?_
          refine wn_icmp_ne (d160_217 L xs) (x := ga D (e + 1)) (y := 114) (by omega) (by omega) (t := 224) (by decide) (fun h70 => ?_) (fun h70 => ?_)
          · refine wg_iconst (d160_224 L xs) (x := 2) (by decide) ?_
            refine wg_puti (d160_225 L xs) (cj := 9) (k0 := 45) rfl (by decide) rfl (Nat.le_of_ble_eq_true rfl) rfl rfl rfl ?_
            refine wg_aload_n (d160_228 L xs) rfl ?_
            refine wg_get (d160_229 L xs) (kd := 1) (cj := 9) (k0 := 45) rfl (Or.inl rfl) (by decide) rfl rfl ?_
            refine wg_top (y := 2) rfl ?_
            refine wg_iconst (d160_232 L xs) (x := 2) (by decide) ?_
            refine wg_icmp_ge (d160_233 L xs) (t := 240) (by decide) (fun _ => ?_) (fun hn => absurd (by decide) hn)
            refine wg_iconst (d160_240 L xs) (x := 0) (by decide) ?_
            exact wg_iret (d160_241 L xs) rfl rfl ⟨by rw [if_neg (w_no (b := t_word (ga D) (e + 1) en w_r) (by omega)), if_neg (w_no (b := t_word (ga D) (e + 1) en w_s) (by omega))]; rfl, mfr_I s (by decide), fun z => by rw [if_neg (w_no (b := t_word (ga D) (e + 1) en w_r) (by omega)), if_neg (w_no (b := t_word (ga D) (e + 1) en w_s) (by omega))] at z; exact absurd z (by show ¬ decide (¬ (-1 : Int32) = -1) = true; decide)⟩
          · refine wg_iconst (d160_220 L xs) (x := 0) (by decide) ?_
            refine wg_goto (d160_221 L xs) (t := 225) (by decide) ?_
            refine wg_puti (d160_225 L xs) (cj := 9) (k0 := 45) rfl (by decide) rfl (Nat.le_of_ble_eq_true rfl) rfl rfl rfl ?_
            refine wg_aload_n (d160_228 L xs) rfl ?_
            refine wg_get (d160_229 L xs) (kd := 1) (cj := 9) (k0 := 45) rfl (Or.inl rfl) (by decide) rfl rfl ?_
            refine wg_top (y := 0) rfl ?_
            refine wg_iconst (d160_232 L xs) (x := 2) (by decide) ?_
            refine wg_icmp_ge (d160_233 L xs) (t := 240) (by decide) (fun hp => absurd hp (by decide)) (fun _ => ?_)
            refine wg_iconst (d160_236 L xs) (x := 1) (by decide) ?_
            refine wg_goto (d160_237 L xs) (t := 241) (by decide) ?_
            exact wg_iret (d160_241 L xs) rfl rfl ⟨by rw [if_pos (bI_t (b := t_word (ga D) (e + 1) en w_r) (by omega))]; rfl, mfr_I s (by decide), fun _ => by rw [if_pos (bI_t (b := t_word (ga D) (e + 1) en w_r) (by omega))]; exact ⟨⟨hp.1, hp.2.1, rfl, hp.2.2.2⟩, hok.1, hok.2.1, Or.inr (Or.inl rfl), hok.2.2.2⟩⟩
        · refine wg_iconst (d160_209 L xs) (x := 1) (by decide) ?_
          refine wg_goto (d160_210 L xs) (t := 225) (by decide) ?_
          refine wg_puti (d160_225 L xs) (cj := 9) (k0 := 45) rfl (by decide) rfl (Nat.le_of_ble_eq_true rfl) rfl rfl rfl ?_
          refine wg_aload_n (d160_228 L xs) rfl ?_
          refine wg_get (d160_229 L xs) (kd := 1) (cj := 9) (k0 := 45) rfl (Or.inl rfl) (by decide) rfl rfl ?_
          refine wg_top (y := 1) rfl ?_
          refine wg_iconst (d160_232 L xs) (x := 2) (by decide) ?_
          refine wg_icmp_ge (d160_233 L xs) (t := 240) (by decide) (fun hp => absurd hp (by decide)) (fun _ => ?_)
          refine wg_iconst (d160_236 L xs) (x := 1) (by decide) ?_
          refine wg_goto (d160_237 L xs) (t := 241) (by decide) ?_
          exact wg_iret (d160_241 L xs) rfl rfl ⟨by rw [if_neg (w_no (b := t_word (ga D) (e + 1) en w_r) (by omega)), if_pos (bI_t (b := t_word (ga D) (e + 1) en w_s) (by omega))]; rfl, mfr_I s (by decide), fun _ => by rw [if_neg (w_no (b := t_word (ga D) (e + 1) en w_r) (by omega)), if_pos (bI_t (b := t_word (ga D) (e + 1) en w_s) (by omega))]; exact ⟨⟨hp.1, hp.2.1, rfl, hp.2.2.2⟩, hok.1, hok.2.1, Or.inr (Or.inr rfl), hok.2.2.2⟩⟩
    · refine wg_iload (d160_137 L xs) rfl ?_
      refine wg_iconst (d160_139 L xs) (x := 4) (by decide) ?_
      refine wn_icmp_ne (d160_140 L xs) (x := e - a) (y := 4) (by omega) (by omega) (t := 242) (by decide) (fun h61 => by omega) (fun h61 => ?_)
      refine wg_aload_n (d160_143 L xs) rfl ?_
      refine wg_iload_n (d160_144 L xs) rfl ?_
      refine wg_iload_n (d160_145 L xs) rfl ?_
      refine wg_bipush (d160_146 L xs) (x := 97) (by decide) ?_
      refine wg_bipush (d160_148 L xs) (x := 115) (by decide) ?_
      refine wg_bipush (d160_150 L xs) (x := 112) (by decide) ?_
      refine wg_invv (d160_152 L xs) (kd := 7) (mj := 124) (n := 5) rfl (Or.inl rfl) (ys := [.int 112, .int 115, .int 97, .int (nI (c + a)), .int (nI r)]) (r := []) rfl rfl (by decide) rfl rfl (Nat.le_of_ble_eq_true rfl) (md_word (i := a) (x := 97) (y := 115) (z := 112) hR (by omega) (by omega) (by decide) (by decide) (by decide)) ?_
      rintro _ _ ⟨rfl, rfl⟩
      have hw_7369569 := w3_n D a 97 115 112
      refine wn_if_eq (d160_155 L xs) (x := bI (w3 D a 97 115 112)) (by omega) (t := 242) (by decide) (fun h62 => by omega) (fun h62 => ?_)
      refine wg_aload_n (d160_158 L xs) rfl ?_
      refine wg_iload_n (d160_159 L xs) rfl ?_
      refine wg_iload_n (d160_160 L xs) rfl ?_
      refine wg_iconst (d160_161 L xs) (x := 3) (by decide) ?_
      refine wg_iadd (d160_162 L xs) ?_
      refine wg_top (y := (nI (c + a + 3))) (nI_add (c + a) 3) ?_
      refine wg_invv (d160_163 L xs) (kd := 7) (mj := 125) (n := 2) rfl (Or.inl rfl) (ys := [.int (nI (c + a + 3)), .int (nI r)]) (r := []) rfl rfl (by decide) rfl rfl (Nat.le_of_ble_eq_true rfl) (md_at (i := a + 3) hR (by omega) (by omega)) ?_
      rintro _ _ ⟨rfl, rfl⟩
      have hat_a_3 := hga (a + 3)
      refine wg_bipush (d160_166 L xs) (x := 102) (by decide) ?_
      refine wn_icmp_ne (d160_168 L xs) (x := ga D (a + 3)) (y := 102) (by omega) (by omega) (t := 242) (by decide) (fun h63 => by omega) (fun h63 => ?_)
      refine wg_aload_n (d160_171 L xs) rfl ?_
      refine wg_get (d160_172 L xs) (kd := 1) (cj := 9) (k0 := 45) rfl (Or.inl rfl) (by decide) rfl rfl ?_
      refine wg_top (y := 0) (hp.2.2.1.trans h3) ?_
      refine wg_if_ge (d160_175 L xs) (t := 228) (by decide) (fun _ => ?_) (fun hn => absurd (by decide) hn)
      refine wg_aload_n (d160_228 L xs) rfl ?_
      refine wg_get (d160_229 L xs) (kd := 1) (cj := 9) (k0 := 45) rfl (Or.inl rfl) (by decide) rfl rfl ?_
      refine wg_top (y := 0) (hp.2.2.1.trans h3) ?_
      refine wg_iconst (d160_232 L xs) (x := 2) (by decide) ?_
      refine wg_icmp_ge (d160_233 L xs) (t := 240) (by decide) (fun hp => absurd hp (by decide)) (fun _ => ?_)
      refine wg_iconst (d160_236 L xs) (x := 1) (by decide) ?_
      refine wg_goto (d160_237 L xs) (t := 241) (by decide) ?_
      exact wg_iret (d160_241 L xs) rfl rfl ⟨by rw [hno (by rw [h3]; decide)]; rfl, mfr.rf s _ _, fun _ => by rw [hno (by rw [h3]; decide)]; exact ⟨hp, hok⟩⟩
    · refine wg_iload (d160_137 L xs) rfl ?_
      refine wg_iconst (d160_139 L xs) (x := 4) (by decide) ?_
      refine wn_icmp_ne (d160_140 L xs) (x := e - a) (y := 4) (by omega) (by omega) (t := 242) (by decide) (fun h61 => by omega) (fun h61 => ?_)
      refine wg_aload_n (d160_143 L xs) rfl ?_
      refine wg_iload_n (d160_144 L xs) rfl ?_
      refine wg_iload_n (d160_145 L xs) rfl ?_
      refine wg_bipush (d160_146 L xs) (x := 97) (by decide) ?_
      refine wg_bipush (d160_148 L xs) (x := 115) (by decide) ?_
      refine wg_bipush (d160_150 L xs) (x := 112) (by decide) ?_
      refine wg_invv (d160_152 L xs) (kd := 7) (mj := 124) (n := 5) rfl (Or.inl rfl) (ys := [.int 112, .int 115, .int 97, .int (nI (c + a)), .int (nI r)]) (r := []) rfl rfl (by decide) rfl rfl (Nat.le_of_ble_eq_true rfl) (md_word (i := a) (x := 97) (y := 115) (z := 112) hR (by omega) (by omega) (by decide) (by decide) (by decide)) ?_
      rintro _ _ ⟨rfl, rfl⟩
      have hw_7369569 := w3_n D a 97 115 112
      refine wn_if_eq (d160_155 L xs) (x := bI (w3 D a 97 115 112)) (by omega) (t := 242) (by decide) (fun h62 => by omega) (fun h62 => ?_)
      refine wg_aload_n (d160_158 L xs) rfl ?_
      refine wg_iload_n (d160_159 L xs) rfl ?_
      refine wg_iload_n (d160_160 L xs) rfl ?_
      refine wg_iconst (d160_161 L xs) (x := 3) (by decide) ?_
      refine wg_iadd (d160_162 L xs) ?_
      refine wg_top (y := (nI (c + a + 3))) (nI_add (c + a) 3) ?_
      refine wg_invv (d160_163 L xs) (kd := 7) (mj := 125) (n := 2) rfl (Or.inl rfl) (ys := [.int (nI (c + a + 3)), .int (nI r)]) (r := []) rfl rfl (by decide) rfl rfl (Nat.le_of_ble_eq_true rfl) (md_at (i := a + 3) hR (by omega) (by omega)) ?_
      rintro _ _ ⟨rfl, rfl⟩
      have hat_a_3 := hga (a + 3)
      refine wg_bipush (d160_166 L xs) (x := 102) (by decide) ?_
      refine wn_icmp_ne (d160_168 L xs) (x := ga D (a + 3)) (y := 102) (by omega) (by omega) (t := 242) (by decide) (fun h63 => by omega) (fun h63 => ?_)
      refine wg_aload_n (d160_171 L xs) rfl ?_
      refine wg_get (d160_172 L xs) (kd := 1) (cj := 9) (k0 := 45) rfl (Or.inl rfl) (by decide) rfl rfl ?_
      refine wg_top (y := 1) (hp.2.2.1.trans h3) ?_
      refine wg_if_ge (d160_175 L xs) (t := 228) (by decide) (fun _ => ?_) (fun hn => absurd (by decide) hn)
      refine wg_aload_n (d160_228 L xs) rfl ?_
      refine wg_get (d160_229 L xs) (kd := 1) (cj := 9) (k0 := 45) rfl (Or.inl rfl) (by decide) rfl rfl ?_
      refine wg_top (y := 1) (hp.2.2.1.trans h3) ?_
      refine wg_iconst (d160_232 L xs) (x := 2) (by decide) ?_
      refine wg_icmp_ge (d160_233 L xs) (t := 240) (by decide) (fun hp => absurd hp (by decide)) (fun _ => ?_)
      refine wg_iconst (d160_236 L xs) (x := 1) (by decide) ?_
      refine wg_goto (d160_237 L xs) (t := 241) (by decide) ?_
      exact wg_iret (d160_241 L xs) rfl rfl ⟨by rw [hno (by rw [h3]; decide)]; rfl, mfr.rf s _ _, fun _ => by rw [hno (by rw [h3]; decide)]; exact ⟨hp, hok⟩⟩
  · have hT : f_tg3 (gl D) a en e P = f_tg4 (gl D) a en e P := by unfold f_tg3; rw [if_neg (fun z => hw (by rw [← wd_ga (by omega)]; exact z.2))]
    have hwd0 := hwd.resolve_left (fun z => absurd z.2 (by rw [bI_f' hw]; decide))
    clear hwd
    rw [hT]
    refine wg_iload (d160_137 L xs) rfl ?_
    refine wg_iconst (d160_139 L xs) (x := 4) (by decide) ?_
    refine wn_icmp_ne (d160_140 L xs) (x := e - a) (y := 4) (by omega) (by omega) (t := 242) (by decide) (fun h61 => ?_) (fun h61 => ?_)
    · exact md_tg4 hR hae hen hD hp hok
    · refine wg_aload_n (d160_143 L xs) rfl ?_
      refine wg_iload_n (d160_144 L xs) rfl ?_
      refine wg_iload_n (d160_145 L xs) rfl ?_
      refine wg_bipush (d160_146 L xs) (x := 97) (by decide) ?_
      refine wg_bipush (d160_148 L xs) (x := 115) (by decide) ?_
      refine wg_bipush (d160_150 L xs) (x := 112) (by decide) ?_
      refine wg_invv (d160_152 L xs) (kd := 7) (mj := 124) (n := 5) rfl (Or.inl rfl) (ys := [.int 112, .int 115, .int 97, .int (nI (c + a)), .int (nI r)]) (r := []) rfl rfl (by decide) rfl rfl (Nat.le_of_ble_eq_true rfl) (md_word (i := a) (x := 97) (y := 115) (z := 112) hR (by omega) (by omega) (by decide) (by decide) (by decide)) ?_
      rintro _ _ ⟨rfl, rfl⟩
      have hw_7369569 := w3_n D a 97 115 112
      refine wn_if_eq (d160_155 L xs) (x := bI (w3 D a 97 115 112)) (by omega) (t := 242) (by decide) (fun h62 => ?_) (fun h62 => ?_)
      · exact md_tg4 hR hae hen hD hp hok
      · refine wg_aload_n (d160_158 L xs) rfl ?_
        refine wg_iload_n (d160_159 L xs) rfl ?_
        refine wg_iload_n (d160_160 L xs) rfl ?_
        refine wg_iconst (d160_161 L xs) (x := 3) (by decide) ?_
        refine wg_iadd (d160_162 L xs) ?_
        refine wg_top (y := (nI (c + a + 3))) (nI_add (c + a) 3) ?_
        refine wg_invv (d160_163 L xs) (kd := 7) (mj := 125) (n := 2) rfl (Or.inl rfl) (ys := [.int (nI (c + a + 3)), .int (nI r)]) (r := []) rfl rfl (by decide) rfl rfl (Nat.le_of_ble_eq_true rfl) (md_at (i := a + 3) hR (by omega) (by omega)) ?_
        rintro _ _ ⟨rfl, rfl⟩
        have hat_a_3 := hga (a + 3)
        refine wg_bipush (d160_166 L xs) (x := 102) (by decide) ?_
        refine wn_icmp_ne (d160_168 L xs) (x := ga D (a + 3)) (y := 102) (by omega) (by omega) (t := 242) (by decide) (fun h63 => ?_) (fun h63 => ?_)
        · exact md_tg4 hR hae hen hD hp hok
        · exfalso; omega
theorem md_tg2 {c7 : Option Value} (hR : isRec s r c D) (hae : a < e) (hen : e + 1 < en) (hD : en ≤ D.length) (hp : isPM s P) (hok : okP P) : wp L xs (d + 3) 160 67 [some (.ref 141), some (.int (nI r)), some (.int (nI (c + a))), some (.int (nI (c + e))), some (.int (nI (c + en))), some (.int (nI (e - a))), some (.int (nI (c + e + 1))), c7] [] s (fun rv s' => rv = some (.int (nI (bI (f_tg2 (gl D) a en e P).1))) ∧ mfr s s' pF [] ∧ ((f_tg2 (gl D) a en e P).1 = true → isPM s' (f_tg2 (gl D) a en e P).2 ∧ okP (f_tg2 (gl D) a en e P).2)) := by
  have hr16 := hR.1
  have hc1 := hR.2.1
  have hcl := hR.2.2.1
  have hga := fun k => ga_lt hR k
  have hwd := wd_sp (g := ga D) a e
  by_cases hw : t_word (ga D) a e w_sp = true
  · have hwg : t_word (gl D) a e w_sp = true := by rw [wd_ga (by omega)]; exact hw
    rw [hw] at hwd
    have hwd1 := hwd.resolve_right (fun z => absurd z.2 (by decide))
    clear hwd
    have hno : ∀ (h : ¬ P.2.1 = -1), f_tg2 (gl D) a en e P = (true, P) := fun h => by unfold f_tg2; rw [if_neg (fun z => h z.1), tg_3 (wd_len (by show ¬ e - a = 4; omega)) (wd_len (by show ¬ e - a = 3; omega))]
    rcases hok.2.1 with h3 | h3 | h3 | h3
    · have hT : f_tg2 (gl D) a en e P = (decide (¬ oI (t_act (gl D) (e + 1) en) = -1), (P.1, oI (t_act (gl D) (e + 1) en), P.2.2)) := by unfold f_tg2; rw [if_pos ⟨h3, hwg⟩]
      have h0 : s.1 141 44 = 0 := by rw [hp.2.1, h3]; rfl
      rw [hT]
      rcases act_v (g := gl D) (i := e + 1) (j := en) with hq | hq | hq | hq
      · refine wg_iload (d160_67 L xs) rfl ?_
        refine wg_iconst (d160_69 L xs) (x := 2) (by decide) ?_
        refine wn_icmp_ne (d160_70 L xs) (x := e - a) (y := 2) (by omega) (by omega) (t := 137) (by decide) (fun h61 => by omega) (fun h61 => ?_)
        refine wg_aload_n (d160_73 L xs) rfl ?_
        refine wg_iload_n (d160_74 L xs) rfl ?_
        refine wg_iload_n (d160_75 L xs) rfl ?_
        refine wg_invv (d160_76 L xs) (kd := 7) (mj := 125) (n := 2) rfl (Or.inl rfl) (ys := [.int (nI (c + a)), .int (nI r)]) (r := []) rfl rfl (by decide) rfl rfl (Nat.le_of_ble_eq_true rfl) (md_at (i := a) hR (by omega) (by omega)) ?_
        rintro _ _ ⟨rfl, rfl⟩
        have hat_a := hga (a)
        refine wg_bipush (d160_79 L xs) (x := 115) (by decide) ?_
        refine wn_icmp_ne (d160_81 L xs) (x := ga D a) (y := 115) (by omega) (by omega) (t := 137) (by decide) (fun h62 => by omega) (fun h62 => ?_)
        refine wg_aload_n (d160_84 L xs) rfl ?_
        refine wg_iload_n (d160_85 L xs) rfl ?_
        refine wg_iload_n (d160_86 L xs) rfl ?_
        refine wg_iconst (d160_87 L xs) (x := 1) (by decide) ?_
        refine wg_iadd (d160_88 L xs) ?_
        refine wg_top (y := (nI (c + a + 1))) (nI_add (c + a) 1) ?_
        refine wg_invv (d160_89 L xs) (kd := 7) (mj := 125) (n := 2) rfl (Or.inl rfl) (ys := [.int (nI (c + a + 1)), .int (nI r)]) (r := []) rfl rfl (by decide) rfl rfl (Nat.le_of_ble_eq_true rfl) (md_at (i := a + 1) hR (by omega) (by omega)) ?_
        rintro _ _ ⟨rfl, rfl⟩
        have hat_a_1 := hga (a + 1)
        refine wg_bipush (d160_92 L xs) (x := 112) (by decide) ?_
        refine wn_icmp_ne (d160_94 L xs) (x := ga D (a + 1)) (y := 112) (by omega) (by omega) (t := 137) (by decide) (fun h63 => by omega) (fun h63 => ?_)
        refine wg_aload_n (d160_97 L xs) rfl ?_
        refine wg_aload_n (d160_98 L xs) rfl ?_
        refine wg_get (d160_99 L xs) (kd := 1) (cj := 9) (k0 := 44) rfl (Or.inl rfl) (by decide) rfl rfl ?_
        refine wg_top (y := 0) h0 ?_
        refine wg_if_ne (d160_102 L xs) (t := 117) (by decide) (fun hp => absurd hp (by decide)) (fun _ => ?_)
        refine wg_aload_n (d160_105 L xs) rfl ?_
        refine wg_iload_n (d160_106 L xs) rfl ?_
        refine wg_iload (d160_107 L xs) rfl ?_
        refine wg_iload (d160_109 L xs) rfl ?_
        refine wg_invv (d160_111 L xs) (kd := 7) (mj := 161) (n := 3) rfl (Or.inl rfl) (ys := [.int (nI (c + en)), .int (nI (c + e + 1)), .int (nI r)]) (r := [.ref 141]) rfl rfl (by decide) rfl rfl (Nat.le_of_ble_eq_true rfl) (by have h := md_action (L := L) (xs := xs) (d := d) (i := e + 1) (j := en) hR hD (by omega); rw [hq] at h; exact h) ?_
        rintro _ _ ⟨rfl, rfl⟩
        refine wg_goto (d160_114 L xs) (t := 121) (by decide) ?_
        refine wg_puti (d160_121 L xs) (cj := 9) (k0 := 44) rfl (by decide) rfl (Nat.le_of_ble_eq_true rfl) rfl rfl rfl ?_
        refine wg_aload_n (d160_124 L xs) rfl ?_
        refine wg_get (d160_125 L xs) (kd := 1) (cj := 9) (k0 := 44) rfl (Or.inl rfl) (by decide) rfl rfl ?_
        refine wg_top (y := (-1)) rfl ?_
        refine wg_if_le (d160_128 L xs) (t := 135) (by decide) (fun _ => ?_) (fun hn => absurd (by decide) hn)
        refine wg_iconst (d160_135 L xs) (x := 0) (by decide) ?_
        exact wg_iret (d160_136 L xs) rfl rfl ⟨by rw [hq]; rfl, mfr_I s (by decide), fun z => by rw [hq] at z; exact absurd z (by show ¬ decide (¬ (-1 : Int32) = -1) = true; decide)⟩
      · refine wg_iload (d160_67 L xs) rfl ?_
        refine wg_iconst (d160_69 L xs) (x := 2) (by decide) ?_
        refine wn_icmp_ne (d160_70 L xs) (x := e - a) (y := 2) (by omega) (by omega) (t := 137) (by decide) (fun h61 => by omega) (fun h61 => ?_)
        refine wg_aload_n (d160_73 L xs) rfl ?_
        refine wg_iload_n (d160_74 L xs) rfl ?_
        refine wg_iload_n (d160_75 L xs) rfl ?_
        refine wg_invv (d160_76 L xs) (kd := 7) (mj := 125) (n := 2) rfl (Or.inl rfl) (ys := [.int (nI (c + a)), .int (nI r)]) (r := []) rfl rfl (by decide) rfl rfl (Nat.le_of_ble_eq_true rfl) (md_at (i := a) hR (by omega) (by omega)) ?_
        rintro _ _ ⟨rfl, rfl⟩
        have hat_a := hga (a)
        refine wg_bipush (d160_79 L xs) (x := 115) (by decide) ?_
        refine wn_icmp_ne (d160_81 L xs) (x := ga D a) (y := 115) (by omega) (by omega) (t := 137) (by decide) (fun h62 => by omega) (fun h62 => ?_)
        refine wg_aload_n (d160_84 L xs) rfl ?_
        refine wg_iload_n (d160_85 L xs) rfl ?_
        refine wg_iload_n (d160_86 L xs) rfl ?_
        refine wg_iconst (d160_87 L xs) (x := 1) (by decide) ?_
        refine wg_iadd (d160_88 L xs) ?_
        refine wg_top (y := (nI (c + a + 1))) (nI_add (c + a) 1) ?_
        refine wg_invv (d160_89 L xs) (kd := 7) (mj := 125) (n := 2) rfl (Or.inl rfl) (ys := [.int (nI (c + a + 1)), .int (nI r)]) (r := []) rfl rfl (by decide) rfl rfl (Nat.le_of_ble_eq_true rfl) (md_at (i := a + 1) hR (by omega) (by omega)) ?_
        rintro _ _ ⟨rfl, rfl⟩
        have hat_a_1 := hga (a + 1)
        refine wg_bipush (d160_92 L xs) (x := 112) (by decide) ?_
        refine wn_icmp_ne (d160_94 L xs) (x := ga D (a + 1)) (y := 112) (by omega) (by omega) (t := 137) (by decide) (fun h63 => by omega) (fun h63 => ?_)
        refine wg_aload_n (d160_97 L xs) rfl ?_
        refine wg_aload_n (d160_98 L xs) rfl ?_
        refine wg_get (d160_99 L xs) (kd := 1) (cj := 9) (k0 := 44) rfl (Or.inl rfl) (by decide) rfl rfl ?_
        refine wg_top (y := 0) h0 ?_
        refine wg_if_ne (d160_102 L xs) (t := 117) (by decide) (fun hp => absurd hp (by decide)) (fun _ => ?_)
        refine wg_aload_n (d160_105 L xs) rfl ?_
        refine wg_iload_n (d160_106 L xs) rfl ?_
        refine wg_iload (d160_107 L xs) rfl ?_
        refine wg_iload (d160_109 L xs) rfl ?_
        refine wg_invv (d160_111 L xs) (kd := 7) (mj := 161) (n := 3) rfl (Or.inl rfl) (ys := [.int (nI (c + en)), .int (nI (c + e + 1)), .int (nI r)]) (r := [.ref 141]) rfl rfl (by decide) rfl rfl (Nat.le_of_ble_eq_true rfl) (by have h := md_action (L := L) (xs := xs) (d := d) (i := e + 1) (j := en) hR hD (by omega); rw [hq] at h; exact h) ?_
        rintro _ _ ⟨rfl, rfl⟩
        refine wg_goto (d160_114 L xs) (t := 121) (by decide) ?_
        refine wg_puti (d160_121 L xs) (cj := 9) (k0 := 44) rfl (by decide) rfl (Nat.le_of_ble_eq_true rfl) rfl rfl rfl ?_
        refine wg_aload_n (d160_124 L xs) rfl ?_
        refine wg_get (d160_125 L xs) (kd := 1) (cj := 9) (k0 := 44) rfl (Or.inl rfl) (by decide) rfl rfl ?_
        refine wg_top (y := 1) rfl ?_
        refine wg_if_le (d160_128 L xs) (t := 135) (by decide) (fun hp => absurd hp (by decide)) (fun _ => ?_)
        refine wg_iconst (d160_131 L xs) (x := 1) (by decide) ?_
        refine wg_goto (d160_132 L xs) (t := 136) (by decide) ?_
        exact wg_iret (d160_136 L xs) rfl rfl ⟨by rw [hq]; rfl, mfr_I s (by decide), fun _ => by rw [hq]; exact ⟨⟨hp.1, (show aJ (some 2) = pM (oI (some 2)) by decide), hp.2.2.1, hp.2.2.2⟩, hok.1, Or.inr (Or.inl rfl), hok.2.2.1, hok.2.2.2⟩⟩
      · refine wg_iload (d160_67 L xs) rfl ?_
        refine wg_iconst (d160_69 L xs) (x := 2) (by decide) ?_
        refine wn_icmp_ne (d160_70 L xs) (x := e - a) (y := 2) (by omega) (by omega) (t := 137) (by decide) (fun h61 => by omega) (fun h61 => ?_)
        refine wg_aload_n (d160_73 L xs) rfl ?_
        refine wg_iload_n (d160_74 L xs) rfl ?_
        refine wg_iload_n (d160_75 L xs) rfl ?_
        refine wg_invv (d160_76 L xs) (kd := 7) (mj := 125) (n := 2) rfl (Or.inl rfl) (ys := [.int (nI (c + a)), .int (nI r)]) (r := []) rfl rfl (by decide) rfl rfl (Nat.le_of_ble_eq_true rfl) (md_at (i := a) hR (by omega) (by omega)) ?_
        rintro _ _ ⟨rfl, rfl⟩
        have hat_a := hga (a)
        refine wg_bipush (d160_79 L xs) (x := 115) (by decide) ?_
        refine wn_icmp_ne (d160_81 L xs) (x := ga D a) (y := 115) (by omega) (by omega) (t := 137) (by decide) (fun h62 => by omega) (fun h62 => ?_)
        refine wg_aload_n (d160_84 L xs) rfl ?_
        refine wg_iload_n (d160_85 L xs) rfl ?_
        refine wg_iload_n (d160_86 L xs) rfl ?_
        refine wg_iconst (d160_87 L xs) (x := 1) (by decide) ?_
        refine wg_iadd (d160_88 L xs) ?_
        refine wg_top (y := (nI (c + a + 1))) (nI_add (c + a) 1) ?_
        refine wg_invv (d160_89 L xs) (kd := 7) (mj := 125) (n := 2) rfl (Or.inl rfl) (ys := [.int (nI (c + a + 1)), .int (nI r)]) (r := []) rfl rfl (by decide) rfl rfl (Nat.le_of_ble_eq_true rfl) (md_at (i := a + 1) hR (by omega) (by omega)) ?_
        rintro _ _ ⟨rfl, rfl⟩
        have hat_a_1 := hga (a + 1)
        refine wg_bipush (d160_92 L xs) (x := 112) (by decide) ?_
        refine wn_icmp_ne (d160_94 L xs) (x := ga D (a + 1)) (y := 112) (by omega) (by omega) (t := 137) (by decide) (fun h63 => by omega) (fun h63 => ?_)
        refine wg_aload_n (d160_97 L xs) rfl ?_
        refine wg_aload_n (d160_98 L xs) rfl ?_
        refine wg_get (d160_99 L xs) (kd := 1) (cj := 9) (k0 := 44) rfl (Or.inl rfl) (by decide) rfl rfl ?_
        refine wg_top (y := 0) h0 ?_
        refine wg_if_ne (d160_102 L xs) (t := 117) (by decide) (fun hp => absurd hp (by decide)) (fun _ => ?_)
        refine wg_aload_n (d160_105 L xs) rfl ?_
        refine wg_iload_n (d160_106 L xs) rfl ?_
        refine wg_iload (d160_107 L xs) rfl ?_
        refine wg_iload (d160_109 L xs) rfl ?_
        refine wg_invv (d160_111 L xs) (kd := 7) (mj := 161) (n := 3) rfl (Or.inl rfl) (ys := [.int (nI (c + en)), .int (nI (c + e + 1)), .int (nI r)]) (r := [.ref 141]) rfl rfl (by decide) rfl rfl (Nat.le_of_ble_eq_true rfl) (by have h := md_action (L := L) (xs := xs) (d := d) (i := e + 1) (j := en) hR hD (by omega); rw [hq] at h; exact h) ?_
        rintro _ _ ⟨rfl, rfl⟩
        refine wg_goto (d160_114 L xs) (t := 121) (by decide) ?_
        refine wg_puti (d160_121 L xs) (cj := 9) (k0 := 44) rfl (by decide) rfl (Nat.le_of_ble_eq_true rfl) rfl rfl rfl ?_
        refine wg_aload_n (d160_124 L xs) rfl ?_
        refine wg_get (d160_125 L xs) (kd := 1) (cj := 9) (k0 := 44) rfl (Or.inl rfl) (by decide) rfl rfl ?_
        refine wg_top (y := 2) rfl ?_
        refine wg_if_le (d160_128 L xs) (t := 135) (by decide) (fun hp => absurd hp (by decide)) (fun _ => ?_)
        refine wg_iconst (d160_131 L xs) (x := 1) (by decide) ?_
        refine wg_goto (d160_132 L xs) (t := 136) (by decide) ?_
        exact wg_iret (d160_136 L xs) rfl rfl ⟨by rw [hq]; rfl, mfr_I s (by decide), fun _ => by rw [hq]; exact ⟨⟨hp.1, (show aJ (some 3) = pM (oI (some 3)) by decide), hp.2.2.1, hp.2.2.2⟩, hok.1, Or.inr (Or.inr (Or.inl rfl)), hok.2.2.1, hok.2.2.2⟩⟩
      · refine wg_iload (d160_67 L xs) rfl ?_
        refine wg_iconst (d160_69 L xs) (x := 2) (by decide) ?_
        refine wn_icmp_ne (d160_70 L xs) (x := e - a) (y := 2) (by omega) (by omega) (t := 137) (by decide) (fun h61 => by omega) (fun h61 => ?_)
        refine wg_aload_n (d160_73 L xs) rfl ?_
        refine wg_iload_n (d160_74 L xs) rfl ?_
        refine wg_iload_n (d160_75 L xs) rfl ?_
        refine wg_invv (d160_76 L xs) (kd := 7) (mj := 125) (n := 2) rfl (Or.inl rfl) (ys := [.int (nI (c + a)), .int (nI r)]) (r := []) rfl rfl (by decide) rfl rfl (Nat.le_of_ble_eq_true rfl) (md_at (i := a) hR (by omega) (by omega)) ?_
        rintro _ _ ⟨rfl, rfl⟩
        have hat_a := hga (a)
        refine wg_bipush (d160_79 L xs) (x := 115) (by decide) ?_
        refine wn_icmp_ne (d160_81 L xs) (x := ga D a) (y := 115) (by omega) (by omega) (t := 137) (by decide) (fun h62 => by omega) (fun h62 => ?_)
        refine wg_aload_n (d160_84 L xs) rfl ?_
        refine wg_iload_n (d160_85 L xs) rfl ?_
        refine wg_iload_n (d160_86 L xs) rfl ?_
        refine wg_iconst (d160_87 L xs) (x := 1) (by decide) ?_
        refine wg_iadd (d160_88 L xs) ?_
        refine wg_top (y := (nI (c + a + 1))) (nI_add (c + a) 1) ?_
        refine wg_invv (d160_89 L xs) (kd := 7) (mj := 125) (n := 2) rfl (Or.inl rfl) (ys := [.int (nI (c + a + 1)), .int (nI r)]) (r := []) rfl rfl (by decide) rfl rfl (Nat.le_of_ble_eq_true rfl) (md_at (i := a + 1) hR (by omega) (by omega)) ?_
        rintro _ _ ⟨rfl, rfl⟩
        have hat_a_1 := hga (a + 1)
        refine wg_bipush (d160_92 L xs) (x := 112) (by decide) ?_
        refine wn_icmp_ne (d160_94 L xs) (x := ga D (a + 1)) (y := 112) (by omega) (by omega) (t := 137) (by decide) (fun h63 => by omega) (fun h63 => ?_)
        refine wg_aload_n (d160_97 L xs) rfl ?_
        refine wg_aload_n (d160_98 L xs) rfl ?_
        refine wg_get (d160_99 L xs) (kd := 1) (cj := 9) (k0 := 44) rfl (Or.inl rfl) (by decide) rfl rfl ?_
        refine wg_top (y := 0) h0 ?_
        refine wg_if_ne (d160_102 L xs) (t := 117) (by decide) (fun hp => absurd hp (by decide)) (fun _ => ?_)
        refine wg_aload_n (d160_105 L xs) rfl ?_
        refine wg_iload_n (d160_106 L xs) rfl ?_
        refine wg_iload (d160_107 L xs) rfl ?_
        refine wg_iload (d160_109 L xs) rfl ?_
        refine wg_invv (d160_111 L xs) (kd := 7) (mj := 161) (n := 3) rfl (Or.inl rfl) (ys := [.int (nI (c + en)), .int (nI (c + e + 1)), .int (nI r)]) (r := [.ref 141]) rfl rfl (by decide) rfl rfl (Nat.le_of_ble_eq_true rfl) (by have h := md_action (L := L) (xs := xs) (d := d) (i := e + 1) (j := en) hR hD (by omega); rw [hq] at h; exact h) ?_
        rintro _ _ ⟨rfl, rfl⟩
        refine wg_goto (d160_114 L xs) (t := 121) (by decide) ?_
        refine wg_puti (d160_121 L xs) (cj := 9) (k0 := 44) rfl (by decide) rfl (Nat.le_of_ble_eq_true rfl) rfl rfl rfl ?_
        refine wg_aload_n (d160_124 L xs) rfl ?_
        refine wg_get (d160_125 L xs) (kd := 1) (cj := 9) (k0 := 44) rfl (Or.inl rfl) (by decide) rfl rfl ?_
        refine wg_top (y := 3) rfl ?_
        refine wg_if_le (d160_128 L xs) (t := 135) (by decide) (fun hp => absurd hp (by decide)) (fun _ => ?_)
        refine wg_iconst (d160_131 L xs) (x := 1) (by decide) ?_
        refine wg_goto (d160_132 L xs) (t := 136) (by decide) ?_
        exact wg_iret (d160_136 L xs) rfl rfl ⟨by rw [hq]; rfl, mfr_I s (by decide), fun _ => by rw [hq]; exact ⟨⟨hp.1, (show aJ (some 4) = pM (oI (some 4)) by decide), hp.2.2.1, hp.2.2.2⟩, hok.1, Or.inr (Or.inr (Or.inr rfl)), hok.2.2.1, hok.2.2.2⟩⟩
    · have h0 : s.1 141 44 = 1 := by rw [hp.2.1, h3]; rfl
      refine wg_iload (d160_67 L xs) rfl ?_
      refine wg_iconst (d160_69 L xs) (x := 2) (by decide) ?_
      refine wn_icmp_ne (d160_70 L xs) (x := e - a) (y := 2) (by omega) (by omega) (t := 137) (by decide) (fun h61 => by omega) (fun h61 => ?_)
      refine wg_aload_n (d160_73 L xs) rfl ?_
      refine wg_iload_n (d160_74 L xs) rfl ?_
      refine wg_iload_n (d160_75 L xs) rfl ?_
      refine wg_invv (d160_76 L xs) (kd := 7) (mj := 125) (n := 2) rfl (Or.inl rfl) (ys := [.int (nI (c + a)), .int (nI r)]) (r := []) rfl rfl (by decide) rfl rfl (Nat.le_of_ble_eq_true rfl) (md_at (i := a) hR (by omega) (by omega)) ?_
      rintro _ _ ⟨rfl, rfl⟩
      have hat_a := hga (a)
      refine wg_bipush (d160_79 L xs) (x := 115) (by decide) ?_
      refine wn_icmp_ne (d160_81 L xs) (x := ga D a) (y := 115) (by omega) (by omega) (t := 137) (by decide) (fun h62 => by omega) (fun h62 => ?_)
      refine wg_aload_n (d160_84 L xs) rfl ?_
      refine wg_iload_n (d160_85 L xs) rfl ?_
      refine wg_iload_n (d160_86 L xs) rfl ?_
      refine wg_iconst (d160_87 L xs) (x := 1) (by decide) ?_
      refine wg_iadd (d160_88 L xs) ?_
      refine wg_top (y := (nI (c + a + 1))) (nI_add (c + a) 1) ?_
      refine wg_invv (d160_89 L xs) (kd := 7) (mj := 125) (n := 2) rfl (Or.inl rfl) (ys := [.int (nI (c + a + 1)), .int (nI r)]) (r := []) rfl rfl (by decide) rfl rfl (Nat.le_of_ble_eq_true rfl) (md_at (i := a + 1) hR (by omega) (by omega)) ?_
      rintro _ _ ⟨rfl, rfl⟩
      have hat_a_1 := hga (a + 1)
      refine wg_bipush (d160_92 L xs) (x := 112) (by decide) ?_
      refine wn_icmp_ne (d160_94 L xs) (x := ga D (a + 1)) (y := 112) (by omega) (by omega) (t := 137) (by decide) (fun h63 => by omega) (fun h63 => ?_)
      refine wg_aload_n (d160_97 L xs) rfl ?_
      refine wg_aload_n (d160_98 L xs) rfl ?_
      refine wg_get (d160_99 L xs) (kd := 1) (cj := 9) (k0 := 44) rfl (Or.inl rfl) (by decide) rfl rfl ?_
      refine wg_top (y := 1) h0 ?_
      refine wg_if_ne (d160_102 L xs) (t := 117) (by decide) (fun _ => ?_) (fun hn => absurd (by decide) hn)
      refine wg_aload_n (d160_117 L xs) rfl ?_
      refine wg_get (d160_118 L xs) (kd := 1) (cj := 9) (k0 := 44) rfl (Or.inl rfl) (by decide) rfl rfl ?_
      refine wg_top (y := 1) h0 ?_
      refine wg_puti (d160_121 L xs) (cj := 9) (k0 := 44) rfl (by decide) rfl (Nat.le_of_ble_eq_true rfl) rfl rfl rfl ?_
      refine wg_aload_n (d160_124 L xs) rfl ?_
      refine wg_get (d160_125 L xs) (kd := 1) (cj := 9) (k0 := 44) rfl (Or.inl rfl) (by decide) rfl rfl ?_
      refine wg_top (y := 1) rfl ?_
      refine wg_if_le (d160_128 L xs) (t := 135) (by decide) (fun hp => absurd hp (by decide)) (fun _ => ?_)
      refine wg_iconst (d160_131 L xs) (x := 1) (by decide) ?_
      refine wg_goto (d160_132 L xs) (t := 136) (by decide) ?_
      exact wg_iret (d160_136 L xs) rfl rfl ⟨by rw [hno (by rw [h3]; decide)]; rfl, mfr_I s (by decide), fun _ => by rw [hno (by rw [h3]; decide)]; exact ⟨⟨hp.1, h0.symm.trans hp.2.1, hp.2.2.1, hp.2.2.2⟩, hok⟩⟩
    · have h0 : s.1 141 44 = 2 := by rw [hp.2.1, h3]; rfl
      refine wg_iload (d160_67 L xs) rfl ?_
      refine wg_iconst (d160_69 L xs) (x := 2) (by decide) ?_
      refine wn_icmp_ne (d160_70 L xs) (x := e - a) (y := 2) (by omega) (by omega) (t := 137) (by decide) (fun h61 => by omega) (fun h61 => ?_)
      refine wg_aload_n (d160_73 L xs) rfl ?_
      refine wg_iload_n (d160_74 L xs) rfl ?_
      refine wg_iload_n (d160_75 L xs) rfl ?_
      refine wg_invv (d160_76 L xs) (kd := 7) (mj := 125) (n := 2) rfl (Or.inl rfl) (ys := [.int (nI (c + a)), .int (nI r)]) (r := []) rfl rfl (by decide) rfl rfl (Nat.le_of_ble_eq_true rfl) (md_at (i := a) hR (by omega) (by omega)) ?_
      rintro _ _ ⟨rfl, rfl⟩
      have hat_a := hga (a)
      refine wg_bipush (d160_79 L xs) (x := 115) (by decide) ?_
      refine wn_icmp_ne (d160_81 L xs) (x := ga D a) (y := 115) (by omega) (by omega) (t := 137) (by decide) (fun h62 => by omega) (fun h62 => ?_)
      refine wg_aload_n (d160_84 L xs) rfl ?_
      refine wg_iload_n (d160_85 L xs) rfl ?_
      refine wg_iload_n (d160_86 L xs) rfl ?_
      refine wg_iconst (d160_87 L xs) (x := 1) (by decide) ?_
      refine wg_iadd (d160_88 L xs) ?_
      refine wg_top (y := (nI (c + a + 1))) (nI_add (c + a) 1) ?_
      refine wg_invv (d160_89 L xs) (kd := 7) (mj := 125) (n := 2) rfl (Or.inl rfl) (ys := [.int (nI (c + a + 1)), .int (nI r)]) (r := []) rfl rfl (by decide) rfl rfl (Nat.le_of_ble_eq_true rfl) (md_at (i := a + 1) hR (by omega) (by omega)) ?_
      rintro _ _ ⟨rfl, rfl⟩
      have hat_a_1 := hga (a + 1)
      refine wg_bipush (d160_92 L xs) (x := 112) (by decide) ?_
      refine wn_icmp_ne (d160_94 L xs) (x := ga D (a + 1)) (y := 112) (by omega) (by omega) (t := 137) (by decide) (fun h63 => by omega) (fun h63 => ?_)
      refine wg_aload_n (d160_97 L xs) rfl ?_
      refine wg_aload_n (d160_98 L xs) rfl ?_
      refine wg_get (d160_99 L xs) (kd := 1) (cj := 9) (k0 := 44) rfl (Or.inl rfl) (by decide) rfl rfl ?_
      refine wg_top (y := 2) h0 ?_
      refine wg_if_ne (d160_102 L xs) (t := 117) (by decide) (fun _ => ?_) (fun hn => absurd (by decide) hn)
      refine wg_aload_n (d160_117 L xs) rfl ?_
      refine wg_get (d160_118 L xs) (kd := 1) (cj := 9) (k0 := 44) rfl (Or.inl rfl) (by decide) rfl rfl ?_
      refine wg_top (y := 2) h0 ?_
      refine wg_puti (d160_121 L xs) (cj := 9) (k0 := 44) rfl (by decide) rfl (Nat.le_of_ble_eq_true rfl) rfl rfl rfl ?_
      refine wg_aload_n (d160_124 L xs) rfl ?_
      refine wg_get (d160_125 L xs) (kd := 1) (cj := 9) (k0 := 44) rfl (Or.inl rfl) (by decide) rfl rfl ?_
      refine wg_top (y := 2) rfl ?_
      refine wg_if_le (d160_128 L xs) (t := 135) (by decide) (fun hp => absurd hp (by decide)) (fun _ => ?_)
      refine wg_iconst (d160_131 L xs) (x := 1) (by decide) ?_
      refine wg_goto (d160_132 L xs) (t := 136) (by decide) ?_
      exact wg_iret (d160_136 L xs) rfl rfl ⟨by rw [hno (by rw [h3]; decide)]; rfl, mfr_I s (by decide), fun _ => by rw [hno (by rw [h3]; decide)]; exact ⟨⟨hp.1, h0.symm.trans hp.2.1, hp.2.2.1, hp.2.2.2⟩, hok⟩⟩
    · have h0 : s.1 141 44 = 3 := by rw [hp.2.1, h3]; rfl
      refine wg_iload (d160_67 L xs) rfl ?_
      refine wg_iconst (d160_69 L xs) (x := 2) (by decide) ?_
      refine wn_icmp_ne (d160_70 L xs) (x := e - a) (y := 2) (by omega) (by omega) (t := 137) (by decide) (fun h61 => by omega) (fun h61 => ?_)
      refine wg_aload_n (d160_73 L xs) rfl ?_
      refine wg_iload_n (d160_74 L xs) rfl ?_
      refine wg_iload_n (d160_75 L xs) rfl ?_
      refine wg_invv (d160_76 L xs) (kd := 7) (mj := 125) (n := 2) rfl (Or.inl rfl) (ys := [.int (nI (c + a)), .int (nI r)]) (r := []) rfl rfl (by decide) rfl rfl (Nat.le_of_ble_eq_true rfl) (md_at (i := a) hR (by omega) (by omega)) ?_
      rintro _ _ ⟨rfl, rfl⟩
      have hat_a := hga (a)
      refine wg_bipush (d160_79 L xs) (x := 115) (by decide) ?_
      refine wn_icmp_ne (d160_81 L xs) (x := ga D a) (y := 115) (by omega) (by omega) (t := 137) (by decide) (fun h62 => by omega) (fun h62 => ?_)
      refine wg_aload_n (d160_84 L xs) rfl ?_
      refine wg_iload_n (d160_85 L xs) rfl ?_
      refine wg_iload_n (d160_86 L xs) rfl ?_
      refine wg_iconst (d160_87 L xs) (x := 1) (by decide) ?_
      refine wg_iadd (d160_88 L xs) ?_
      refine wg_top (y := (nI (c + a + 1))) (nI_add (c + a) 1) ?_
      refine wg_invv (d160_89 L xs) (kd := 7) (mj := 125) (n := 2) rfl (Or.inl rfl) (ys := [.int (nI (c + a + 1)), .int (nI r)]) (r := []) rfl rfl (by decide) rfl rfl (Nat.le_of_ble_eq_true rfl) (md_at (i := a + 1) hR (by omega) (by omega)) ?_
      rintro _ _ ⟨rfl, rfl⟩
      have hat_a_1 := hga (a + 1)
      refine wg_bipush (d160_92 L xs) (x := 112) (by decide) ?_
      refine wn_icmp_ne (d160_94 L xs) (x := ga D (a + 1)) (y := 112) (by omega) (by omega) (t := 137) (by decide) (fun h63 => by omega) (fun h63 => ?_)
      refine wg_aload_n (d160_97 L xs) rfl ?_
      refine wg_aload_n (d160_98 L xs) rfl ?_
      refine wg_get (d160_99 L xs) (kd := 1) (cj := 9) (k0 := 44) rfl (Or.inl rfl) (by decide) rfl rfl ?_
      refine wg_top (y := 3) h0 ?_
      refine wg_if_ne (d160_102 L xs) (t := 117) (by decide) (fun _ => ?_) (fun hn => absurd (by decide) hn)
      refine wg_aload_n (d160_117 L xs) rfl ?_
      refine wg_get (d160_118 L xs) (kd := 1) (cj := 9) (k0 := 44) rfl (Or.inl rfl) (by decide) rfl rfl ?_
      refine wg_top (y := 3) h0 ?_
      refine wg_puti (d160_121 L xs) (cj := 9) (k0 := 44) rfl (by decide) rfl (Nat.le_of_ble_eq_true rfl) rfl rfl rfl ?_
      refine wg_aload_n (d160_124 L xs) rfl ?_
      refine wg_get (d160_125 L xs) (kd := 1) (cj := 9) (k0 := 44) rfl (Or.inl rfl) (by decide) rfl rfl ?_
      refine wg_top (y := 3) rfl ?_
      refine wg_if_le (d160_128 L xs) (t := 135) (by decide) (fun hp => absurd hp (by decide)) (fun _ => ?_)
      refine wg_iconst (d160_131 L xs) (x := 1) (by decide) ?_
      refine wg_goto (d160_132 L xs) (t := 136) (by decide) ?_
      exact wg_iret (d160_136 L xs) rfl rfl ⟨by rw [hno (by rw [h3]; decide)]; rfl, mfr_I s (by decide), fun _ => by rw [hno (by rw [h3]; decide)]; exact ⟨⟨hp.1, h0.symm.trans hp.2.1, hp.2.2.1, hp.2.2.2⟩, hok⟩⟩
  · have hT : f_tg2 (gl D) a en e P = f_tg3 (gl D) a en e P := by unfold f_tg2; rw [if_neg (fun z => hw (by rw [← wd_ga (by omega)]; exact z.2))]
    have hwd0 := hwd.resolve_left (fun z => absurd z.2 (by rw [bI_f' hw]; decide))
    clear hwd
    rw [hT]
    refine wg_iload (d160_67 L xs) rfl ?_
    refine wg_iconst (d160_69 L xs) (x := 2) (by decide) ?_
    refine wn_icmp_ne (d160_70 L xs) (x := e - a) (y := 2) (by omega) (by omega) (t := 137) (by decide) (fun h61 => ?_) (fun h61 => ?_)
    · exact md_tg3 hR hae hen hD hp hok
    · refine wg_aload_n (d160_73 L xs) rfl ?_
      refine wg_iload_n (d160_74 L xs) rfl ?_
      refine wg_iload_n (d160_75 L xs) rfl ?_
      refine wg_invv (d160_76 L xs) (kd := 7) (mj := 125) (n := 2) rfl (Or.inl rfl) (ys := [.int (nI (c + a)), .int (nI r)]) (r := []) rfl rfl (by decide) rfl rfl (Nat.le_of_ble_eq_true rfl) (md_at (i := a) hR (by omega) (by omega)) ?_
      rintro _ _ ⟨rfl, rfl⟩
      have hat_a := hga (a)
      refine wg_bipush (d160_79 L xs) (x := 115) (by decide) ?_
      refine wn_icmp_ne (d160_81 L xs) (x := ga D a) (y := 115) (by omega) (by omega) (t := 137) (by decide) (fun h62 => ?_) (fun h62 => ?_)
      · exact md_tg3 hR hae hen hD hp hok
      · refine wg_aload_n (d160_84 L xs) rfl ?_
        refine wg_iload_n (d160_85 L xs) rfl ?_
        refine wg_iload_n (d160_86 L xs) rfl ?_
        refine wg_iconst (d160_87 L xs) (x := 1) (by decide) ?_
        refine wg_iadd (d160_88 L xs) ?_
        refine wg_top (y := (nI (c + a + 1))) (nI_add (c + a) 1) ?_
        refine wg_invv (d160_89 L xs) (kd := 7) (mj := 125) (n := 2) rfl (Or.inl rfl) (ys := [.int (nI (c + a + 1)), .int (nI r)]) (r := []) rfl rfl (by decide) rfl rfl (Nat.le_of_ble_eq_true rfl) (md_at (i := a + 1) hR (by omega) (by omega)) ?_
        rintro _ _ ⟨rfl, rfl⟩
        have hat_a_1 := hga (a + 1)
        refine wg_bipush (d160_92 L xs) (x := 112) (by decide) ?_
        refine wn_icmp_ne (d160_94 L xs) (x := ga D (a + 1)) (y := 112) (by omega) (by omega) (t := 137) (by decide) (fun h63 => ?_) (fun h63 => ?_)
        · exact md_tg3 hR hae hen hD hp hok
        · exfalso; omega
theorem md_tg1 {c7 : Option Value} (hR : isRec s r c D) (hae : a < e) (hen : e + 1 < en) (hD : en ≤ D.length) (hp : isPM s P) (hok : okP P) : wp L xs (d + 3) 160 10 [some (.ref 141), some (.int (nI r)), some (.int (nI (c + a))), some (.int (nI (c + e))), some (.int (nI (c + en))), some (.int (nI (e - a))), some (.int (nI (c + e + 1))), c7] [] s (fun rv s' => rv = some (.int (nI (bI (f_tg1 (gl D) a en e P).1))) ∧ mfr s s' pF [] ∧ ((f_tg1 (gl D) a en e P).1 = true → isPM s' (f_tg1 (gl D) a en e P).2 ∧ okP (f_tg1 (gl D) a en e P).2)) := by
  have hr16 := hR.1
  have hc1 := hR.2.1
  have hcl := hR.2.2.1
  have hga := fun k => ga_lt hR k
  have hwd := wd_p (g := ga D) a e
  by_cases hw : t_word (ga D) a e w_p = true
  · have hwg : t_word (gl D) a e w_p = true := by rw [wd_ga (by omega)]; exact hw
    rw [hw] at hwd
    have hwd1 := hwd.resolve_right (fun z => absurd z.2 (by decide))
    clear hwd
    have hno : ∀ (h : ¬ P.1 = -1), f_tg1 (gl D) a en e P = (true, P) := fun h => by unfold f_tg1; rw [if_neg (fun z => h z.1), tg_2 (wd_len (by show ¬ e - a = 2; omega)) (wd_len (by show ¬ e - a = 4; omega)) (wd_len (by show ¬ e - a = 3; omega))]
    rcases hok.1 with h3 | h3 | h3 | h3
    · have hT : f_tg1 (gl D) a en e P = (decide (¬ oI (t_act (gl D) (e + 1) en) = -1), (oI (t_act (gl D) (e + 1) en), P.2)) := by unfold f_tg1; rw [if_pos ⟨h3, hwg⟩]
      have h0 : s.1 141 43 = 0 := by rw [hp.1, h3]; rfl
      rw [hT]
      rcases act_v (g := gl D) (i := e + 1) (j := en) with hq | hq | hq | hq
      · refine wg_iload (d160_10 L xs) rfl ?_
        refine wg_iconst (d160_12 L xs) (x := 1) (by decide) ?_
        refine wn_icmp_ne (d160_13 L xs) (x := e - a) (y := 1) (by omega) (by omega) (t := 67) (by decide) (fun h61 => by omega) (fun h61 => ?_)
        refine wg_aload_n (d160_16 L xs) rfl ?_
        refine wg_iload_n (d160_17 L xs) rfl ?_
        refine wg_iload_n (d160_18 L xs) rfl ?_
        refine wg_invv (d160_19 L xs) (kd := 7) (mj := 125) (n := 2) rfl (Or.inl rfl) (ys := [.int (nI (c + a)), .int (nI r)]) (r := []) rfl rfl (by decide) rfl rfl (Nat.le_of_ble_eq_true rfl) (md_at (i := a) hR (by omega) (by omega)) ?_
        rintro _ _ ⟨rfl, rfl⟩
        have hat_a := hga (a)
        refine wg_bipush (d160_22 L xs) (x := 112) (by decide) ?_
        refine wn_icmp_ne (d160_24 L xs) (x := ga D a) (y := 112) (by omega) (by omega) (t := 67) (by decide) (fun h62 => by omega) (fun h62 => ?_)
        refine wg_aload_n (d160_27 L xs) rfl ?_
        refine wg_aload_n (d160_28 L xs) rfl ?_
        refine wg_get (d160_29 L xs) (kd := 1) (cj := 9) (k0 := 43) rfl (Or.inl rfl) (by decide) rfl rfl ?_
        refine wg_top (y := 0) h0 ?_
        refine wg_if_ne (d160_32 L xs) (t := 47) (by decide) (fun hp => absurd hp (by decide)) (fun _ => ?_)
        refine wg_aload_n (d160_35 L xs) rfl ?_
        refine wg_iload_n (d160_36 L xs) rfl ?_
        refine wg_iload (d160_37 L xs) rfl ?_
        refine wg_iload (d160_39 L xs) rfl ?_
        refine wg_invv (d160_41 L xs) (kd := 7) (mj := 161) (n := 3) rfl (Or.inl rfl) (ys := [.int (nI (c + en)), .int (nI (c + e + 1)), .int (nI r)]) (r := [.ref 141]) rfl rfl (by decide) rfl rfl (Nat.le_of_ble_eq_true rfl) (by have h := md_action (L := L) (xs := xs) (d := d) (i := e + 1) (j := en) hR hD (by omega); rw [hq] at h; exact h) ?_
        rintro _ _ ⟨rfl, rfl⟩
        refine wg_goto (d160_44 L xs) (t := 51) (by decide) ?_
        refine wg_puti (d160_51 L xs) (cj := 9) (k0 := 43) rfl (by decide) rfl (Nat.le_of_ble_eq_true rfl) rfl rfl rfl ?_
        refine wg_aload_n (d160_54 L xs) rfl ?_
        refine wg_get (d160_55 L xs) (kd := 1) (cj := 9) (k0 := 43) rfl (Or.inl rfl) (by decide) rfl rfl ?_
        refine wg_top (y := (-1)) rfl ?_
        refine wg_if_le (d160_58 L xs) (t := 65) (by decide) (fun _ => ?_) (fun hn => absurd (by decide) hn)
        refine wg_iconst (d160_65 L xs) (x := 0) (by decide) ?_
        exact wg_iret (d160_66 L xs) rfl rfl ⟨by rw [hq]; rfl, mfr_I s (by decide), fun z => by rw [hq] at z; exact absurd z (by show ¬ decide (¬ (-1 : Int32) = -1) = true; decide)⟩
      · refine wg_iload (d160_10 L xs) rfl ?_
        refine wg_iconst (d160_12 L xs) (x := 1) (by decide) ?_
        refine wn_icmp_ne (d160_13 L xs) (x := e - a) (y := 1) (by omega) (by omega) (t := 67) (by decide) (fun h61 => by omega) (fun h61 => ?_)
        refine wg_aload_n (d160_16 L xs) rfl ?_
        refine wg_iload_n (d160_17 L xs) rfl ?_
        refine wg_iload_n (d160_18 L xs) rfl ?_
        refine wg_invv (d160_19 L xs) (kd := 7) (mj := 125) (n := 2) rfl (Or.inl rfl) (ys := [.int (nI (c + a)), .int (nI r)]) (r := []) rfl rfl (by decide) rfl rfl (Nat.le_of_ble_eq_true rfl) (md_at (i := a) hR (by omega) (by omega)) ?_
        rintro _ _ ⟨rfl, rfl⟩
        have hat_a := hga (a)
        refine wg_bipush (d160_22 L xs) (x := 112) (by decide) ?_
        refine wn_icmp_ne (d160_24 L xs) (x := ga D a) (y := 112) (by omega) (by omega) (t := 67) (by decide) (fun h62 => by omega) (fun h62 => ?_)
        refine wg_aload_n (d160_27 L xs) rfl ?_
        refine wg_aload_n (d160_28 L xs) rfl ?_
        refine wg_get (d160_29 L xs) (kd := 1) (cj := 9) (k0 := 43) rfl (Or.inl rfl) (by decide) rfl rfl ?_
        refine wg_top (y := 0) h0 ?_
        refine wg_if_ne (d160_32 L xs) (t := 47) (by decide) (fun hp => absurd hp (by decide)) (fun _ => ?_)
        refine wg_aload_n (d160_35 L xs) rfl ?_
        refine wg_iload_n (d160_36 L xs) rfl ?_
        refine wg_iload (d160_37 L xs) rfl ?_
        refine wg_iload (d160_39 L xs) rfl ?_
        refine wg_invv (d160_41 L xs) (kd := 7) (mj := 161) (n := 3) rfl (Or.inl rfl) (ys := [.int (nI (c + en)), .int (nI (c + e + 1)), .int (nI r)]) (r := [.ref 141]) rfl rfl (by decide) rfl rfl (Nat.le_of_ble_eq_true rfl) (by have h := md_action (L := L) (xs := xs) (d := d) (i := e + 1) (j := en) hR hD (by omega); rw [hq] at h; exact h) ?_
        rintro _ _ ⟨rfl, rfl⟩
        refine wg_goto (d160_44 L xs) (t := 51) (by decide) ?_
        refine wg_puti (d160_51 L xs) (cj := 9) (k0 := 43) rfl (by decide) rfl (Nat.le_of_ble_eq_true rfl) rfl rfl rfl ?_
        refine wg_aload_n (d160_54 L xs) rfl ?_
        refine wg_get (d160_55 L xs) (kd := 1) (cj := 9) (k0 := 43) rfl (Or.inl rfl) (by decide) rfl rfl ?_
        refine wg_top (y := 1) rfl ?_
        refine wg_if_le (d160_58 L xs) (t := 65) (by decide) (fun hp => absurd hp (by decide)) (fun _ => ?_)
        refine wg_iconst (d160_61 L xs) (x := 1) (by decide) ?_
        refine wg_goto (d160_62 L xs) (t := 66) (by decide) ?_
        exact wg_iret (d160_66 L xs) rfl rfl ⟨by rw [hq]; rfl, mfr_I s (by decide), fun _ => by rw [hq]; exact ⟨⟨(show aJ (some 2) = pM (oI (some 2)) by decide), hp.2.1, hp.2.2.1, hp.2.2.2⟩, Or.inr (Or.inl rfl), hok.2.1, hok.2.2.1, hok.2.2.2⟩⟩
      · refine wg_iload (d160_10 L xs) rfl ?_
        refine wg_iconst (d160_12 L xs) (x := 1) (by decide) ?_
        refine wn_icmp_ne (d160_13 L xs) (x := e - a) (y := 1) (by omega) (by omega) (t := 67) (by decide) (fun h61 => by omega) (fun h61 => ?_)
        refine wg_aload_n (d160_16 L xs) rfl ?_
        refine wg_iload_n (d160_17 L xs) rfl ?_
        refine wg_iload_n (d160_18 L xs) rfl ?_
        refine wg_invv (d160_19 L xs) (kd := 7) (mj := 125) (n := 2) rfl (Or.inl rfl) (ys := [.int (nI (c + a)), .int (nI r)]) (r := []) rfl rfl (by decide) rfl rfl (Nat.le_of_ble_eq_true rfl) (md_at (i := a) hR (by omega) (by omega)) ?_
        rintro _ _ ⟨rfl, rfl⟩
        have hat_a := hga (a)
        refine wg_bipush (d160_22 L xs) (x := 112) (by decide) ?_
        refine wn_icmp_ne (d160_24 L xs) (x := ga D a) (y := 112) (by omega) (by omega) (t := 67) (by decide) (fun h62 => by omega) (fun h62 => ?_)
        refine wg_aload_n (d160_27 L xs) rfl ?_
        refine wg_aload_n (d160_28 L xs) rfl ?_
        refine wg_get (d160_29 L xs) (kd := 1) (cj := 9) (k0 := 43) rfl (Or.inl rfl) (by decide) rfl rfl ?_
        refine wg_top (y := 0) h0 ?_
        refine wg_if_ne (d160_32 L xs) (t := 47) (by decide) (fun hp => absurd hp (by decide)) (fun _ => ?_)
        refine wg_aload_n (d160_35 L xs) rfl ?_
        refine wg_iload_n (d160_36 L xs) rfl ?_
        refine wg_iload (d160_37 L xs) rfl ?_
        refine wg_iload (d160_39 L xs) rfl ?_
        refine wg_invv (d160_41 L xs) (kd := 7) (mj := 161) (n := 3) rfl (Or.inl rfl) (ys := [.int (nI (c + en)), .int (nI (c + e + 1)), .int (nI r)]) (r := [.ref 141]) rfl rfl (by decide) rfl rfl (Nat.le_of_ble_eq_true rfl) (by have h := md_action (L := L) (xs := xs) (d := d) (i := e + 1) (j := en) hR hD (by omega); rw [hq] at h; exact h) ?_
        rintro _ _ ⟨rfl, rfl⟩
        refine wg_goto (d160_44 L xs) (t := 51) (by decide) ?_
        refine wg_puti (d160_51 L xs) (cj := 9) (k0 := 43) rfl (by decide) rfl (Nat.le_of_ble_eq_true rfl) rfl rfl rfl ?_
        refine wg_aload_n (d160_54 L xs) rfl ?_
        refine wg_get (d160_55 L xs) (kd := 1) (cj := 9) (k0 := 43) rfl (Or.inl rfl) (by decide) rfl rfl ?_
        refine wg_top (y := 2) rfl ?_
        refine wg_if_le (d160_58 L xs) (t := 65) (by decide) (fun hp => absurd hp (by decide)) (fun _ => ?_)
        refine wg_iconst (d160_61 L xs) (x := 1) (by decide) ?_
        refine wg_goto (d160_62 L xs) (t := 66) (by decide) ?_
        exact wg_iret (d160_66 L xs) rfl rfl ⟨by rw [hq]; rfl, mfr_I s (by decide), fun _ => by rw [hq]; exact ⟨⟨(show aJ (some 3) = pM (oI (some 3)) by decide), hp.2.1, hp.2.2.1, hp.2.2.2⟩, Or.inr (Or.inr (Or.inl rfl)), hok.2.1, hok.2.2.1, hok.2.2.2⟩⟩
      · refine wg_iload (d160_10 L xs) rfl ?_
        refine wg_iconst (d160_12 L xs) (x := 1) (by decide) ?_
        refine wn_icmp_ne (d160_13 L xs) (x := e - a) (y := 1) (by omega) (by omega) (t := 67) (by decide) (fun h61 => by omega) (fun h61 => ?_)
        refine wg_aload_n (d160_16 L xs) rfl ?_
        refine wg_iload_n (d160_17 L xs) rfl ?_
        refine wg_iload_n (d160_18 L xs) rfl ?_
        refine wg_invv (d160_19 L xs) (kd := 7) (mj := 125) (n := 2) rfl (Or.inl rfl) (ys := [.int (nI (c + a)), .int (nI r)]) (r := []) rfl rfl (by decide) rfl rfl (Nat.le_of_ble_eq_true rfl) (md_at (i := a) hR (by omega) (by omega)) ?_
        rintro _ _ ⟨rfl, rfl⟩
        have hat_a := hga (a)
        refine wg_bipush (d160_22 L xs) (x := 112) (by decide) ?_
        refine wn_icmp_ne (d160_24 L xs) (x := ga D a) (y := 112) (by omega) (by omega) (t := 67) (by decide) (fun h62 => by omega) (fun h62 => ?_)
        refine wg_aload_n (d160_27 L xs) rfl ?_
        refine wg_aload_n (d160_28 L xs) rfl ?_
        refine wg_get (d160_29 L xs) (kd := 1) (cj := 9) (k0 := 43) rfl (Or.inl rfl) (by decide) rfl rfl ?_
        refine wg_top (y := 0) h0 ?_
        refine wg_if_ne (d160_32 L xs) (t := 47) (by decide) (fun hp => absurd hp (by decide)) (fun _ => ?_)
        refine wg_aload_n (d160_35 L xs) rfl ?_
        refine wg_iload_n (d160_36 L xs) rfl ?_
        refine wg_iload (d160_37 L xs) rfl ?_
        refine wg_iload (d160_39 L xs) rfl ?_
        refine wg_invv (d160_41 L xs) (kd := 7) (mj := 161) (n := 3) rfl (Or.inl rfl) (ys := [.int (nI (c + en)), .int (nI (c + e + 1)), .int (nI r)]) (r := [.ref 141]) rfl rfl (by decide) rfl rfl (Nat.le_of_ble_eq_true rfl) (by have h := md_action (L := L) (xs := xs) (d := d) (i := e + 1) (j := en) hR hD (by omega); rw [hq] at h; exact h) ?_
        rintro _ _ ⟨rfl, rfl⟩
        refine wg_goto (d160_44 L xs) (t := 51) (by decide) ?_
        refine wg_puti (d160_51 L xs) (cj := 9) (k0 := 43) rfl (by decide) rfl (Nat.le_of_ble_eq_true rfl) rfl rfl rfl ?_
        refine wg_aload_n (d160_54 L xs) rfl ?_
        refine wg_get (d160_55 L xs) (kd := 1) (cj := 9) (k0 := 43) rfl (Or.inl rfl) (by decide) rfl rfl ?_
        refine wg_top (y := 3) rfl ?_
        refine wg_if_le (d160_58 L xs) (t := 65) (by decide) (fun hp => absurd hp (by decide)) (fun _ => ?_)
        refine wg_iconst (d160_61 L xs) (x := 1) (by decide) ?_
        refine wg_goto (d160_62 L xs) (t := 66) (by decide) ?_
        exact wg_iret (d160_66 L xs) rfl rfl ⟨by rw [hq]; rfl, mfr_I s (by decide), fun _ => by rw [hq]; exact ⟨⟨(show aJ (some 4) = pM (oI (some 4)) by decide), hp.2.1, hp.2.2.1, hp.2.2.2⟩, Or.inr (Or.inr (Or.inr rfl)), hok.2.1, hok.2.2.1, hok.2.2.2⟩⟩
    · have h0 : s.1 141 43 = 1 := by rw [hp.1, h3]; rfl
      refine wg_iload (d160_10 L xs) rfl ?_
      refine wg_iconst (d160_12 L xs) (x := 1) (by decide) ?_
      refine wn_icmp_ne (d160_13 L xs) (x := e - a) (y := 1) (by omega) (by omega) (t := 67) (by decide) (fun h61 => by omega) (fun h61 => ?_)
      refine wg_aload_n (d160_16 L xs) rfl ?_
      refine wg_iload_n (d160_17 L xs) rfl ?_
      refine wg_iload_n (d160_18 L xs) rfl ?_
      refine wg_invv (d160_19 L xs) (kd := 7) (mj := 125) (n := 2) rfl (Or.inl rfl) (ys := [.int (nI (c + a)), .int (nI r)]) (r := []) rfl rfl (by decide) rfl rfl (Nat.le_of_ble_eq_true rfl) (md_at (i := a) hR (by omega) (by omega)) ?_
      rintro _ _ ⟨rfl, rfl⟩
      have hat_a := hga (a)
      refine wg_bipush (d160_22 L xs) (x := 112) (by decide) ?_
      refine wn_icmp_ne (d160_24 L xs) (x := ga D a) (y := 112) (by omega) (by omega) (t := 67) (by decide) (fun h62 => by omega) (fun h62 => ?_)
      refine wg_aload_n (d160_27 L xs) rfl ?_
      refine wg_aload_n (d160_28 L xs) rfl ?_
      refine wg_get (d160_29 L xs) (kd := 1) (cj := 9) (k0 := 43) rfl (Or.inl rfl) (by decide) rfl rfl ?_
      refine wg_top (y := 1) h0 ?_
      refine wg_if_ne (d160_32 L xs) (t := 47) (by decide) (fun _ => ?_) (fun hn => absurd (by decide) hn)
      refine wg_aload_n (d160_47 L xs) rfl ?_
      refine wg_get (d160_48 L xs) (kd := 1) (cj := 9) (k0 := 43) rfl (Or.inl rfl) (by decide) rfl rfl ?_
      refine wg_top (y := 1) h0 ?_
      refine wg_puti (d160_51 L xs) (cj := 9) (k0 := 43) rfl (by decide) rfl (Nat.le_of_ble_eq_true rfl) rfl rfl rfl ?_
      refine wg_aload_n (d160_54 L xs) rfl ?_
      refine wg_get (d160_55 L xs) (kd := 1) (cj := 9) (k0 := 43) rfl (Or.inl rfl) (by decide) rfl rfl ?_
      refine wg_top (y := 1) rfl ?_
      refine wg_if_le (d160_58 L xs) (t := 65) (by decide) (fun hp => absurd hp (by decide)) (fun _ => ?_)
      refine wg_iconst (d160_61 L xs) (x := 1) (by decide) ?_
      refine wg_goto (d160_62 L xs) (t := 66) (by decide) ?_
      exact wg_iret (d160_66 L xs) rfl rfl ⟨by rw [hno (by rw [h3]; decide)]; rfl, mfr_I s (by decide), fun _ => by rw [hno (by rw [h3]; decide)]; exact ⟨⟨h0.symm.trans hp.1, hp.2.1, hp.2.2.1, hp.2.2.2⟩, hok⟩⟩
    · have h0 : s.1 141 43 = 2 := by rw [hp.1, h3]; rfl
      refine wg_iload (d160_10 L xs) rfl ?_
      refine wg_iconst (d160_12 L xs) (x := 1) (by decide) ?_
      refine wn_icmp_ne (d160_13 L xs) (x := e - a) (y := 1) (by omega) (by omega) (t := 67) (by decide) (fun h61 => by omega) (fun h61 => ?_)
      refine wg_aload_n (d160_16 L xs) rfl ?_
      refine wg_iload_n (d160_17 L xs) rfl ?_
      refine wg_iload_n (d160_18 L xs) rfl ?_
      refine wg_invv (d160_19 L xs) (kd := 7) (mj := 125) (n := 2) rfl (Or.inl rfl) (ys := [.int (nI (c + a)), .int (nI r)]) (r := []) rfl rfl (by decide) rfl rfl (Nat.le_of_ble_eq_true rfl) (md_at (i := a) hR (by omega) (by omega)) ?_
      rintro _ _ ⟨rfl, rfl⟩
      have hat_a := hga (a)
      refine wg_bipush (d160_22 L xs) (x := 112) (by decide) ?_
      refine wn_icmp_ne (d160_24 L xs) (x := ga D a) (y := 112) (by omega) (by omega) (t := 67) (by decide) (fun h62 => by omega) (fun h62 => ?_)
      refine wg_aload_n (d160_27 L xs) rfl ?_
      refine wg_aload_n (d160_28 L xs) rfl ?_
      refine wg_get (d160_29 L xs) (kd := 1) (cj := 9) (k0 := 43) rfl (Or.inl rfl) (by decide) rfl rfl ?_
      refine wg_top (y := 2) h0 ?_
      refine wg_if_ne (d160_32 L xs) (t := 47) (by decide) (fun _ => ?_) (fun hn => absurd (by decide) hn)
      refine wg_aload_n (d160_47 L xs) rfl ?_
      refine wg_get (d160_48 L xs) (kd := 1) (cj := 9) (k0 := 43) rfl (Or.inl rfl) (by decide) rfl rfl ?_
      refine wg_top (y := 2) h0 ?_
      refine wg_puti (d160_51 L xs) (cj := 9) (k0 := 43) rfl (by decide) rfl (Nat.le_of_ble_eq_true rfl) rfl rfl rfl ?_
      refine wg_aload_n (d160_54 L xs) rfl ?_
      refine wg_get (d160_55 L xs) (kd := 1) (cj := 9) (k0 := 43) rfl (Or.inl rfl) (by decide) rfl rfl ?_
      refine wg_top (y := 2) rfl ?_
      refine wg_if_le (d160_58 L xs) (t := 65) (by decide) (fun hp => absurd hp (by decide)) (fun _ => ?_)
      refine wg_iconst (d160_61 L xs) (x := 1) (by decide) ?_
      refine wg_goto (d160_62 L xs) (t := 66) (by decide) ?_
      exact wg_iret (d160_66 L xs) rfl rfl ⟨by rw [hno (by rw [h3]; decide)]; rfl, mfr_I s (by decide), fun _ => by rw [hno (by rw [h3]; decide)]; exact ⟨⟨h0.symm.trans hp.1, hp.2.1, hp.2.2.1, hp.2.2.2⟩, hok⟩⟩
    · have h0 : s.1 141 43 = 3 := by rw [hp.1, h3]; rfl
      refine wg_iload (d160_10 L xs) rfl ?_
      refine wg_iconst (d160_12 L xs) (x := 1) (by decide) ?_
      refine wn_icmp_ne (d160_13 L xs) (x := e - a) (y := 1) (by omega) (by omega) (t := 67) (by decide) (fun h61 => by omega) (fun h61 => ?_)
      refine wg_aload_n (d160_16 L xs) rfl ?_
      refine wg_iload_n (d160_17 L xs) rfl ?_
      refine wg_iload_n (d160_18 L xs) rfl ?_
      refine wg_invv (d160_19 L xs) (kd := 7) (mj := 125) (n := 2) rfl (Or.inl rfl) (ys := [.int (nI (c + a)), .int (nI r)]) (r := []) rfl rfl (by decide) rfl rfl (Nat.le_of_ble_eq_true rfl) (md_at (i := a) hR (by omega) (by omega)) ?_
      rintro _ _ ⟨rfl, rfl⟩
      have hat_a := hga (a)
      refine wg_bipush (d160_22 L xs) (x := 112) (by decide) ?_
      refine wn_icmp_ne (d160_24 L xs) (x := ga D a) (y := 112) (by omega) (by omega) (t := 67) (by decide) (fun h62 => by omega) (fun h62 => ?_)
      refine wg_aload_n (d160_27 L xs) rfl ?_
      refine wg_aload_n (d160_28 L xs) rfl ?_
      refine wg_get (d160_29 L xs) (kd := 1) (cj := 9) (k0 := 43) rfl (Or.inl rfl) (by decide) rfl rfl ?_
      refine wg_top (y := 3) h0 ?_
      refine wg_if_ne (d160_32 L xs) (t := 47) (by decide) (fun _ => ?_) (fun hn => absurd (by decide) hn)
      refine wg_aload_n (d160_47 L xs) rfl ?_
      refine wg_get (d160_48 L xs) (kd := 1) (cj := 9) (k0 := 43) rfl (Or.inl rfl) (by decide) rfl rfl ?_
      refine wg_top (y := 3) h0 ?_
      refine wg_puti (d160_51 L xs) (cj := 9) (k0 := 43) rfl (by decide) rfl (Nat.le_of_ble_eq_true rfl) rfl rfl rfl ?_
      refine wg_aload_n (d160_54 L xs) rfl ?_
      refine wg_get (d160_55 L xs) (kd := 1) (cj := 9) (k0 := 43) rfl (Or.inl rfl) (by decide) rfl rfl ?_
      refine wg_top (y := 3) rfl ?_
      refine wg_if_le (d160_58 L xs) (t := 65) (by decide) (fun hp => absurd hp (by decide)) (fun _ => ?_)
      refine wg_iconst (d160_61 L xs) (x := 1) (by decide) ?_
      refine wg_goto (d160_62 L xs) (t := 66) (by decide) ?_
      exact wg_iret (d160_66 L xs) rfl rfl ⟨by rw [hno (by rw [h3]; decide)]; rfl, mfr_I s (by decide), fun _ => by rw [hno (by rw [h3]; decide)]; exact ⟨⟨h0.symm.trans hp.1, hp.2.1, hp.2.2.1, hp.2.2.2⟩, hok⟩⟩
  · have hT : f_tg1 (gl D) a en e P = f_tg2 (gl D) a en e P := by unfold f_tg1; rw [if_neg (fun z => hw (by rw [← wd_ga (by omega)]; exact z.2))]
    have hwd0 := hwd.resolve_left (fun z => absurd z.2 (by rw [bI_f' hw]; decide))
    clear hwd
    rw [hT]
    refine wg_iload (d160_10 L xs) rfl ?_
    refine wg_iconst (d160_12 L xs) (x := 1) (by decide) ?_
    refine wn_icmp_ne (d160_13 L xs) (x := e - a) (y := 1) (by omega) (by omega) (t := 67) (by decide) (fun h61 => ?_) (fun h61 => ?_)
    · exact md_tg2 hR hae hen hD hp hok
    · refine wg_aload_n (d160_16 L xs) rfl ?_
      refine wg_iload_n (d160_17 L xs) rfl ?_
      refine wg_iload_n (d160_18 L xs) rfl ?_
      refine wg_invv (d160_19 L xs) (kd := 7) (mj := 125) (n := 2) rfl (Or.inl rfl) (ys := [.int (nI (c + a)), .int (nI r)]) (r := []) rfl rfl (by decide) rfl rfl (Nat.le_of_ble_eq_true rfl) (md_at (i := a) hR (by omega) (by omega)) ?_
      rintro _ _ ⟨rfl, rfl⟩
      have hat_a := hga (a)
      refine wg_bipush (d160_22 L xs) (x := 112) (by decide) ?_
      refine wn_icmp_ne (d160_24 L xs) (x := ga D a) (y := 112) (by omega) (by omega) (t := 67) (by decide) (fun h62 => ?_) (fun h62 => ?_)
      · exact md_tg2 hR hae hen hD hp hok
      · exfalso; omega
theorem md_tag (hR : isRec s r c D) (hae : a < e) (hen : e + 1 < en) (hD : en ≤ D.length) (hp : isPM s P) (hok : okP P) : ca L xs (d + 4) 160 [.ref 141, .int (nI r), .int (nI (c + a)), .int (nI (c + e)), .int (nI (c + en))] s (fun rv s' => rv = some (.int (nI (bI (f_tg1 (gl D) a en e P).1))) ∧ mfr s s' pF [] ∧ ((f_tg1 (gl D) a en e P).1 = true → isPM s' (f_tg1 (gl D) a en e P).2 ∧ okP (f_tg1 (gl D) a en e P).2)) := by
  refine wg_call (Nat.le_of_ble_eq_true rfl) ?_
  have hr16 := hR.1
  have hc1 := hR.2.1
  have hcl := hR.2.2.1
  show wp L xs (d + 3) 160 0 [some (.ref 141), some (.int (nI r)), some (.int (nI (c + a))), some (.int (nI (c + e))), some (.int (nI (c + en))), none, none, none] [] s _
  refine wg_iload_n (d160_0 L xs) rfl ?_
  refine wg_iload_n (d160_1 L xs) rfl ?_
  refine wg_isub (d160_2 L xs) ?_
  refine wg_top (y := (nI (e - a))) (by rw [pk_sub (by omega)]; congr 1; omega) ?_
  refine wg_istore (d160_3 L xs) (ls' := [some (.ref 141), some (.int (nI r)), some (.int (nI (c + a))), some (.int (nI (c + e))), some (.int (nI (c + en))), some (.int (nI (e - a))), none, none]) (Nat.le_of_ble_eq_true rfl) rfl ?_
  refine wg_iload_n (d160_5 L xs) rfl ?_
  refine wg_iconst (d160_6 L xs) (x := 1) (by decide) ?_
  refine wg_iadd (d160_7 L xs) ?_
  refine wg_top (y := (nI (c + e + 1))) (nI_add (c + e) 1) ?_
  refine wg_istore (d160_8 L xs) (ls' := [some (.ref 141), some (.int (nI r)), some (.int (nI (c + a))), some (.int (nI (c + e))), some (.int (nI (c + en))), some (.int (nI (e - a))), some (.int (nI (c + e + 1))), none]) (Nat.le_of_ble_eq_true rfl) rfl ?_
  exact md_tg1 hR hae hen hD hp hok
end KZ
