/-! the reference: policy -/
theorem d155_16 (L : Nat) (xs : Nat → Int32) : decode (ax_code (mgT L xs) 155) 16 = .ok (.iload_n 1, 1) := by
  show decode prog_11_method_59_code 16 = _
  decide +kernel
theorem d155_17 (L : Nat) (xs : Nat → Int32) : decode (ax_code (mgT L xs) 155) 17 = .ok (.ifCond .lt 9, 3) := by
  show decode prog_11_method_59_code 17 = _
  decide +kernel
theorem d155_20 (L : Nat) (xs : Nat → Int32) : decode (ax_code (mgT L xs) 155) 20 = .ok (.iload_n 1, 1) := by
  show decode prog_11_method_59_code 20 = _
  decide +kernel
theorem d155_21 (L : Nat) (xs : Nat → Int32) : decode (ax_code (mgT L xs) 155) 21 = .ok (.bipush 99, 2) := by
  show decode prog_11_method_59_code 21 = _
  decide +kernel
theorem d155_23 (L : Nat) (xs : Nat → Int32) : decode (ax_code (mgT L xs) 155) 23 = .ok (.if_icmp .le 7, 3) := by
  show decode prog_11_method_59_code 23 = _
  decide +kernel
theorem d155_30 (L : Nat) (xs : Nat → Int32) : decode (ax_code (mgT L xs) 155) 30 = .ok (.aload_n 0, 1) := by
  show decode prog_11_method_59_code 30 = _
  decide +kernel
theorem d155_31 (L : Nat) (xs : Nat → Int32) : decode (ax_code (mgT L xs) 155) 31 = .ok (.getfield 280, 3) := by
  show decode prog_11_method_59_code 31 = _
  decide +kernel
theorem d155_34 (L : Nat) (xs : Nat → Int32) : decode (ax_code (mgT L xs) 155) 34 = .ok (.ifCond .ne 7, 3) := by
  show decode prog_11_method_59_code 34 = _
  decide +kernel
theorem d155_37 (L : Nat) (xs : Nat → Int32) : decode (ax_code (mgT L xs) 155) 37 = .ok (.iconst 2, 1) := by
  show decode prog_11_method_59_code 37 = _
  decide +kernel
theorem d155_38 (L : Nat) (xs : Nat → Int32) : decode (ax_code (mgT L xs) 155) 38 = .ok (.goto 4, 3) := by
  show decode prog_11_method_59_code 38 = _
  decide +kernel
theorem d155_41 (L : Nat) (xs : Nat → Int32) : decode (ax_code (mgT L xs) 155) 41 = .ok (.iconst 0, 1) := by
  show decode prog_11_method_59_code 41 = _
  decide +kernel
theorem d155_54 (L : Nat) (xs : Nat → Int32) : decode (ax_code (mgT L xs) 155) 54 = .ok (.aload_n 0, 1) := by
  show decode prog_11_method_59_code 54 = _
  decide +kernel
theorem d155_55 (L : Nat) (xs : Nat → Int32) : decode (ax_code (mgT L xs) 155) 55 = .ok (.getfield 86, 3) := by
  show decode prog_11_method_59_code 55 = _
  decide +kernel
theorem d155_58 (L : Nat) (xs : Nat → Int32) : decode (ax_code (mgT L xs) 155) 58 = .ok (.istore_n 2, 1) := by
  show decode prog_11_method_59_code 58 = _
  decide +kernel
theorem d155_59 (L : Nat) (xs : Nat → Int32) : decode (ax_code (mgT L xs) 155) 59 = .ok (.iconst 0, 1) := by
  show decode prog_11_method_59_code 59 = _
  decide +kernel
theorem d155_60 (L : Nat) (xs : Nat → Int32) : decode (ax_code (mgT L xs) 155) 60 = .ok (.istore_n 3, 1) := by
  show decode prog_11_method_59_code 60 = _
  decide +kernel
theorem d155_61 (L : Nat) (xs : Nat → Int32) : decode (ax_code (mgT L xs) 155) 61 = .ok (.iload_n 3, 1) := by
  show decode prog_11_method_59_code 61 = _
  decide +kernel
theorem d155_62 (L : Nat) (xs : Nat → Int32) : decode (ax_code (mgT L xs) 155) 62 = .ok (.iload_n 2, 1) := by
  show decode prog_11_method_59_code 62 = _
  decide +kernel
theorem d155_63 (L : Nat) (xs : Nat → Int32) : decode (ax_code (mgT L xs) 155) 63 = .ok (.if_icmp .ge 21, 3) := by
  show decode prog_11_method_59_code 63 = _
  decide +kernel
theorem d155_66 (L : Nat) (xs : Nat → Int32) : decode (ax_code (mgT L xs) 155) 66 = .ok (.aload_n 0, 1) := by
  show decode prog_11_method_59_code 66 = _
  decide +kernel
theorem d155_67 (L : Nat) (xs : Nat → Int32) : decode (ax_code (mgT L xs) 155) 67 = .ok (.getfield 79, 3) := by
  show decode prog_11_method_59_code 67 = _
  decide +kernel
theorem d155_70 (L : Nat) (xs : Nat → Int32) : decode (ax_code (mgT L xs) 155) 70 = .ok (.iload_n 3, 1) := by
  show decode prog_11_method_59_code 70 = _
  decide +kernel
theorem d155_71 (L : Nat) (xs : Nat → Int32) : decode (ax_code (mgT L xs) 155) 71 = .ok (.aload_n 0, 1) := by
  show decode prog_11_method_59_code 71 = _
  decide +kernel
theorem d155_72 (L : Nat) (xs : Nat → Int32) : decode (ax_code (mgT L xs) 155) 72 = .ok (.getfield 7, 3) := by
  show decode prog_11_method_59_code 72 = _
  decide +kernel
theorem d155_75 (L : Nat) (xs : Nat → Int32) : decode (ax_code (mgT L xs) 155) 75 = .ok (.iload_n 3, 1) := by
  show decode prog_11_method_59_code 75 = _
  decide +kernel
theorem d155_76 (L : Nat) (xs : Nat → Int32) : decode (ax_code (mgT L xs) 155) 76 = .ok (.iaload, 1) := by
  show decode prog_11_method_59_code 76 = _
  decide +kernel
theorem d155_77 (L : Nat) (xs : Nat → Int32) : decode (ax_code (mgT L xs) 155) 77 = .ok (.iastore, 1) := by
  show decode prog_11_method_59_code 77 = _
  decide +kernel
theorem d155_78 (L : Nat) (xs : Nat → Int32) : decode (ax_code (mgT L xs) 155) 78 = .ok (.iinc 3 1, 3) := by
  show decode prog_11_method_59_code 78 = _
  decide +kernel
theorem d155_81 (L : Nat) (xs : Nat → Int32) : decode (ax_code (mgT L xs) 155) 81 = .ok (.goto (-20), 3) := by
  show decode prog_11_method_59_code 81 = _
  decide +kernel
theorem d155_84 (L : Nat) (xs : Nat → Int32) : decode (ax_code (mgT L xs) 155) 84 = .ok (.aload_n 0, 1) := by
  show decode prog_11_method_59_code 84 = _
  decide +kernel
theorem d155_85 (L : Nat) (xs : Nat → Int32) : decode (ax_code (mgT L xs) 155) 85 = .ok (.iconst 0, 1) := by
  show decode prog_11_method_59_code 85 = _
  decide +kernel
theorem d155_86 (L : Nat) (xs : Nat → Int32) : decode (ax_code (mgT L xs) 155) 86 = .ok (.putfield 86, 3) := by
  show decode prog_11_method_59_code 86 = _
  decide +kernel
theorem d155_89 (L : Nat) (xs : Nat → Int32) : decode (ax_code (mgT L xs) 155) 89 = .ok (.aload_n 0, 1) := by
  show decode prog_11_method_59_code 89 = _
  decide +kernel
theorem d155_90 (L : Nat) (xs : Nat → Int32) : decode (ax_code (mgT L xs) 155) 90 = .ok (.iconst 0, 1) := by
  show decode prog_11_method_59_code 90 = _
  decide +kernel
theorem d155_91 (L : Nat) (xs : Nat → Int32) : decode (ax_code (mgT L xs) 155) 91 = .ok (.putfield 117, 3) := by
  show decode prog_11_method_59_code 91 = _
  decide +kernel
theorem d155_94 (L : Nat) (xs : Nat → Int32) : decode (ax_code (mgT L xs) 155) 94 = .ok (.aload_n 0, 1) := by
  show decode prog_11_method_59_code 94 = _
  decide +kernel
theorem d155_95 (L : Nat) (xs : Nat → Int32) : decode (ax_code (mgT L xs) 155) 95 = .ok (.aload_n 0, 1) := by
  show decode prog_11_method_59_code 95 = _
  decide +kernel
theorem d155_96 (L : Nat) (xs : Nat → Int32) : decode (ax_code (mgT L xs) 155) 96 = .ok (.getfield 79, 3) := by
  show decode prog_11_method_59_code 96 = _
  decide +kernel
theorem d155_99 (L : Nat) (xs : Nat → Int32) : decode (ax_code (mgT L xs) 155) 99 = .ok (.iload_n 2, 1) := by
  show decode prog_11_method_59_code 99 = _
  decide +kernel
theorem d155_100 (L : Nat) (xs : Nat → Int32) : decode (ax_code (mgT L xs) 155) 100 = .ok (.invokevirtual 311, 3) := by
  show decode prog_11_method_59_code 100 = _
  decide +kernel
theorem d155_103 (L : Nat) (xs : Nat → Int32) : decode (ax_code (mgT L xs) 155) 103 = .ok (.istore_n 3, 1) := by
  show decode prog_11_method_59_code 103 = _
  decide +kernel
theorem d155_104 (L : Nat) (xs : Nat → Int32) : decode (ax_code (mgT L xs) 155) 104 = .ok (.aload_n 0, 1) := by
  show decode prog_11_method_59_code 104 = _
  decide +kernel
theorem d155_105 (L : Nat) (xs : Nat → Int32) : decode (ax_code (mgT L xs) 155) 105 = .ok (.aload_n 0, 1) := by
  show decode prog_11_method_59_code 105 = _
  decide +kernel
theorem d155_106 (L : Nat) (xs : Nat → Int32) : decode (ax_code (mgT L xs) 155) 106 = .ok (.getfield 79, 3) := by
  show decode prog_11_method_59_code 106 = _
  decide +kernel
theorem d155_109 (L : Nat) (xs : Nat → Int32) : decode (ax_code (mgT L xs) 155) 109 = .ok (.iconst 0, 1) := by
  show decode prog_11_method_59_code 109 = _
  decide +kernel
theorem d155_110 (L : Nat) (xs : Nat → Int32) : decode (ax_code (mgT L xs) 155) 110 = .ok (.iload_n 2, 1) := by
  show decode prog_11_method_59_code 110 = _
  decide +kernel
theorem d155_111 (L : Nat) (xs : Nat → Int32) : decode (ax_code (mgT L xs) 155) 111 = .ok (.invokevirtual 315, 3) := by
  show decode prog_11_method_59_code 111 = _
  decide +kernel
theorem d155_114 (L : Nat) (xs : Nat → Int32) : decode (ax_code (mgT L xs) 155) 114 = .ok (.istore 4, 2) := by
  show decode prog_11_method_59_code 114 = _
  decide +kernel
theorem d155_116 (L : Nat) (xs : Nat → Int32) : decode (ax_code (mgT L xs) 155) 116 = .ok (.iload 4, 2) := by
  show decode prog_11_method_59_code 116 = _
  decide +kernel
theorem d155_118 (L : Nat) (xs : Nat → Int32) : decode (ax_code (mgT L xs) 155) 118 = .ok (.ifCond .ne 11, 3) := by
  show decode prog_11_method_59_code 118 = _
  decide +kernel
theorem d155_121 (L : Nat) (xs : Nat → Int32) : decode (ax_code (mgT L xs) 155) 121 = .ok (.iload_n 3, 1) := by
  show decode prog_11_method_59_code 121 = _
  decide +kernel
theorem d155_122 (L : Nat) (xs : Nat → Int32) : decode (ax_code (mgT L xs) 155) 122 = .ok (.ifCond .le 7, 3) := by
  show decode prog_11_method_59_code 122 = _
  decide +kernel
theorem d155_125 (L : Nat) (xs : Nat → Int32) : decode (ax_code (mgT L xs) 155) 125 = .ok (.iconst 1, 1) := by
  show decode prog_11_method_59_code 125 = _
  decide +kernel
theorem d155_126 (L : Nat) (xs : Nat → Int32) : decode (ax_code (mgT L xs) 155) 126 = .ok (.goto 4, 3) := by
  show decode prog_11_method_59_code 126 = _
  decide +kernel
theorem d155_129 (L : Nat) (xs : Nat → Int32) : decode (ax_code (mgT L xs) 155) 129 = .ok (.iconst 0, 1) := by
  show decode prog_11_method_59_code 129 = _
  decide +kernel
theorem d155_130 (L : Nat) (xs : Nat → Int32) : decode (ax_code (mgT L xs) 155) 130 = .ok (.istore 5, 2) := by
  show decode prog_11_method_59_code 130 = _
  decide +kernel
theorem d155_132 (L : Nat) (xs : Nat → Int32) : decode (ax_code (mgT L xs) 155) 132 = .ok (.iload 5, 2) := by
  show decode prog_11_method_59_code 132 = _
  decide +kernel
theorem d155_134 (L : Nat) (xs : Nat → Int32) : decode (ax_code (mgT L xs) 155) 134 = .ok (.ifCond .eq 15, 3) := by
  show decode prog_11_method_59_code 134 = _
  decide +kernel
theorem d155_137 (L : Nat) (xs : Nat → Int32) : decode (ax_code (mgT L xs) 155) 137 = .ok (.aload_n 0, 1) := by
  show decode prog_11_method_59_code 137 = _
  decide +kernel
theorem d155_138 (L : Nat) (xs : Nat → Int32) : decode (ax_code (mgT L xs) 155) 138 = .ok (.aload_n 0, 1) := by
  show decode prog_11_method_59_code 138 = _
  decide +kernel
theorem d155_139 (L : Nat) (xs : Nat → Int32) : decode (ax_code (mgT L xs) 155) 139 = .ok (.getfield 79, 3) := by
  show decode prog_11_method_59_code 139 = _
  decide +kernel
theorem d155_142 (L : Nat) (xs : Nat → Int32) : decode (ax_code (mgT L xs) 155) 142 = .ok (.iload_n 3, 1) := by
  show decode prog_11_method_59_code 142 = _
  decide +kernel
theorem d155_143 (L : Nat) (xs : Nat → Int32) : decode (ax_code (mgT L xs) 155) 143 = .ok (.iload_n 2, 1) := by
  show decode prog_11_method_59_code 143 = _
  decide +kernel
theorem d155_144 (L : Nat) (xs : Nat → Int32) : decode (ax_code (mgT L xs) 155) 144 = .ok (.invokevirtual 315, 3) := by
  show decode prog_11_method_59_code 144 = _
  decide +kernel
theorem d155_147 (L : Nat) (xs : Nat → Int32) : decode (ax_code (mgT L xs) 155) 147 = .ok (.istore 4, 2) := by
  show decode prog_11_method_59_code 147 = _
  decide +kernel
theorem d155_149 (L : Nat) (xs : Nat → Int32) : decode (ax_code (mgT L xs) 155) 149 = .ok (.iload 4, 2) := by
  show decode prog_11_method_59_code 149 = _
  decide +kernel
theorem d155_151 (L : Nat) (xs : Nat → Int32) : decode (ax_code (mgT L xs) 155) 151 = .ok (.iconst 1, 1) := by
  show decode prog_11_method_59_code 151 = _
  decide +kernel
theorem d155_152 (L : Nat) (xs : Nat → Int32) : decode (ax_code (mgT L xs) 155) 152 = .ok (.if_icmp .ge 14, 3) := by
  show decode prog_11_method_59_code 152 = _
  decide +kernel
theorem d155_155 (L : Nat) (xs : Nat → Int32) : decode (ax_code (mgT L xs) 155) 155 = .ok (.iload 4, 2) := by
  show decode prog_11_method_59_code 155 = _
  decide +kernel
theorem d155_157 (L : Nat) (xs : Nat → Int32) : decode (ax_code (mgT L xs) 155) 157 = .ok (.ifCond .ge 7, 3) := by
  show decode prog_11_method_59_code 157 = _
  decide +kernel
theorem d155_160 (L : Nat) (xs : Nat → Int32) : decode (ax_code (mgT L xs) 155) 160 = .ok (.iconst 5, 1) := by
  show decode prog_11_method_59_code 160 = _
  decide +kernel
theorem d155_161 (L : Nat) (xs : Nat → Int32) : decode (ax_code (mgT L xs) 155) 161 = .ok (.goto 4, 3) := by
  show decode prog_11_method_59_code 161 = _
  decide +kernel
theorem d155_164 (L : Nat) (xs : Nat → Int32) : decode (ax_code (mgT L xs) 155) 164 = .ok (.iconst 0, 1) := by
  show decode prog_11_method_59_code 164 = _
  decide +kernel
theorem d155_165 (L : Nat) (xs : Nat → Int32) : decode (ax_code (mgT L xs) 155) 165 = .ok (.ireturn, 1) := by
  show decode prog_11_method_59_code 165 = _
  decide +kernel
theorem d155_166 (L : Nat) (xs : Nat → Int32) : decode (ax_code (mgT L xs) 155) 166 = .ok (.aload_n 0, 1) := by
  show decode prog_11_method_59_code 166 = _
  decide +kernel
theorem d155_167 (L : Nat) (xs : Nat → Int32) : decode (ax_code (mgT L xs) 155) 167 = .ok (.aload_n 0, 1) := by
  show decode prog_11_method_59_code 167 = _
  decide +kernel
theorem d155_168 (L : Nat) (xs : Nat → Int32) : decode (ax_code (mgT L xs) 155) 168 = .ok (.getfield 73, 3) := by
  show decode prog_11_method_59_code 168 = _
  decide +kernel
theorem d155_171 (L : Nat) (xs : Nat → Int32) : decode (ax_code (mgT L xs) 155) 171 = .ok (.aload_n 0, 1) := by
  show decode prog_11_method_59_code 171 = _
  decide +kernel
theorem d155_172 (L : Nat) (xs : Nat → Int32) : decode (ax_code (mgT L xs) 155) 172 = .ok (.getfield 150, 3) := by
  show decode prog_11_method_59_code 172 = _
  decide +kernel
theorem d155_175 (L : Nat) (xs : Nat → Int32) : decode (ax_code (mgT L xs) 155) 175 = .ok (.invokevirtual 311, 3) := by
  show decode prog_11_method_59_code 175 = _
  decide +kernel
theorem d155_178 (L : Nat) (xs : Nat → Int32) : decode (ax_code (mgT L xs) 155) 178 = .ok (.istore 6, 2) := by
  show decode prog_11_method_59_code 178 = _
  decide +kernel
theorem d155_180 (L : Nat) (xs : Nat → Int32) : decode (ax_code (mgT L xs) 155) 180 = .ok (.aload_n 0, 1) := by
  show decode prog_11_method_59_code 180 = _
  decide +kernel
theorem d155_181 (L : Nat) (xs : Nat → Int32) : decode (ax_code (mgT L xs) 155) 181 = .ok (.getfield 295, 3) := by
  show decode prog_11_method_59_code 181 = _
  decide +kernel
theorem d155_184 (L : Nat) (xs : Nat → Int32) : decode (ax_code (mgT L xs) 155) 184 = .ok (.iconst 1, 1) := by
  show decode prog_11_method_59_code 184 = _
  decide +kernel
theorem d155_185 (L : Nat) (xs : Nat → Int32) : decode (ax_code (mgT L xs) 155) 185 = .ok (.if_icmp .ne 7, 3) := by
  show decode prog_11_method_59_code 185 = _
  decide +kernel
theorem d155_188 (L : Nat) (xs : Nat → Int32) : decode (ax_code (mgT L xs) 155) 188 = .ok (.iconst 1, 1) := by
  show decode prog_11_method_59_code 188 = _
  decide +kernel
theorem d155_189 (L : Nat) (xs : Nat → Int32) : decode (ax_code (mgT L xs) 155) 189 = .ok (.goto 4, 3) := by
  show decode prog_11_method_59_code 189 = _
  decide +kernel
theorem d155_192 (L : Nat) (xs : Nat → Int32) : decode (ax_code (mgT L xs) 155) 192 = .ok (.iconst 0, 1) := by
  show decode prog_11_method_59_code 192 = _
  decide +kernel
theorem d155_193 (L : Nat) (xs : Nat → Int32) : decode (ax_code (mgT L xs) 155) 193 = .ok (.istore 7, 2) := by
  show decode prog_11_method_59_code 193 = _
  decide +kernel
theorem d155_195 (L : Nat) (xs : Nat → Int32) : decode (ax_code (mgT L xs) 155) 195 = .ok (.iload 7, 2) := by
  show decode prog_11_method_59_code 195 = _
  decide +kernel
theorem d155_197 (L : Nat) (xs : Nat → Int32) : decode (ax_code (mgT L xs) 155) 197 = .ok (.ifCond .eq 24, 3) := by
  show decode prog_11_method_59_code 197 = _
  decide +kernel
theorem d155_200 (L : Nat) (xs : Nat → Int32) : decode (ax_code (mgT L xs) 155) 200 = .ok (.aload_n 0, 1) := by
  show decode prog_11_method_59_code 200 = _
  decide +kernel
theorem d155_201 (L : Nat) (xs : Nat → Int32) : decode (ax_code (mgT L xs) 155) 201 = .ok (.getfield 79, 3) := by
  show decode prog_11_method_59_code 201 = _
  decide +kernel
theorem d155_204 (L : Nat) (xs : Nat → Int32) : decode (ax_code (mgT L xs) 155) 204 = .ok (.iconst 0, 1) := by
  show decode prog_11_method_59_code 204 = _
  decide +kernel
theorem d155_205 (L : Nat) (xs : Nat → Int32) : decode (ax_code (mgT L xs) 155) 205 = .ok (.iload_n 2, 1) := by
  show decode prog_11_method_59_code 205 = _
  decide +kernel
theorem d155_206 (L : Nat) (xs : Nat → Int32) : decode (ax_code (mgT L xs) 155) 206 = .ok (.aload_n 0, 1) := by
  show decode prog_11_method_59_code 206 = _
  decide +kernel
theorem d155_207 (L : Nat) (xs : Nat → Int32) : decode (ax_code (mgT L xs) 155) 207 = .ok (.getfield 73, 3) := by
  show decode prog_11_method_59_code 207 = _
  decide +kernel
theorem d155_210 (L : Nat) (xs : Nat → Int32) : decode (ax_code (mgT L xs) 155) 210 = .ok (.iconst 0, 1) := by
  show decode prog_11_method_59_code 210 = _
  decide +kernel
theorem d155_211 (L : Nat) (xs : Nat → Int32) : decode (ax_code (mgT L xs) 155) 211 = .ok (.aload_n 0, 1) := by
  show decode prog_11_method_59_code 211 = _
  decide +kernel
theorem d155_212 (L : Nat) (xs : Nat → Int32) : decode (ax_code (mgT L xs) 155) 212 = .ok (.getfield 150, 3) := by
  show decode prog_11_method_59_code 212 = _
  decide +kernel
theorem d155_215 (L : Nat) (xs : Nat → Int32) : decode (ax_code (mgT L xs) 155) 215 = .ok (.invokestatic 318, 3) := by
  show decode prog_11_method_59_code 215 = _
  decide +kernel
theorem d155_218 (L : Nat) (xs : Nat → Int32) : decode (ax_code (mgT L xs) 155) 218 = .ok (.goto 22, 3) := by
  show decode prog_11_method_59_code 218 = _
  decide +kernel
theorem d155_221 (L : Nat) (xs : Nat → Int32) : decode (ax_code (mgT L xs) 155) 221 = .ok (.aload_n 0, 1) := by
  show decode prog_11_method_59_code 221 = _
  decide +kernel
theorem d155_222 (L : Nat) (xs : Nat → Int32) : decode (ax_code (mgT L xs) 155) 222 = .ok (.getfield 79, 3) := by
  show decode prog_11_method_59_code 222 = _
  decide +kernel
theorem d155_225 (L : Nat) (xs : Nat → Int32) : decode (ax_code (mgT L xs) 155) 225 = .ok (.iload_n 3, 1) := by
  show decode prog_11_method_59_code 225 = _
  decide +kernel
theorem d155_226 (L : Nat) (xs : Nat → Int32) : decode (ax_code (mgT L xs) 155) 226 = .ok (.iload_n 2, 1) := by
  show decode prog_11_method_59_code 226 = _
  decide +kernel
theorem d155_227 (L : Nat) (xs : Nat → Int32) : decode (ax_code (mgT L xs) 155) 227 = .ok (.aload_n 0, 1) := by
  show decode prog_11_method_59_code 227 = _
  decide +kernel
theorem d155_228 (L : Nat) (xs : Nat → Int32) : decode (ax_code (mgT L xs) 155) 228 = .ok (.getfield 73, 3) := by
  show decode prog_11_method_59_code 228 = _
  decide +kernel
theorem d155_231 (L : Nat) (xs : Nat → Int32) : decode (ax_code (mgT L xs) 155) 231 = .ok (.iload 6, 2) := by
  show decode prog_11_method_59_code 231 = _
  decide +kernel
theorem d155_233 (L : Nat) (xs : Nat → Int32) : decode (ax_code (mgT L xs) 155) 233 = .ok (.aload_n 0, 1) := by
  show decode prog_11_method_59_code 233 = _
  decide +kernel
theorem d155_234 (L : Nat) (xs : Nat → Int32) : decode (ax_code (mgT L xs) 155) 234 = .ok (.getfield 150, 3) := by
  show decode prog_11_method_59_code 234 = _
  decide +kernel
theorem d155_237 (L : Nat) (xs : Nat → Int32) : decode (ax_code (mgT L xs) 155) 237 = .ok (.invokestatic 318, 3) := by
  show decode prog_11_method_59_code 237 = _
  decide +kernel
theorem d155_240 (L : Nat) (xs : Nat → Int32) : decode (ax_code (mgT L xs) 155) 240 = .ok (.istore 8, 2) := by
  show decode prog_11_method_59_code 240 = _
  decide +kernel
theorem d155_242 (L : Nat) (xs : Nat → Int32) : decode (ax_code (mgT L xs) 155) 242 = .ok (.aload_n 0, 1) := by
  show decode prog_11_method_59_code 242 = _
  decide +kernel
theorem d155_243 (L : Nat) (xs : Nat → Int32) : decode (ax_code (mgT L xs) 155) 243 = .ok (.getfield 200, 3) := by
  show decode prog_11_method_59_code 243 = _
  decide +kernel
theorem d155_246 (L : Nat) (xs : Nat → Int32) : decode (ax_code (mgT L xs) 155) 246 = .ok (.iconst 2, 1) := by
  show decode prog_11_method_59_code 246 = _
  decide +kernel
theorem d155_247 (L : Nat) (xs : Nat → Int32) : decode (ax_code (mgT L xs) 155) 247 = .ok (.if_icmp .ne 10, 3) := by
  show decode prog_11_method_59_code 247 = _
  decide +kernel
theorem d155_250 (L : Nat) (xs : Nat → Int32) : decode (ax_code (mgT L xs) 155) 250 = .ok (.iload 8, 2) := by
  show decode prog_11_method_59_code 250 = _
  decide +kernel
theorem d155_252 (L : Nat) (xs : Nat → Int32) : decode (ax_code (mgT L xs) 155) 252 = .ok (.ifCond .eq 5, 3) := by
  show decode prog_11_method_59_code 252 = _
  decide +kernel
theorem d155_255 (L : Nat) (xs : Nat → Int32) : decode (ax_code (mgT L xs) 155) 255 = .ok (.iconst 1, 1) := by
  show decode prog_11_method_59_code 255 = _
  decide +kernel
theorem d155_256 (L : Nat) (xs : Nat → Int32) : decode (ax_code (mgT L xs) 155) 256 = .ok (.ireturn, 1) := by
  show decode prog_11_method_59_code 256 = _
  decide +kernel
theorem d155_257 (L : Nat) (xs : Nat → Int32) : decode (ax_code (mgT L xs) 155) 257 = .ok (.iload 5, 2) := by
  show decode prog_11_method_59_code 257 = _
  decide +kernel
theorem d155_259 (L : Nat) (xs : Nat → Int32) : decode (ax_code (mgT L xs) 155) 259 = .ok (.ifCond .eq 17, 3) := by
  show decode prog_11_method_59_code 259 = _
  decide +kernel
theorem d155_262 (L : Nat) (xs : Nat → Int32) : decode (ax_code (mgT L xs) 155) 262 = .ok (.aload_n 0, 1) := by
  show decode prog_11_method_59_code 262 = _
  decide +kernel
theorem d155_263 (L : Nat) (xs : Nat → Int32) : decode (ax_code (mgT L xs) 155) 263 = .ok (.getfield 292, 3) := by
  show decode prog_11_method_59_code 263 = _
  decide +kernel
theorem d155_266 (L : Nat) (xs : Nat → Int32) : decode (ax_code (mgT L xs) 155) 266 = .ok (.ifCond .le 10, 3) := by
  show decode prog_11_method_59_code 266 = _
  decide +kernel
theorem d155_269 (L : Nat) (xs : Nat → Int32) : decode (ax_code (mgT L xs) 155) 269 = .ok (.aload_n 0, 1) := by
  show decode prog_11_method_59_code 269 = _
  decide +kernel
theorem d155_270 (L : Nat) (xs : Nat → Int32) : decode (ax_code (mgT L xs) 155) 270 = .ok (.getfield 292, 3) := by
  show decode prog_11_method_59_code 270 = _
  decide +kernel
theorem d155_273 (L : Nat) (xs : Nat → Int32) : decode (ax_code (mgT L xs) 155) 273 = .ok (.goto 7, 3) := by
  show decode prog_11_method_59_code 273 = _
  decide +kernel
theorem d155_276 (L : Nat) (xs : Nat → Int32) : decode (ax_code (mgT L xs) 155) 276 = .ok (.aload_n 0, 1) := by
  show decode prog_11_method_59_code 276 = _
  decide +kernel
theorem d155_277 (L : Nat) (xs : Nat → Int32) : decode (ax_code (mgT L xs) 155) 277 = .ok (.getfield 286, 3) := by
  show decode prog_11_method_59_code 277 = _
  decide +kernel
theorem d155_280 (L : Nat) (xs : Nat → Int32) : decode (ax_code (mgT L xs) 155) 280 = .ok (.istore 9, 2) := by
  show decode prog_11_method_59_code 280 = _
  decide +kernel
theorem d155_282 (L : Nat) (xs : Nat → Int32) : decode (ax_code (mgT L xs) 155) 282 = .ok (.aload_n 0, 1) := by
  show decode prog_11_method_59_code 282 = _
  decide +kernel
theorem d155_283 (L : Nat) (xs : Nat → Int32) : decode (ax_code (mgT L xs) 155) 283 = .ok (.getfield 298, 3) := by
  show decode prog_11_method_59_code 283 = _
  decide +kernel
theorem d155_286 (L : Nat) (xs : Nat → Int32) : decode (ax_code (mgT L xs) 155) 286 = .ok (.ifCond .ge 8, 3) := by
  show decode prog_11_method_59_code 286 = _
  decide +kernel
theorem d155_289 (L : Nat) (xs : Nat → Int32) : decode (ax_code (mgT L xs) 155) 289 = .ok (.bipush 100, 2) := by
  show decode prog_11_method_59_code 289 = _
  decide +kernel
theorem d155_291 (L : Nat) (xs : Nat → Int32) : decode (ax_code (mgT L xs) 155) 291 = .ok (.goto 7, 3) := by
  show decode prog_11_method_59_code 291 = _
  decide +kernel
theorem d155_294 (L : Nat) (xs : Nat → Int32) : decode (ax_code (mgT L xs) 155) 294 = .ok (.aload_n 0, 1) := by
  show decode prog_11_method_59_code 294 = _
  decide +kernel
theorem d155_295 (L : Nat) (xs : Nat → Int32) : decode (ax_code (mgT L xs) 155) 295 = .ok (.getfield 298, 3) := by
  show decode prog_11_method_59_code 295 = _
  decide +kernel
theorem d155_298 (L : Nat) (xs : Nat → Int32) : decode (ax_code (mgT L xs) 155) 298 = .ok (.istore 10, 2) := by
  show decode prog_11_method_59_code 298 = _
  decide +kernel
theorem d155_300 (L : Nat) (xs : Nat → Int32) : decode (ax_code (mgT L xs) 155) 300 = .ok (.iconst 1, 1) := by
  show decode prog_11_method_59_code 300 = _
  decide +kernel
theorem d155_301 (L : Nat) (xs : Nat → Int32) : decode (ax_code (mgT L xs) 155) 301 = .ok (.iload 9, 2) := by
  show decode prog_11_method_59_code 301 = _
  decide +kernel
theorem d155_303 (L : Nat) (xs : Nat → Int32) : decode (ax_code (mgT L xs) 155) 303 = .ok (.iadd, 1) := by
  show decode prog_11_method_59_code 303 = _
  decide +kernel
theorem d155_304 (L : Nat) (xs : Nat → Int32) : decode (ax_code (mgT L xs) 155) 304 = .ok (.iload 9, 2) := by
  show decode prog_11_method_59_code 304 = _
  decide +kernel
theorem d155_306 (L : Nat) (xs : Nat → Int32) : decode (ax_code (mgT L xs) 155) 306 = .ok (.iconst 1, 1) := by
  show decode prog_11_method_59_code 306 = _
  decide +kernel
theorem d155_307 (L : Nat) (xs : Nat → Int32) : decode (ax_code (mgT L xs) 155) 307 = .ok (.if_icmp .le 13, 3) := by
  show decode prog_11_method_59_code 307 = _
  decide +kernel
theorem d155_310 (L : Nat) (xs : Nat → Int32) : decode (ax_code (mgT L xs) 155) 310 = .ok (.iload_n 1, 1) := by
  show decode prog_11_method_59_code 310 = _
  decide +kernel
theorem d155_311 (L : Nat) (xs : Nat → Int32) : decode (ax_code (mgT L xs) 155) 311 = .ok (.iload 10, 2) := by
  show decode prog_11_method_59_code 311 = _
  decide +kernel
theorem d155_313 (L : Nat) (xs : Nat → Int32) : decode (ax_code (mgT L xs) 155) 313 = .ok (.if_icmp .lt 7, 3) := by
  show decode prog_11_method_59_code 313 = _
  decide +kernel
theorem d155_316 (L : Nat) (xs : Nat → Int32) : decode (ax_code (mgT L xs) 155) 316 = .ok (.iconst 1, 1) := by
  show decode prog_11_method_59_code 316 = _
  decide +kernel
theorem d155_317 (L : Nat) (xs : Nat → Int32) : decode (ax_code (mgT L xs) 155) 317 = .ok (.goto 4, 3) := by
  show decode prog_11_method_59_code 317 = _
  decide +kernel
theorem d155_320 (L : Nat) (xs : Nat → Int32) : decode (ax_code (mgT L xs) 155) 320 = .ok (.iconst 0, 1) := by
  show decode prog_11_method_59_code 320 = _
  decide +kernel
theorem d155_321 (L : Nat) (xs : Nat → Int32) : decode (ax_code (mgT L xs) 155) 321 = .ok (.isub, 1) := by
  show decode prog_11_method_59_code 321 = _
  decide +kernel
theorem d155_322 (L : Nat) (xs : Nat → Int32) : decode (ax_code (mgT L xs) 155) 322 = .ok (.ireturn, 1) := by
  show decode prog_11_method_59_code 322 = _
  decide +kernel
section KV
variable {L : Nat} {xs : Nat → Int32} {d : Nat} {l fst : List Nat} {R : List rowT} {P : plT} {s : mg_s} {Q : Option Value → mg_s → Prop}
theorem ac_ok {bl : Bool} {P : plT} (hok : okP P) (h1 : ¬ P.1 = -1) : x_ac bl P = 2 ∨ x_ac bl P = 3 ∨ x_ac bl P = 4 := by
  have h := hok.1.resolve_left h1
  unfold x_ac
  split
  · split
    · exact h
    · rename_i h2
      exact hok.2.1.resolve_left h2
  · exact h
theorem pc_ok {P : plT} (hok : okP P) : ∃ v, v ≤ 100 ∧ x_pc P = nI v := by
  unfold x_pc
  split
  · exact ⟨100, Nat.le_refl _, rfl⟩
  · rename_i h
    rcases hok.2.2.2 with z | ⟨v, hv, z⟩
    · exact absurd z h
    · exact ⟨v, hv, z⟩
theorem nI_inj {x y : Nat} (hx : x < 2 ^ 31) (hy : y < 2 ^ 31) (h : nI x = nI y) : x = y := by
  have := congrArg Int32.toNatClampNeg h
  rw [nI_nat hx, nI_nat hy] at this
  exact this
theorem md_po282 {ch root : Nat} {ac : Int32} {c4 c5 c6 c7 c8 : Option Value} (hch : ch ≤ 99) (hp : isPM s P) (hok : okP P) (hac : ac = 2 ∨ ac = 3 ∨ ac = 4) : wp L xs (d + 8) 155 282 [some (.ref 141), some (.int (nI ch)), some (.int (nI l.length)), some (.int (nI root)), c4, c5, c6, c7, c8, some (.int (pM ac)), none] [] s (fun v s' => v = some (.int (if ¬ ac ≤ 2 ∧ ¬ nI ch < x_pc P then ac - 1 else ac)) ∧ s = s') := by
  obtain ⟨v, hv, hpc⟩ := pc_ok hok
  rw [hpc]
  have hlt : ∀ {x y : Nat}, x < 2 ^ 20 → y < 2 ^ 20 → (nI x < nI y ↔ x < y) := fun {x y} hx hy => nI_ltI (by omega) (by omega)
  rcases hac with h | h | h
  · subst h
    show wp L xs (d + 8) 155 282 [some (.ref 141), some (.int (nI ch)), some (.int (nI l.length)), some (.int (nI root)), c4, c5, c6, c7, c8, some (.int 1), none] [] s _
    rcases hok.2.2.2 with h4 | ⟨v4, hv4, h4⟩
    · have hvv : v = 100 := by
        have e : x_pc P = nI 100 := by unfold x_pc; rw [if_pos h4]; rfl
        exact nI_inj (by omega) (by omega) (hpc.symm.trans e)
      subst hvv
      refine wg_aload_n (d155_282 L xs) rfl ?_
      refine wg_get (d155_283 L xs) (kd := 1) (cj := 9) (k0 := 46) rfl (Or.inl rfl) (by decide) rfl rfl ?_
      refine wg_top (y := (-1)) (hp.2.2.2.trans h4) ?_
      refine wg_if_ge (d155_286 L xs) (t := 294) (by decide) (fun hp => absurd hp (by decide)) (fun _ => ?_)
      refine wg_bipush (d155_289 L xs) (x := 100) (by decide) ?_
      refine wg_goto (d155_291 L xs) (t := 298) (by decide) ?_
      refine wg_istore (d155_298 L xs) (ls' := [some (.ref 141), some (.int (nI ch)), some (.int (nI l.length)), some (.int (nI root)), c4, c5, c6, c7, c8, some (.int 1), some (.int 100)]) (Nat.le_of_ble_eq_true rfl) rfl ?_
      refine wg_iconst (d155_300 L xs) (x := 1) (by decide) ?_
      refine wg_iload (d155_301 L xs) rfl ?_
      refine wg_iadd (d155_303 L xs) ?_
      refine wg_top (y := 2) (by decide) ?_
      refine wg_iload (d155_304 L xs) rfl ?_
      refine wg_iconst (d155_306 L xs) (x := 1) (by decide) ?_
      refine wg_icmp_le (d155_307 L xs) (t := 320) (by decide) (fun _ => ?_) (fun hn => absurd (by decide) hn)
      refine wg_iconst (d155_320 L xs) (x := 0) (by decide) ?_
      refine wg_isub (d155_321 L xs) ?_
      refine wg_top (y := 2) (by decide) ?_
      exact wg_iret (d155_322 L xs) rfl rfl ⟨by rw [if_neg (fun z => z.1 (by decide))], rfl⟩
    · have hvv : v4 = v := by
        have e : x_pc P = nI v4 := by unfold x_pc; rw [if_neg (by rw [h4]; exact pl_m1 hv4)]; exact h4
        exact nI_inj (by omega) (by omega) (e.symm.trans hpc)
      subst hvv
      refine wg_aload_n (d155_282 L xs) rfl ?_
      refine wg_get (d155_283 L xs) (kd := 1) (cj := 9) (k0 := 46) rfl (Or.inl rfl) (by decide) rfl rfl ?_
      refine wg_top (y := (nI v4)) (hp.2.2.2.trans h4) ?_
      refine wn_if_ge (d155_286 L xs) (x := v4) (by omega) (t := 294) (by decide) (fun h41 => ?_) (fun h41 => by omega)
      refine wg_aload_n (d155_294 L xs) rfl ?_
      refine wg_get (d155_295 L xs) (kd := 1) (cj := 9) (k0 := 46) rfl (Or.inl rfl) (by decide) rfl rfl ?_
      refine wg_top (y := (nI v4)) (hp.2.2.2.trans h4) ?_
      refine wg_istore (d155_298 L xs) (ls' := [some (.ref 141), some (.int (nI ch)), some (.int (nI l.length)), some (.int (nI root)), c4, c5, c6, c7, c8, some (.int 1), some (.int (nI v4))]) (Nat.le_of_ble_eq_true rfl) rfl ?_
      refine wg_iconst (d155_300 L xs) (x := 1) (by decide) ?_
      refine wg_iload (d155_301 L xs) rfl ?_
      refine wg_iadd (d155_303 L xs) ?_
      refine wg_top (y := 2) (by decide) ?_
      refine wg_iload (d155_304 L xs) rfl ?_
      refine wg_iconst (d155_306 L xs) (x := 1) (by decide) ?_
      refine wg_icmp_le (d155_307 L xs) (t := 320) (by decide) (fun _ => ?_) (fun hn => absurd (by decide) hn)
      refine wg_iconst (d155_320 L xs) (x := 0) (by decide) ?_
      refine wg_isub (d155_321 L xs) ?_
      refine wg_top (y := 2) (by decide) ?_
      exact wg_iret (d155_322 L xs) rfl rfl ⟨by rw [if_neg (fun z => z.1 (by decide))], rfl⟩
  · subst h
    show wp L xs (d + 8) 155 282 [some (.ref 141), some (.int (nI ch)), some (.int (nI l.length)), some (.int (nI root)), c4, c5, c6, c7, c8, some (.int 2), none] [] s _
    rcases hok.2.2.2 with h4 | ⟨v4, hv4, h4⟩
    · have hvv : v = 100 := by
        have e : x_pc P = nI 100 := by unfold x_pc; rw [if_pos h4]; rfl
        exact nI_inj (by omega) (by omega) (hpc.symm.trans e)
      subst hvv
      refine wg_aload_n (d155_282 L xs) rfl ?_
      refine wg_get (d155_283 L xs) (kd := 1) (cj := 9) (k0 := 46) rfl (Or.inl rfl) (by decide) rfl rfl ?_
      refine wg_top (y := (-1)) (hp.2.2.2.trans h4) ?_
      refine wg_if_ge (d155_286 L xs) (t := 294) (by decide) (fun hp => absurd hp (by decide)) (fun _ => ?_)
      refine wg_bipush (d155_289 L xs) (x := 100) (by decide) ?_
      refine wg_goto (d155_291 L xs) (t := 298) (by decide) ?_
      refine wg_istore (d155_298 L xs) (ls' := [some (.ref 141), some (.int (nI ch)), some (.int (nI l.length)), some (.int (nI root)), c4, c5, c6, c7, c8, some (.int 2), some (.int 100)]) (Nat.le_of_ble_eq_true rfl) rfl ?_
      refine wg_iconst (d155_300 L xs) (x := 1) (by decide) ?_
      refine wg_iload (d155_301 L xs) rfl ?_
      refine wg_iadd (d155_303 L xs) ?_
      refine wg_top (y := 3) (by decide) ?_
      refine wg_iload (d155_304 L xs) rfl ?_
      refine wg_iconst (d155_306 L xs) (x := 1) (by decide) ?_
      refine wg_icmp_le (d155_307 L xs) (t := 320) (by decide) (fun hp => absurd hp (by decide)) (fun _ => ?_)
      refine wg_iload_n (d155_310 L xs) rfl ?_
      refine wg_iload (d155_311 L xs) rfl ?_
      refine wn_icmp_lt (d155_313 L xs) (x := ch) (y := 100) (by omega) (by omega) (t := 320) (by decide) (fun h43 => ?_) (fun h43 => ?_)
      · refine wg_iconst (d155_320 L xs) (x := 0) (by decide) ?_
        refine wg_isub (d155_321 L xs) ?_
        refine wg_top (y := 3) (by decide) ?_
        exact wg_iret (d155_322 L xs) rfl rfl ⟨by rw [if_neg (fun z => z.2 ((hlt (by omega) (by omega)).mpr (by omega)))], rfl⟩
      · refine wg_iconst (d155_316 L xs) (x := 1) (by decide) ?_
        refine wg_goto (d155_317 L xs) (t := 321) (by decide) ?_
        refine wg_isub (d155_321 L xs) ?_
        refine wg_top (y := 2) (by decide) ?_
        exact wg_iret (d155_322 L xs) rfl rfl ⟨by rw [if_pos ⟨by decide, fun z => absurd ((hlt (by omega) (by omega)).mp z) (by omega)⟩]; rfl, rfl⟩
    · have hvv : v4 = v := by
        have e : x_pc P = nI v4 := by unfold x_pc; rw [if_neg (by rw [h4]; exact pl_m1 hv4)]; exact h4
        exact nI_inj (by omega) (by omega) (e.symm.trans hpc)
      subst hvv
      refine wg_aload_n (d155_282 L xs) rfl ?_
      refine wg_get (d155_283 L xs) (kd := 1) (cj := 9) (k0 := 46) rfl (Or.inl rfl) (by decide) rfl rfl ?_
      refine wg_top (y := (nI v4)) (hp.2.2.2.trans h4) ?_
      refine wn_if_ge (d155_286 L xs) (x := v4) (by omega) (t := 294) (by decide) (fun h41 => ?_) (fun h41 => by omega)
      refine wg_aload_n (d155_294 L xs) rfl ?_
      refine wg_get (d155_295 L xs) (kd := 1) (cj := 9) (k0 := 46) rfl (Or.inl rfl) (by decide) rfl rfl ?_
      refine wg_top (y := (nI v4)) (hp.2.2.2.trans h4) ?_
      refine wg_istore (d155_298 L xs) (ls' := [some (.ref 141), some (.int (nI ch)), some (.int (nI l.length)), some (.int (nI root)), c4, c5, c6, c7, c8, some (.int 2), some (.int (nI v4))]) (Nat.le_of_ble_eq_true rfl) rfl ?_
      refine wg_iconst (d155_300 L xs) (x := 1) (by decide) ?_
      refine wg_iload (d155_301 L xs) rfl ?_
      refine wg_iadd (d155_303 L xs) ?_
      refine wg_top (y := 3) (by decide) ?_
      refine wg_iload (d155_304 L xs) rfl ?_
      refine wg_iconst (d155_306 L xs) (x := 1) (by decide) ?_
      refine wg_icmp_le (d155_307 L xs) (t := 320) (by decide) (fun hp => absurd hp (by decide)) (fun _ => ?_)
      refine wg_iload_n (d155_310 L xs) rfl ?_
      refine wg_iload (d155_311 L xs) rfl ?_
      refine wn_icmp_lt (d155_313 L xs) (x := ch) (y := v4) (by omega) (by omega) (t := 320) (by decide) (fun h43 => ?_) (fun h43 => ?_)
      · refine wg_iconst (d155_320 L xs) (x := 0) (by decide) ?_
        refine wg_isub (d155_321 L xs) ?_
        refine wg_top (y := 3) (by decide) ?_
        exact wg_iret (d155_322 L xs) rfl rfl ⟨by rw [if_neg (fun z => z.2 ((hlt (by omega) (by omega)).mpr (by omega)))], rfl⟩
      · refine wg_iconst (d155_316 L xs) (x := 1) (by decide) ?_
        refine wg_goto (d155_317 L xs) (t := 321) (by decide) ?_
        refine wg_isub (d155_321 L xs) ?_
        refine wg_top (y := 2) (by decide) ?_
        exact wg_iret (d155_322 L xs) rfl rfl ⟨by rw [if_pos ⟨by decide, fun z => absurd ((hlt (by omega) (by omega)).mp z) (by omega)⟩]; rfl, rfl⟩
  · subst h
    show wp L xs (d + 8) 155 282 [some (.ref 141), some (.int (nI ch)), some (.int (nI l.length)), some (.int (nI root)), c4, c5, c6, c7, c8, some (.int 3), none] [] s _
    rcases hok.2.2.2 with h4 | ⟨v4, hv4, h4⟩
    · have hvv : v = 100 := by
        have e : x_pc P = nI 100 := by unfold x_pc; rw [if_pos h4]; rfl
        exact nI_inj (by omega) (by omega) (hpc.symm.trans e)
      subst hvv
      refine wg_aload_n (d155_282 L xs) rfl ?_
      refine wg_get (d155_283 L xs) (kd := 1) (cj := 9) (k0 := 46) rfl (Or.inl rfl) (by decide) rfl rfl ?_
      refine wg_top (y := (-1)) (hp.2.2.2.trans h4) ?_
      refine wg_if_ge (d155_286 L xs) (t := 294) (by decide) (fun hp => absurd hp (by decide)) (fun _ => ?_)
      refine wg_bipush (d155_289 L xs) (x := 100) (by decide) ?_
      refine wg_goto (d155_291 L xs) (t := 298) (by decide) ?_
      refine wg_istore (d155_298 L xs) (ls' := [some (.ref 141), some (.int (nI ch)), some (.int (nI l.length)), some (.int (nI root)), c4, c5, c6, c7, c8, some (.int 3), some (.int 100)]) (Nat.le_of_ble_eq_true rfl) rfl ?_
      refine wg_iconst (d155_300 L xs) (x := 1) (by decide) ?_
      refine wg_iload (d155_301 L xs) rfl ?_
      refine wg_iadd (d155_303 L xs) ?_
      refine wg_top (y := 4) (by decide) ?_
      refine wg_iload (d155_304 L xs) rfl ?_
      refine wg_iconst (d155_306 L xs) (x := 1) (by decide) ?_
      refine wg_icmp_le (d155_307 L xs) (t := 320) (by decide) (fun hp => absurd hp (by decide)) (fun _ => ?_)
      refine wg_iload_n (d155_310 L xs) rfl ?_
      refine wg_iload (d155_311 L xs) rfl ?_
      refine wn_icmp_lt (d155_313 L xs) (x := ch) (y := 100) (by omega) (by omega) (t := 320) (by decide) (fun h43 => ?_) (fun h43 => ?_)
      · refine wg_iconst (d155_320 L xs) (x := 0) (by decide) ?_
        refine wg_isub (d155_321 L xs) ?_
        refine wg_top (y := 4) (by decide) ?_
        exact wg_iret (d155_322 L xs) rfl rfl ⟨by rw [if_neg (fun z => z.2 ((hlt (by omega) (by omega)).mpr (by omega)))], rfl⟩
      · refine wg_iconst (d155_316 L xs) (x := 1) (by decide) ?_
        refine wg_goto (d155_317 L xs) (t := 321) (by decide) ?_
        refine wg_isub (d155_321 L xs) ?_
        refine wg_top (y := 3) (by decide) ?_
        exact wg_iret (d155_322 L xs) rfl rfl ⟨by rw [if_pos ⟨by decide, fun z => absurd ((hlt (by omega) (by omega)).mp z) (by omega)⟩]; rfl, rfl⟩
    · have hvv : v4 = v := by
        have e : x_pc P = nI v4 := by unfold x_pc; rw [if_neg (by rw [h4]; exact pl_m1 hv4)]; exact h4
        exact nI_inj (by omega) (by omega) (e.symm.trans hpc)
      subst hvv
      refine wg_aload_n (d155_282 L xs) rfl ?_
      refine wg_get (d155_283 L xs) (kd := 1) (cj := 9) (k0 := 46) rfl (Or.inl rfl) (by decide) rfl rfl ?_
      refine wg_top (y := (nI v4)) (hp.2.2.2.trans h4) ?_
      refine wn_if_ge (d155_286 L xs) (x := v4) (by omega) (t := 294) (by decide) (fun h41 => ?_) (fun h41 => by omega)
      refine wg_aload_n (d155_294 L xs) rfl ?_
      refine wg_get (d155_295 L xs) (kd := 1) (cj := 9) (k0 := 46) rfl (Or.inl rfl) (by decide) rfl rfl ?_
      refine wg_top (y := (nI v4)) (hp.2.2.2.trans h4) ?_
      refine wg_istore (d155_298 L xs) (ls' := [some (.ref 141), some (.int (nI ch)), some (.int (nI l.length)), some (.int (nI root)), c4, c5, c6, c7, c8, some (.int 3), some (.int (nI v4))]) (Nat.le_of_ble_eq_true rfl) rfl ?_
      refine wg_iconst (d155_300 L xs) (x := 1) (by decide) ?_
      refine wg_iload (d155_301 L xs) rfl ?_
      refine wg_iadd (d155_303 L xs) ?_
      refine wg_top (y := 4) (by decide) ?_
      refine wg_iload (d155_304 L xs) rfl ?_
      refine wg_iconst (d155_306 L xs) (x := 1) (by decide) ?_
      refine wg_icmp_le (d155_307 L xs) (t := 320) (by decide) (fun hp => absurd hp (by decide)) (fun _ => ?_)
      refine wg_iload_n (d155_310 L xs) rfl ?_
      refine wg_iload (d155_311 L xs) rfl ?_
      refine wn_icmp_lt (d155_313 L xs) (x := ch) (y := v4) (by omega) (by omega) (t := 320) (by decide) (fun h43 => ?_) (fun h43 => ?_)
      · refine wg_iconst (d155_320 L xs) (x := 0) (by decide) ?_
        refine wg_isub (d155_321 L xs) ?_
        refine wg_top (y := 4) (by decide) ?_
        exact wg_iret (d155_322 L xs) rfl rfl ⟨by rw [if_neg (fun z => z.2 ((hlt (by omega) (by omega)).mpr (by omega)))], rfl⟩
      · refine wg_iconst (d155_316 L xs) (x := 1) (by decide) ?_
        refine wg_goto (d155_317 L xs) (t := 321) (by decide) ?_
        refine wg_isub (d155_321 L xs) ?_
        refine wg_top (y := 3) (by decide) ?_
        exact wg_iret (d155_322 L xs) rfl rfl ⟨by rw [if_pos ⟨by decide, fun z => absurd ((hlt (by omega) (by omega)).mp z) (by omega)⟩]; rfl, rfl⟩
theorem md_po257 {ch root : Nat} {bl : Bool} {c4 c6 c7 : Option Value} {n8 : Int32} (hch : ch ≤ 99) (hp : isPM s P) (hok : okP P) (h1 : ¬ P.1 = -1) : wp L xs (d + 8) 155 257 [some (.ref 141), some (.int (nI ch)), some (.int (nI l.length)), some (.int (nI root)), c4, some (.int (nI (bI bl))), c6, c7, some (.int n8), none, none] [] s (fun v s' => v = some (.int (if ¬ x_ac bl P ≤ 2 ∧ ¬ nI ch < x_pc P then x_ac bl P - 1 else x_ac bl P)) ∧ s = s') := by
  have hac := ac_ok (bl := bl) hok h1
  cases bl with
  | false =>
    show wp L xs (d + 8) 155 257 [some (.ref 141), some (.int (nI ch)), some (.int (nI l.length)), some (.int (nI root)), c4, some (.int 0), c6, c7, some (.int n8), none, none] [] s _
    refine wg_iload (d155_257 L xs) rfl ?_
    refine wg_if_eq (d155_259 L xs) (t := 276) (by decide) (fun _ => ?_) (fun hn => absurd (by decide) hn)
    refine wg_aload_n (d155_276 L xs) rfl ?_
    refine wg_get (d155_277 L xs) (kd := 1) (cj := 9) (k0 := 43) rfl (Or.inl rfl) (by decide) rfl rfl ?_
    refine wg_top (y := (pM P.1)) hp.1 ?_
    refine wg_istore (d155_280 L xs) (ls' := [some (.ref 141), some (.int (nI ch)), some (.int (nI l.length)), some (.int (nI root)), c4, some (.int 0), c6, c7, some (.int n8), some (.int (pM P.1)), none]) (Nat.le_of_ble_eq_true rfl) rfl ?_
    exact md_po282 (ac := P.1) hch hp hok hac
  | true =>
    show wp L xs (d + 8) 155 257 [some (.ref 141), some (.int (nI ch)), some (.int (nI l.length)), some (.int (nI root)), c4, some (.int 1), c6, c7, some (.int n8), none, none] [] s _
    rcases hok.2.1 with h2 | h2 | h2 | h2
    · have h0 : s.1 141 44 = 0 := by rw [hp.2.1, h2]; rfl
      refine wg_iload (d155_257 L xs) rfl ?_
      refine wg_if_eq (d155_259 L xs) (t := 276) (by decide) (fun hp => absurd hp (by decide)) (fun _ => ?_)
      refine wg_aload_n (d155_262 L xs) rfl ?_
      refine wg_get (d155_263 L xs) (kd := 1) (cj := 9) (k0 := 44) rfl (Or.inl rfl) (by decide) rfl rfl ?_
      refine wg_top (y := 0) h0 ?_
      refine wg_if_le (d155_266 L xs) (t := 276) (by decide) (fun _ => ?_) (fun hn => absurd (by decide) hn)
      refine wg_aload_n (d155_276 L xs) rfl ?_
      refine wg_get (d155_277 L xs) (kd := 1) (cj := 9) (k0 := 43) rfl (Or.inl rfl) (by decide) rfl rfl ?_
      refine wg_top (y := (pM P.1)) hp.1 ?_
      refine wg_istore (d155_280 L xs) (ls' := [some (.ref 141), some (.int (nI ch)), some (.int (nI l.length)), some (.int (nI root)), c4, some (.int 1), c6, c7, some (.int n8), some (.int (pM P.1)), none]) (Nat.le_of_ble_eq_true rfl) rfl ?_
      have e : x_ac true P = P.1 := by unfold x_ac; rw [if_pos rfl, if_pos h2]
      rw [e] at hac ⊢
      exact md_po282 (ac := P.1) hch hp hok hac
    · have h0 : s.1 141 44 = 1 := by rw [hp.2.1, h2]; decide
      refine wg_iload (d155_257 L xs) rfl ?_
      refine wg_if_eq (d155_259 L xs) (t := 276) (by decide) (fun hp => absurd hp (by decide)) (fun _ => ?_)
      refine wg_aload_n (d155_262 L xs) rfl ?_
      refine wg_get (d155_263 L xs) (kd := 1) (cj := 9) (k0 := 44) rfl (Or.inl rfl) (by decide) rfl rfl ?_
      refine wg_top (y := 1) h0 ?_
      refine wg_if_le (d155_266 L xs) (t := 276) (by decide) (fun hp => absurd hp (by decide)) (fun _ => ?_)
      refine wg_aload_n (d155_269 L xs) rfl ?_
      refine wg_get (d155_270 L xs) (kd := 1) (cj := 9) (k0 := 44) rfl (Or.inl rfl) (by decide) rfl rfl ?_
      refine wg_top (y := 1) h0 ?_
      refine wg_goto (d155_273 L xs) (t := 280) (by decide) ?_
      refine wg_istore (d155_280 L xs) (ls' := [some (.ref 141), some (.int (nI ch)), some (.int (nI l.length)), some (.int (nI root)), c4, some (.int 1), c6, c7, some (.int n8), some (.int 1), none]) (Nat.le_of_ble_eq_true rfl) rfl ?_
      have e : x_ac true P = 2 := by unfold x_ac; rw [if_pos rfl, if_neg (by rw [h2]; decide)]; exact h2
      rw [e]
      exact md_po282 (ac := 2) hch hp hok (by decide)
    · have h0 : s.1 141 44 = 2 := by rw [hp.2.1, h2]; decide
      refine wg_iload (d155_257 L xs) rfl ?_
      refine wg_if_eq (d155_259 L xs) (t := 276) (by decide) (fun hp => absurd hp (by decide)) (fun _ => ?_)
      refine wg_aload_n (d155_262 L xs) rfl ?_
      refine wg_get (d155_263 L xs) (kd := 1) (cj := 9) (k0 := 44) rfl (Or.inl rfl) (by decide) rfl rfl ?_
      refine wg_top (y := 2) h0 ?_
      refine wg_if_le (d155_266 L xs) (t := 276) (by decide) (fun hp => absurd hp (by decide)) (fun _ => ?_)
      refine wg_aload_n (d155_269 L xs) rfl ?_
      refine wg_get (d155_270 L xs) (kd := 1) (cj := 9) (k0 := 44) rfl (Or.inl rfl) (by decide) rfl rfl ?_
      refine wg_top (y := 2) h0 ?_
      refine wg_goto (d155_273 L xs) (t := 280) (by decide) ?_
      refine wg_istore (d155_280 L xs) (ls' := [some (.ref 141), some (.int (nI ch)), some (.int (nI l.length)), some (.int (nI root)), c4, some (.int 1), c6, c7, some (.int n8), some (.int 2), none]) (Nat.le_of_ble_eq_true rfl) rfl ?_
      have e : x_ac true P = 3 := by unfold x_ac; rw [if_pos rfl, if_neg (by rw [h2]; decide)]; exact h2
      rw [e]
      exact md_po282 (ac := 3) hch hp hok (by decide)
    · have h0 : s.1 141 44 = 3 := by rw [hp.2.1, h2]; decide
      refine wg_iload (d155_257 L xs) rfl ?_
      refine wg_if_eq (d155_259 L xs) (t := 276) (by decide) (fun hp => absurd hp (by decide)) (fun _ => ?_)
      refine wg_aload_n (d155_262 L xs) rfl ?_
      refine wg_get (d155_263 L xs) (kd := 1) (cj := 9) (k0 := 44) rfl (Or.inl rfl) (by decide) rfl rfl ?_
      refine wg_top (y := 3) h0 ?_
      refine wg_if_le (d155_266 L xs) (t := 276) (by decide) (fun hp => absurd hp (by decide)) (fun _ => ?_)
      refine wg_aload_n (d155_269 L xs) rfl ?_
      refine wg_get (d155_270 L xs) (kd := 1) (cj := 9) (k0 := 44) rfl (Or.inl rfl) (by decide) rfl rfl ?_
      refine wg_top (y := 3) h0 ?_
      refine wg_goto (d155_273 L xs) (t := 280) (by decide) ?_
      refine wg_istore (d155_280 L xs) (ls' := [some (.ref 141), some (.int (nI ch)), some (.int (nI l.length)), some (.int (nI root)), c4, some (.int 1), c6, c7, some (.int n8), some (.int 3), none]) (Nat.le_of_ble_eq_true rfl) rfl ?_
      have e : x_ac true P = 4 := by unfold x_ac; rw [if_pos rfl, if_neg (by rw [h2]; decide)]; exact h2
      rw [e]
      exact md_po282 (ac := 4) hch hp hok (by decide)
theorem org_le (R : List rowT) (l : List Nat) : x_org R l ≤ l.length := by
  unfold x_org
  split
  · exact f_last_le _ _
  · have h := ahead_le (g := gl l) (f_org l R l.length - 1)
    have : ∀ (Rs : List rowT) (acc : Nat), f_org l Rs acc ≤ acc := by
      intro Rs
      induction Rs with
      | nil => intro acc; exact Nat.le_refl _
      | cons q Rs ih =>
        intro acc
        rw [f_org]
        split
        · exact Nat.le_trans (ih _) (Nat.min_le_left _ _)
        · exact ih _
    have := this R l.length
    omega
theorem md_po166 {ch root : Nat} {bl : Bool} {rs : Int32} (hch : ch ≤ 99) (hroot : root ≤ l.length) (hl : holdA s 165 0 l) (hl48 : l.length ≤ 48) (hf : holdA s 163 0 fst) (hf1 : 1 ≤ fst.length) (hf48 : fst.length ≤ 48) (h41 : s.1 141 41 = nI fst.length) (h36 : s.1 141 36 = rs) (T : isTabM s R) (hp : isPM s P) (hok : okP P) (h1 : ¬ P.1 = -1) : wp L xs (d + 8) 155 166 [some (.ref 141), some (.int (nI ch)), some (.int (nI l.length)), some (.int (nI root)), some (.int 1), some (.int (nI (bI bl))), none, none, none, none, none] [] s (fun v s' => v = some (.int (if x_al R fst rs l root P = true then 1 else (if ¬ x_ac bl P ≤ 2 ∧ ¬ nI ch < x_pc P then x_ac bl P - 1 else x_ac bl P))) ∧ s = s') := by
  have hol := org_le R fst
  have hbl := bI_lt bl
  rcases hok.2.2.1 with h3 | h3 | h3
  · have hX : x_al R fst rs l root P = (decide (rs = 2) && t_same (gl l) root l.length (gl fst) (x_org R fst) fst.length) := by unfold x_al; rw [h3]; show (_ && (if (-1 : Int32) = 1 then _ else _)) = _; rw [if_neg (by decide), tsame_comm]
    rw [hX]
    by_cases hrs : rs = 2
    · refine wg_aload_n (d155_166 L xs) rfl ?_
      refine wg_aload_n (d155_167 L xs) rfl ?_
      refine wg_get (d155_168 L xs) (kd := 1) (cj := 9) (k0 := 42) rfl (Or.inl rfl) (by decide) rfl rfl ?_
      refine wg_aload_n (d155_171 L xs) rfl ?_
      refine wg_get (d155_172 L xs) (kd := 1) (cj := 9) (k0 := 41) rfl (Or.inl rfl) (by decide) rfl rfl ?_
      refine wg_top (y := (nI fst.length)) h41 ?_
      refine wg_invv (d155_175 L xs) (kd := 7) (mj := 156) (n := 2) rfl (Or.inl rfl) (ys := [.int (nI fst.length), .ref 163]) (r := []) rfl rfl (by decide) rfl rfl (Nat.le_of_ble_eq_true rfl) (md_org (q := 163) (N := 48) (l := fst) isA_all.2.2.2.2.2.2.2.2.2.2.2.2.2.2.2.2.2.2.2.2.2.1 (fun k hk => ⟨by have := hf.2 k hk; rw [Nat.zero_add] at this; exact this, Nat.lt_trans (gl_lt hf.1 k) (by decide)⟩) hf48 (by omega) hf1 T) ?_
      rintro _ _ ⟨rfl, rfl⟩
      refine wg_istore (d155_178 L xs) (ls' := [some (.ref 141), some (.int (nI ch)), some (.int (nI l.length)), some (.int (nI root)), some (.int 1), some (.int (nI (bI bl))), some (.int (nI (x_org R fst))), none, none, none, none]) (Nat.le_of_ble_eq_true rfl) rfl ?_
      refine wg_aload_n (d155_180 L xs) rfl ?_
      refine wg_get (d155_181 L xs) (kd := 1) (cj := 9) (k0 := 45) rfl (Or.inl rfl) (by decide) rfl rfl ?_
      refine wg_top (y := (-1)) (hp.2.2.1.trans h3) ?_
      refine wg_iconst (d155_184 L xs) (x := 1) (by decide) ?_
      refine wg_icmp_ne (d155_185 L xs) (t := 192) (by decide) (fun _ => ?_) (fun hn => absurd (by decide) hn)
      refine wg_iconst (d155_192 L xs) (x := 0) (by decide) ?_
      refine wg_istore (d155_193 L xs) (ls' := [some (.ref 141), some (.int (nI ch)), some (.int (nI l.length)), some (.int (nI root)), some (.int 1), some (.int (nI (bI bl))), some (.int (nI (x_org R fst))), some (.int 0), none, none, none]) (Nat.le_of_ble_eq_true rfl) rfl ?_
      refine wg_iload (d155_195 L xs) rfl ?_
      refine wg_if_eq (d155_197 L xs) (t := 221) (by decide) (fun _ => ?_) (fun hn => absurd (by decide) hn)
      refine wg_aload_n (d155_221 L xs) rfl ?_
      refine wg_get (d155_222 L xs) (kd := 1) (cj := 9) (k0 := 48) rfl (Or.inl rfl) (by decide) rfl rfl ?_
      refine wg_iload_n (d155_225 L xs) rfl ?_
      refine wg_iload_n (d155_226 L xs) rfl ?_
      refine wg_aload_n (d155_227 L xs) rfl ?_
      refine wg_get (d155_228 L xs) (kd := 1) (cj := 9) (k0 := 42) rfl (Or.inl rfl) (by decide) rfl rfl ?_
      refine wg_iload (d155_231 L xs) rfl ?_
      refine wg_aload_n (d155_233 L xs) rfl ?_
      refine wg_get (d155_234 L xs) (kd := 1) (cj := 9) (k0 := 41) rfl (Or.inl rfl) (by decide) rfl rfl ?_
      refine wg_top (y := (nI fst.length)) h41 ?_
      refine wg_invs (d155_237 L xs) (kd := 6) (mj := 162) (n := 6) rfl (Or.inl rfl) (ys := [.int (nI fst.length), .int (nI (x_org R fst)), .ref 163, .int (nI l.length), .int (nI root), .ref 165]) (r := []) rfl rfl (Nat.le_of_ble_eq_true rfl) (md_same (l := l) (m := fst) (a := root) (b := x_org R fst) hl hf (by omega) hf48 hroot hol) ?_
      rintro _ _ ⟨rfl, rfl⟩
      have hbs := bI_lt (t_same (gl l) root l.length (gl fst) (x_org R fst) fst.length)
      refine wg_istore (d155_240 L xs) (ls' := [some (.ref 141), some (.int (nI ch)), some (.int (nI l.length)), some (.int (nI root)), some (.int 1), some (.int (nI (bI bl))), some (.int (nI (x_org R fst))), some (.int 0), some (.int (nI (bI (t_same (gl l) root l.length (gl fst) (x_org R fst) fst.length)))), none, none]) (Nat.le_of_ble_eq_true rfl) rfl ?_
      refine wg_aload_n (d155_242 L xs) rfl ?_
      refine wg_get (d155_243 L xs) (kd := 1) (cj := 9) (k0 := 36) rfl (Or.inl rfl) (by decide) rfl rfl ?_
      refine wg_top (y := rs) h36 ?_
      refine wg_iconst (d155_246 L xs) (x := 2) (by decide) ?_
      refine wg_icmp_ne (d155_247 L xs) (t := 257) (by decide) (fun h63 => absurd hrs h63) (fun h63 => ?_)
      refine wg_iload (d155_250 L xs) rfl ?_
      refine wn_if_eq (d155_252 L xs) (x := bI (t_same (gl l) root l.length (gl fst) (x_org R fst) fst.length)) (by omega) (t := 257) (by decide) (fun h64 => ?_) (fun h64 => ?_)
      · rw [hrs, decide_eq_true rfl, Bool.true_and, if_neg (w_no (b := t_same (gl l) root l.length (gl fst) (x_org R fst) fst.length) (by omega))]
        exact md_po257 hch hp hok h1
      · refine wg_iconst (d155_255 L xs) (x := 1) (by decide) ?_
        exact wg_iret (d155_256 L xs) rfl rfl ⟨by rw [hrs, decide_eq_true rfl, Bool.true_and, if_pos (bI_t (b := t_same (gl l) root l.length (gl fst) (x_org R fst) fst.length) (by omega))], rfl⟩
    · refine wg_aload_n (d155_166 L xs) rfl ?_
      refine wg_aload_n (d155_167 L xs) rfl ?_
      refine wg_get (d155_168 L xs) (kd := 1) (cj := 9) (k0 := 42) rfl (Or.inl rfl) (by decide) rfl rfl ?_
      refine wg_aload_n (d155_171 L xs) rfl ?_
      refine wg_get (d155_172 L xs) (kd := 1) (cj := 9) (k0 := 41) rfl (Or.inl rfl) (by decide) rfl rfl ?_
      refine wg_top (y := (nI fst.length)) h41 ?_
      refine wg_invv (d155_175 L xs) (kd := 7) (mj := 156) (n := 2) rfl (Or.inl rfl) (ys := [.int (nI fst.length), .ref 163]) (r := []) rfl rfl (by decide) rfl rfl (Nat.le_of_ble_eq_true rfl) (md_org (q := 163) (N := 48) (l := fst) isA_all.2.2.2.2.2.2.2.2.2.2.2.2.2.2.2.2.2.2.2.2.2.1 (fun k hk => ⟨by have := hf.2 k hk; rw [Nat.zero_add] at this; exact this, Nat.lt_trans (gl_lt hf.1 k) (by decide)⟩) hf48 (by omega) hf1 T) ?_
      rintro _ _ ⟨rfl, rfl⟩
      refine wg_istore (d155_178 L xs) (ls' := [some (.ref 141), some (.int (nI ch)), some (.int (nI l.length)), some (.int (nI root)), some (.int 1), some (.int (nI (bI bl))), some (.int (nI (x_org R fst))), none, none, none, none]) (Nat.le_of_ble_eq_true rfl) rfl ?_
      refine wg_aload_n (d155_180 L xs) rfl ?_
      refine wg_get (d155_181 L xs) (kd := 1) (cj := 9) (k0 := 45) rfl (Or.inl rfl) (by decide) rfl rfl ?_
      refine wg_top (y := (-1)) (hp.2.2.1.trans h3) ?_
      refine wg_iconst (d155_184 L xs) (x := 1) (by decide) ?_
      refine wg_icmp_ne (d155_185 L xs) (t := 192) (by decide) (fun _ => ?_) (fun hn => absurd (by decide) hn)
      refine wg_iconst (d155_192 L xs) (x := 0) (by decide) ?_
      refine wg_istore (d155_193 L xs) (ls' := [some (.ref 141), some (.int (nI ch)), some (.int (nI l.length)), some (.int (nI root)), some (.int 1), some (.int (nI (bI bl))), some (.int (nI (x_org R fst))), some (.int 0), none, none, none]) (Nat.le_of_ble_eq_true rfl) rfl ?_
      refine wg_iload (d155_195 L xs) rfl ?_
      refine wg_if_eq (d155_197 L xs) (t := 221) (by decide) (fun _ => ?_) (fun hn => absurd (by decide) hn)
      refine wg_aload_n (d155_221 L xs) rfl ?_
      refine wg_get (d155_222 L xs) (kd := 1) (cj := 9) (k0 := 48) rfl (Or.inl rfl) (by decide) rfl rfl ?_
      refine wg_iload_n (d155_225 L xs) rfl ?_
      refine wg_iload_n (d155_226 L xs) rfl ?_
      refine wg_aload_n (d155_227 L xs) rfl ?_
      refine wg_get (d155_228 L xs) (kd := 1) (cj := 9) (k0 := 42) rfl (Or.inl rfl) (by decide) rfl rfl ?_
      refine wg_iload (d155_231 L xs) rfl ?_
      refine wg_aload_n (d155_233 L xs) rfl ?_
      refine wg_get (d155_234 L xs) (kd := 1) (cj := 9) (k0 := 41) rfl (Or.inl rfl) (by decide) rfl rfl ?_
      refine wg_top (y := (nI fst.length)) h41 ?_
      refine wg_invs (d155_237 L xs) (kd := 6) (mj := 162) (n := 6) rfl (Or.inl rfl) (ys := [.int (nI fst.length), .int (nI (x_org R fst)), .ref 163, .int (nI l.length), .int (nI root), .ref 165]) (r := []) rfl rfl (Nat.le_of_ble_eq_true rfl) (md_same (l := l) (m := fst) (a := root) (b := x_org R fst) hl hf (by omega) hf48 hroot hol) ?_
      rintro _ _ ⟨rfl, rfl⟩
      have hbs := bI_lt (t_same (gl l) root l.length (gl fst) (x_org R fst) fst.length)
      refine wg_istore (d155_240 L xs) (ls' := [some (.ref 141), some (.int (nI ch)), some (.int (nI l.length)), some (.int (nI root)), some (.int 1), some (.int (nI (bI bl))), some (.int (nI (x_org R fst))), some (.int 0), some (.int (nI (bI (t_same (gl l) root l.length (gl fst) (x_org R fst) fst.length)))), none, none]) (Nat.le_of_ble_eq_true rfl) rfl ?_
      refine wg_aload_n (d155_242 L xs) rfl ?_
      refine wg_get (d155_243 L xs) (kd := 1) (cj := 9) (k0 := 36) rfl (Or.inl rfl) (by decide) rfl rfl ?_
      refine wg_top (y := rs) h36 ?_
      refine wg_iconst (d155_246 L xs) (x := 2) (by decide) ?_
      refine wg_icmp_ne (d155_247 L xs) (t := 257) (by decide) (fun h63 => ?_) (fun h63 => absurd (Decidable.of_not_not h63) hrs)
      rw [decide_eq_false hrs, Bool.false_and, if_neg (show ¬ false = true by decide)]
      exact md_po257 hch hp hok h1
  · have hX : x_al R fst rs l root P = (decide (rs = 2) && t_same (gl l) root l.length (gl fst) (x_org R fst) fst.length) := by unfold x_al; rw [h3]; show (_ && (if (0 : Int32) = 1 then _ else _)) = _; rw [if_neg (by decide), tsame_comm]
    rw [hX]
    by_cases hrs : rs = 2
    · refine wg_aload_n (d155_166 L xs) rfl ?_
      refine wg_aload_n (d155_167 L xs) rfl ?_
      refine wg_get (d155_168 L xs) (kd := 1) (cj := 9) (k0 := 42) rfl (Or.inl rfl) (by decide) rfl rfl ?_
      refine wg_aload_n (d155_171 L xs) rfl ?_
      refine wg_get (d155_172 L xs) (kd := 1) (cj := 9) (k0 := 41) rfl (Or.inl rfl) (by decide) rfl rfl ?_
      refine wg_top (y := (nI fst.length)) h41 ?_
      refine wg_invv (d155_175 L xs) (kd := 7) (mj := 156) (n := 2) rfl (Or.inl rfl) (ys := [.int (nI fst.length), .ref 163]) (r := []) rfl rfl (by decide) rfl rfl (Nat.le_of_ble_eq_true rfl) (md_org (q := 163) (N := 48) (l := fst) isA_all.2.2.2.2.2.2.2.2.2.2.2.2.2.2.2.2.2.2.2.2.2.1 (fun k hk => ⟨by have := hf.2 k hk; rw [Nat.zero_add] at this; exact this, Nat.lt_trans (gl_lt hf.1 k) (by decide)⟩) hf48 (by omega) hf1 T) ?_
      rintro _ _ ⟨rfl, rfl⟩
      refine wg_istore (d155_178 L xs) (ls' := [some (.ref 141), some (.int (nI ch)), some (.int (nI l.length)), some (.int (nI root)), some (.int 1), some (.int (nI (bI bl))), some (.int (nI (x_org R fst))), none, none, none, none]) (Nat.le_of_ble_eq_true rfl) rfl ?_
      refine wg_aload_n (d155_180 L xs) rfl ?_
      refine wg_get (d155_181 L xs) (kd := 1) (cj := 9) (k0 := 45) rfl (Or.inl rfl) (by decide) rfl rfl ?_
      refine wg_top (y := 0) (hp.2.2.1.trans h3) ?_
      refine wg_iconst (d155_184 L xs) (x := 1) (by decide) ?_
      refine wg_icmp_ne (d155_185 L xs) (t := 192) (by decide) (fun _ => ?_) (fun hn => absurd (by decide) hn)
      refine wg_iconst (d155_192 L xs) (x := 0) (by decide) ?_
      refine wg_istore (d155_193 L xs) (ls' := [some (.ref 141), some (.int (nI ch)), some (.int (nI l.length)), some (.int (nI root)), some (.int 1), some (.int (nI (bI bl))), some (.int (nI (x_org R fst))), some (.int 0), none, none, none]) (Nat.le_of_ble_eq_true rfl) rfl ?_
      refine wg_iload (d155_195 L xs) rfl ?_
      refine wg_if_eq (d155_197 L xs) (t := 221) (by decide) (fun _ => ?_) (fun hn => absurd (by decide) hn)
      refine wg_aload_n (d155_221 L xs) rfl ?_
      refine wg_get (d155_222 L xs) (kd := 1) (cj := 9) (k0 := 48) rfl (Or.inl rfl) (by decide) rfl rfl ?_
      refine wg_iload_n (d155_225 L xs) rfl ?_
      refine wg_iload_n (d155_226 L xs) rfl ?_
      refine wg_aload_n (d155_227 L xs) rfl ?_
      refine wg_get (d155_228 L xs) (kd := 1) (cj := 9) (k0 := 42) rfl (Or.inl rfl) (by decide) rfl rfl ?_
      refine wg_iload (d155_231 L xs) rfl ?_
      refine wg_aload_n (d155_233 L xs) rfl ?_
      refine wg_get (d155_234 L xs) (kd := 1) (cj := 9) (k0 := 41) rfl (Or.inl rfl) (by decide) rfl rfl ?_
      refine wg_top (y := (nI fst.length)) h41 ?_
      refine wg_invs (d155_237 L xs) (kd := 6) (mj := 162) (n := 6) rfl (Or.inl rfl) (ys := [.int (nI fst.length), .int (nI (x_org R fst)), .ref 163, .int (nI l.length), .int (nI root), .ref 165]) (r := []) rfl rfl (Nat.le_of_ble_eq_true rfl) (md_same (l := l) (m := fst) (a := root) (b := x_org R fst) hl hf (by omega) hf48 hroot hol) ?_
      rintro _ _ ⟨rfl, rfl⟩
      have hbs := bI_lt (t_same (gl l) root l.length (gl fst) (x_org R fst) fst.length)
      refine wg_istore (d155_240 L xs) (ls' := [some (.ref 141), some (.int (nI ch)), some (.int (nI l.length)), some (.int (nI root)), some (.int 1), some (.int (nI (bI bl))), some (.int (nI (x_org R fst))), some (.int 0), some (.int (nI (bI (t_same (gl l) root l.length (gl fst) (x_org R fst) fst.length)))), none, none]) (Nat.le_of_ble_eq_true rfl) rfl ?_
      refine wg_aload_n (d155_242 L xs) rfl ?_
      refine wg_get (d155_243 L xs) (kd := 1) (cj := 9) (k0 := 36) rfl (Or.inl rfl) (by decide) rfl rfl ?_
      refine wg_top (y := rs) h36 ?_
      refine wg_iconst (d155_246 L xs) (x := 2) (by decide) ?_
      refine wg_icmp_ne (d155_247 L xs) (t := 257) (by decide) (fun h63 => absurd hrs h63) (fun h63 => ?_)
      refine wg_iload (d155_250 L xs) rfl ?_
      refine wn_if_eq (d155_252 L xs) (x := bI (t_same (gl l) root l.length (gl fst) (x_org R fst) fst.length)) (by omega) (t := 257) (by decide) (fun h64 => ?_) (fun h64 => ?_)
      · rw [hrs, decide_eq_true rfl, Bool.true_and, if_neg (w_no (b := t_same (gl l) root l.length (gl fst) (x_org R fst) fst.length) (by omega))]
        exact md_po257 hch hp hok h1
      · refine wg_iconst (d155_255 L xs) (x := 1) (by decide) ?_
        exact wg_iret (d155_256 L xs) rfl rfl ⟨by rw [hrs, decide_eq_true rfl, Bool.true_and, if_pos (bI_t (b := t_same (gl l) root l.length (gl fst) (x_org R fst) fst.length) (by omega))], rfl⟩
    · refine wg_aload_n (d155_166 L xs) rfl ?_
      refine wg_aload_n (d155_167 L xs) rfl ?_
      refine wg_get (d155_168 L xs) (kd := 1) (cj := 9) (k0 := 42) rfl (Or.inl rfl) (by decide) rfl rfl ?_
      refine wg_aload_n (d155_171 L xs) rfl ?_
      refine wg_get (d155_172 L xs) (kd := 1) (cj := 9) (k0 := 41) rfl (Or.inl rfl) (by decide) rfl rfl ?_
      refine wg_top (y := (nI fst.length)) h41 ?_
      refine wg_invv (d155_175 L xs) (kd := 7) (mj := 156) (n := 2) rfl (Or.inl rfl) (ys := [.int (nI fst.length), .ref 163]) (r := []) rfl rfl (by decide) rfl rfl (Nat.le_of_ble_eq_true rfl) (md_org (q := 163) (N := 48) (l := fst) isA_all.2.2.2.2.2.2.2.2.2.2.2.2.2.2.2.2.2.2.2.2.2.1 (fun k hk => ⟨by have := hf.2 k hk; rw [Nat.zero_add] at this; exact this, Nat.lt_trans (gl_lt hf.1 k) (by decide)⟩) hf48 (by omega) hf1 T) ?_
      rintro _ _ ⟨rfl, rfl⟩
      refine wg_istore (d155_178 L xs) (ls' := [some (.ref 141), some (.int (nI ch)), some (.int (nI l.length)), some (.int (nI root)), some (.int 1), some (.int (nI (bI bl))), some (.int (nI (x_org R fst))), none, none, none, none]) (Nat.le_of_ble_eq_true rfl) rfl ?_
      refine wg_aload_n (d155_180 L xs) rfl ?_
      refine wg_get (d155_181 L xs) (kd := 1) (cj := 9) (k0 := 45) rfl (Or.inl rfl) (by decide) rfl rfl ?_
      refine wg_top (y := 0) (hp.2.2.1.trans h3) ?_
      refine wg_iconst (d155_184 L xs) (x := 1) (by decide) ?_
      refine wg_icmp_ne (d155_185 L xs) (t := 192) (by decide) (fun _ => ?_) (fun hn => absurd (by decide) hn)
      refine wg_iconst (d155_192 L xs) (x := 0) (by decide) ?_
      refine wg_istore (d155_193 L xs) (ls' := [some (.ref 141), some (.int (nI ch)), some (.int (nI l.length)), some (.int (nI root)), some (.int 1), some (.int (nI (bI bl))), some (.int (nI (x_org R fst))), some (.int 0), none, none, none]) (Nat.le_of_ble_eq_true rfl) rfl ?_
      refine wg_iload (d155_195 L xs) rfl ?_
      refine wg_if_eq (d155_197 L xs) (t := 221) (by decide) (fun _ => ?_) (fun hn => absurd (by decide) hn)
      refine wg_aload_n (d155_221 L xs) rfl ?_
      refine wg_get (d155_222 L xs) (kd := 1) (cj := 9) (k0 := 48) rfl (Or.inl rfl) (by decide) rfl rfl ?_
      refine wg_iload_n (d155_225 L xs) rfl ?_
      refine wg_iload_n (d155_226 L xs) rfl ?_
      refine wg_aload_n (d155_227 L xs) rfl ?_
      refine wg_get (d155_228 L xs) (kd := 1) (cj := 9) (k0 := 42) rfl (Or.inl rfl) (by decide) rfl rfl ?_
      refine wg_iload (d155_231 L xs) rfl ?_
      refine wg_aload_n (d155_233 L xs) rfl ?_
      refine wg_get (d155_234 L xs) (kd := 1) (cj := 9) (k0 := 41) rfl (Or.inl rfl) (by decide) rfl rfl ?_
      refine wg_top (y := (nI fst.length)) h41 ?_
      refine wg_invs (d155_237 L xs) (kd := 6) (mj := 162) (n := 6) rfl (Or.inl rfl) (ys := [.int (nI fst.length), .int (nI (x_org R fst)), .ref 163, .int (nI l.length), .int (nI root), .ref 165]) (r := []) rfl rfl (Nat.le_of_ble_eq_true rfl) (md_same (l := l) (m := fst) (a := root) (b := x_org R fst) hl hf (by omega) hf48 hroot hol) ?_
      rintro _ _ ⟨rfl, rfl⟩
      have hbs := bI_lt (t_same (gl l) root l.length (gl fst) (x_org R fst) fst.length)
      refine wg_istore (d155_240 L xs) (ls' := [some (.ref 141), some (.int (nI ch)), some (.int (nI l.length)), some (.int (nI root)), some (.int 1), some (.int (nI (bI bl))), some (.int (nI (x_org R fst))), some (.int 0), some (.int (nI (bI (t_same (gl l) root l.length (gl fst) (x_org R fst) fst.length)))), none, none]) (Nat.le_of_ble_eq_true rfl) rfl ?_
      refine wg_aload_n (d155_242 L xs) rfl ?_
      refine wg_get (d155_243 L xs) (kd := 1) (cj := 9) (k0 := 36) rfl (Or.inl rfl) (by decide) rfl rfl ?_
      refine wg_top (y := rs) h36 ?_
      refine wg_iconst (d155_246 L xs) (x := 2) (by decide) ?_
      refine wg_icmp_ne (d155_247 L xs) (t := 257) (by decide) (fun h63 => ?_) (fun h63 => absurd (Decidable.of_not_not h63) hrs)
      rw [decide_eq_false hrs, Bool.false_and, if_neg (show ¬ false = true by decide)]
      exact md_po257 hch hp hok h1
  · have hX : x_al R fst rs l root P = (decide (rs = 2) && decide (l = fst)) := by unfold x_al; rw [h3]; show (_ && (if (1 : Int32) = 1 then _ else _)) = _; rw [if_pos rfl]; congr 1; exact decide_eq_decide.mpr ⟨Eq.symm, Eq.symm⟩
    rw [hX]
    by_cases hrs : rs = 2
    · refine wg_aload_n (d155_166 L xs) rfl ?_
      refine wg_aload_n (d155_167 L xs) rfl ?_
      refine wg_get (d155_168 L xs) (kd := 1) (cj := 9) (k0 := 42) rfl (Or.inl rfl) (by decide) rfl rfl ?_
      refine wg_aload_n (d155_171 L xs) rfl ?_
      refine wg_get (d155_172 L xs) (kd := 1) (cj := 9) (k0 := 41) rfl (Or.inl rfl) (by decide) rfl rfl ?_
      refine wg_top (y := (nI fst.length)) h41 ?_
      refine wg_invv (d155_175 L xs) (kd := 7) (mj := 156) (n := 2) rfl (Or.inl rfl) (ys := [.int (nI fst.length), .ref 163]) (r := []) rfl rfl (by decide) rfl rfl (Nat.le_of_ble_eq_true rfl) (md_org (q := 163) (N := 48) (l := fst) isA_all.2.2.2.2.2.2.2.2.2.2.2.2.2.2.2.2.2.2.2.2.2.1 (fun k hk => ⟨by have := hf.2 k hk; rw [Nat.zero_add] at this; exact this, Nat.lt_trans (gl_lt hf.1 k) (by decide)⟩) hf48 (by omega) hf1 T) ?_
      rintro _ _ ⟨rfl, rfl⟩
      refine wg_istore (d155_178 L xs) (ls' := [some (.ref 141), some (.int (nI ch)), some (.int (nI l.length)), some (.int (nI root)), some (.int 1), some (.int (nI (bI bl))), some (.int (nI (x_org R fst))), none, none, none, none]) (Nat.le_of_ble_eq_true rfl) rfl ?_
      refine wg_aload_n (d155_180 L xs) rfl ?_
      refine wg_get (d155_181 L xs) (kd := 1) (cj := 9) (k0 := 45) rfl (Or.inl rfl) (by decide) rfl rfl ?_
      refine wg_top (y := 1) (hp.2.2.1.trans h3) ?_
      refine wg_iconst (d155_184 L xs) (x := 1) (by decide) ?_
      refine wg_icmp_ne (d155_185 L xs) (t := 192) (by decide) (fun hp => absurd hp (by decide)) (fun _ => ?_)
      refine wg_iconst (d155_188 L xs) (x := 1) (by decide) ?_
      refine wg_goto (d155_189 L xs) (t := 193) (by decide) ?_
      refine wg_istore (d155_193 L xs) (ls' := [some (.ref 141), some (.int (nI ch)), some (.int (nI l.length)), some (.int (nI root)), some (.int 1), some (.int (nI (bI bl))), some (.int (nI (x_org R fst))), some (.int 1), none, none, none]) (Nat.le_of_ble_eq_true rfl) rfl ?_
      refine wg_iload (d155_195 L xs) rfl ?_
      refine wg_if_eq (d155_197 L xs) (t := 221) (by decide) (fun hp => absurd hp (by decide)) (fun _ => ?_)
      refine wg_aload_n (d155_200 L xs) rfl ?_
      refine wg_get (d155_201 L xs) (kd := 1) (cj := 9) (k0 := 48) rfl (Or.inl rfl) (by decide) rfl rfl ?_
      refine wg_iconst (d155_204 L xs) (x := 0) (by decide) ?_
      refine wg_iload_n (d155_205 L xs) rfl ?_
      refine wg_aload_n (d155_206 L xs) rfl ?_
      refine wg_get (d155_207 L xs) (kd := 1) (cj := 9) (k0 := 42) rfl (Or.inl rfl) (by decide) rfl rfl ?_
      refine wg_iconst (d155_210 L xs) (x := 0) (by decide) ?_
      refine wg_aload_n (d155_211 L xs) rfl ?_
      refine wg_get (d155_212 L xs) (kd := 1) (cj := 9) (k0 := 41) rfl (Or.inl rfl) (by decide) rfl rfl ?_
      refine wg_top (y := (nI fst.length)) h41 ?_
      refine wg_invs (d155_215 L xs) (kd := 6) (mj := 162) (n := 6) rfl (Or.inl rfl) (ys := [.int (nI fst.length), .int 0, .ref 163, .int (nI l.length), .int 0, .ref 165]) (r := []) rfl rfl (Nat.le_of_ble_eq_true rfl) (by have h := md_same (L := L) (xs := xs) (d := d + 7) (l := l) (m := fst) (a := 0) (b := 0) hl hf (by omega) hf48 (by omega) (by omega); rw [t_same_eq] at h; exact h) ?_
      rintro _ _ ⟨rfl, rfl⟩
      have hbs := bI_lt (decide (l = fst))
      refine wg_goto (d155_218 L xs) (t := 240) (by decide) ?_
      refine wg_istore (d155_240 L xs) (ls' := [some (.ref 141), some (.int (nI ch)), some (.int (nI l.length)), some (.int (nI root)), some (.int 1), some (.int (nI (bI bl))), some (.int (nI (x_org R fst))), some (.int 1), some (.int (nI (bI (decide (l = fst))))), none, none]) (Nat.le_of_ble_eq_true rfl) rfl ?_
      refine wg_aload_n (d155_242 L xs) rfl ?_
      refine wg_get (d155_243 L xs) (kd := 1) (cj := 9) (k0 := 36) rfl (Or.inl rfl) (by decide) rfl rfl ?_
      refine wg_top (y := rs) h36 ?_
      refine wg_iconst (d155_246 L xs) (x := 2) (by decide) ?_
      refine wg_icmp_ne (d155_247 L xs) (t := 257) (by decide) (fun h63 => absurd hrs h63) (fun h63 => ?_)
      refine wg_iload (d155_250 L xs) rfl ?_
      refine wn_if_eq (d155_252 L xs) (x := bI (decide (l = fst))) (by omega) (t := 257) (by decide) (fun h64 => ?_) (fun h64 => ?_)
      · rw [hrs, decide_eq_true rfl, Bool.true_and, if_neg (w_no (b := decide (l = fst)) (by omega))]
        exact md_po257 hch hp hok h1
      · refine wg_iconst (d155_255 L xs) (x := 1) (by decide) ?_
        exact wg_iret (d155_256 L xs) rfl rfl ⟨by rw [hrs, decide_eq_true rfl, Bool.true_and, if_pos (bI_t (b := decide (l = fst)) (by omega))], rfl⟩
    · refine wg_aload_n (d155_166 L xs) rfl ?_
      refine wg_aload_n (d155_167 L xs) rfl ?_
      refine wg_get (d155_168 L xs) (kd := 1) (cj := 9) (k0 := 42) rfl (Or.inl rfl) (by decide) rfl rfl ?_
      refine wg_aload_n (d155_171 L xs) rfl ?_
      refine wg_get (d155_172 L xs) (kd := 1) (cj := 9) (k0 := 41) rfl (Or.inl rfl) (by decide) rfl rfl ?_
      refine wg_top (y := (nI fst.length)) h41 ?_
      refine wg_invv (d155_175 L xs) (kd := 7) (mj := 156) (n := 2) rfl (Or.inl rfl) (ys := [.int (nI fst.length), .ref 163]) (r := []) rfl rfl (by decide) rfl rfl (Nat.le_of_ble_eq_true rfl) (md_org (q := 163) (N := 48) (l := fst) isA_all.2.2.2.2.2.2.2.2.2.2.2.2.2.2.2.2.2.2.2.2.2.1 (fun k hk => ⟨by have := hf.2 k hk; rw [Nat.zero_add] at this; exact this, Nat.lt_trans (gl_lt hf.1 k) (by decide)⟩) hf48 (by omega) hf1 T) ?_
      rintro _ _ ⟨rfl, rfl⟩
      refine wg_istore (d155_178 L xs) (ls' := [some (.ref 141), some (.int (nI ch)), some (.int (nI l.length)), some (.int (nI root)), some (.int 1), some (.int (nI (bI bl))), some (.int (nI (x_org R fst))), none, none, none, none]) (Nat.le_of_ble_eq_true rfl) rfl ?_
      refine wg_aload_n (d155_180 L xs) rfl ?_
      refine wg_get (d155_181 L xs) (kd := 1) (cj := 9) (k0 := 45) rfl (Or.inl rfl) (by decide) rfl rfl ?_
      refine wg_top (y := 1) (hp.2.2.1.trans h3) ?_
      refine wg_iconst (d155_184 L xs) (x := 1) (by decide) ?_
      refine wg_icmp_ne (d155_185 L xs) (t := 192) (by decide) (fun hp => absurd hp (by decide)) (fun _ => ?_)
      refine wg_iconst (d155_188 L xs) (x := 1) (by decide) ?_
      refine wg_goto (d155_189 L xs) (t := 193) (by decide) ?_
      refine wg_istore (d155_193 L xs) (ls' := [some (.ref 141), some (.int (nI ch)), some (.int (nI l.length)), some (.int (nI root)), some (.int 1), some (.int (nI (bI bl))), some (.int (nI (x_org R fst))), some (.int 1), none, none, none]) (Nat.le_of_ble_eq_true rfl) rfl ?_
      refine wg_iload (d155_195 L xs) rfl ?_
      refine wg_if_eq (d155_197 L xs) (t := 221) (by decide) (fun hp => absurd hp (by decide)) (fun _ => ?_)
      refine wg_aload_n (d155_200 L xs) rfl ?_
      refine wg_get (d155_201 L xs) (kd := 1) (cj := 9) (k0 := 48) rfl (Or.inl rfl) (by decide) rfl rfl ?_
      refine wg_iconst (d155_204 L xs) (x := 0) (by decide) ?_
      refine wg_iload_n (d155_205 L xs) rfl ?_
      refine wg_aload_n (d155_206 L xs) rfl ?_
      refine wg_get (d155_207 L xs) (kd := 1) (cj := 9) (k0 := 42) rfl (Or.inl rfl) (by decide) rfl rfl ?_
      refine wg_iconst (d155_210 L xs) (x := 0) (by decide) ?_
      refine wg_aload_n (d155_211 L xs) rfl ?_
      refine wg_get (d155_212 L xs) (kd := 1) (cj := 9) (k0 := 41) rfl (Or.inl rfl) (by decide) rfl rfl ?_
      refine wg_top (y := (nI fst.length)) h41 ?_
      refine wg_invs (d155_215 L xs) (kd := 6) (mj := 162) (n := 6) rfl (Or.inl rfl) (ys := [.int (nI fst.length), .int 0, .ref 163, .int (nI l.length), .int 0, .ref 165]) (r := []) rfl rfl (Nat.le_of_ble_eq_true rfl) (by have h := md_same (L := L) (xs := xs) (d := d + 7) (l := l) (m := fst) (a := 0) (b := 0) hl hf (by omega) hf48 (by omega) (by omega); rw [t_same_eq] at h; exact h) ?_
      rintro _ _ ⟨rfl, rfl⟩
      have hbs := bI_lt (decide (l = fst))
      refine wg_goto (d155_218 L xs) (t := 240) (by decide) ?_
      refine wg_istore (d155_240 L xs) (ls' := [some (.ref 141), some (.int (nI ch)), some (.int (nI l.length)), some (.int (nI root)), some (.int 1), some (.int (nI (bI bl))), some (.int (nI (x_org R fst))), some (.int 1), some (.int (nI (bI (decide (l = fst))))), none, none]) (Nat.le_of_ble_eq_true rfl) rfl ?_
      refine wg_aload_n (d155_242 L xs) rfl ?_
      refine wg_get (d155_243 L xs) (kd := 1) (cj := 9) (k0 := 36) rfl (Or.inl rfl) (by decide) rfl rfl ?_
      refine wg_top (y := rs) h36 ?_
      refine wg_iconst (d155_246 L xs) (x := 2) (by decide) ?_
      refine wg_icmp_ne (d155_247 L xs) (t := 257) (by decide) (fun h63 => ?_) (fun h63 => absurd (Decidable.of_not_not h63) hrs)
      rw [decide_eq_false hrs, Bool.false_and, if_neg (show ¬ false = true by decide)]
      exact md_po257 hch hp hok h1
theorem md_policyN (h1 : s.1 141 1 = nI l.length) (hl : holdA s 142 0 l) (hl100 : l.length ≤ 100) {x : Int32} (hN : t_name (gl l) 0 l.length = false) : ca L xs (d + 9) 155 [.ref 141, .int x] s (fun v s' => v = some (.int 0) ∧ mg_I s 141 0 1 = s') := by
  refine wg_call (Nat.le_of_ble_eq_true rfl) ?_
  show wp L xs (d + 8) 155 0 [some (.ref 141), some (.int x), none, none, none, none, none, none, none, none, none] [] s _
  refine wg_aload_n (d155_0 L xs) rfl ?_
  refine wg_aload_n (d155_1 L xs) rfl ?_
  refine wg_get (d155_2 L xs) (kd := 1) (cj := 9) (k0 := 2) rfl (Or.inl rfl) (by decide) rfl rfl ?_
  refine wg_iconst (d155_5 L xs) (x := 0) (by decide) ?_
  refine wg_aload_n (d155_6 L xs) rfl ?_
  refine wg_get (d155_7 L xs) (kd := 1) (cj := 9) (k0 := 1) rfl (Or.inl rfl) (by decide) rfl rfl ?_
  refine wg_top (y := (nI l.length)) h1 ?_
  refine wg_invs (d155_10 L xs) (kd := 6) (mj := 110) (n := 3) rfl (Or.inl rfl) (ys := [.int (nI l.length), .int 0, .ref 142]) (r := [.ref 141]) rfl rfl (Nat.le_of_ble_eq_true rfl) (by have h := md_isName (L := L) (xs := xs) (d := d + 6) (s := s) (q := 142) (N := 100) (fr := 0) (to := l.length) (g := gl l) isA_all.1 (fun k hk => ⟨by have := hl.2 k hk; rw [Nat.zero_add] at this; exact this, Nat.lt_trans (gl_lt hl.1 k) (by decide)⟩) hl100 (by omega) (by omega); rw [hN] at h; exact h) ?_
  rintro _ _ ⟨rfl, rfl⟩
  refine wg_if_eq (d155_13 L xs) (t := 26) (by decide) (fun _ => ?_) (fun hn => absurd (by decide) hn)
  refine wg_iconst (d155_26 L xs) (x := 1) (by decide) ?_
  refine wg_goto (d155_27 L xs) (t := 42) (by decide) ?_
  refine wg_puti (d155_42 L xs) (cj := 9) (k0 := 0) rfl (by decide) rfl (Nat.le_of_ble_eq_true rfl) rfl rfl rfl ?_
  refine wg_aload_n (d155_45 L xs) rfl ?_
  refine wg_get (d155_46 L xs) (kd := 1) (cj := 9) (k0 := 0) rfl (Or.inl rfl) (by decide) rfl rfl ?_
  refine wg_top (y := 1) rfl ?_
  refine wg_if_le (d155_49 L xs) (t := 54) (by decide) (fun hp => absurd hp (by decide)) (fun _ => ?_)
  refine wg_iconst (d155_52 L xs) (x := 0) (by decide) ?_
  exact wg_iret (d155_53 L xs) rfl rfl ⟨rfl, rfl⟩
theorem md_policyL (h1 : s.1 141 1 = nI l.length) (hl : holdA s 142 0 l) (hl100 : l.length ≤ 100) {x : Int32} (hN : t_name (gl l) 0 l.length = true) (hx : x < 0) : ca L xs (d + 9) 155 [.ref 141, .int x] s (fun v s' => v = some (.int 0) ∧ mg_I s 141 0 1 = s') := by
  refine wg_call (Nat.le_of_ble_eq_true rfl) ?_
  show wp L xs (d + 8) 155 0 [some (.ref 141), some (.int x), none, none, none, none, none, none, none, none, none] [] s _
  refine wg_aload_n (d155_0 L xs) rfl ?_
  refine wg_aload_n (d155_1 L xs) rfl ?_
  refine wg_get (d155_2 L xs) (kd := 1) (cj := 9) (k0 := 2) rfl (Or.inl rfl) (by decide) rfl rfl ?_
  refine wg_iconst (d155_5 L xs) (x := 0) (by decide) ?_
  refine wg_aload_n (d155_6 L xs) rfl ?_
  refine wg_get (d155_7 L xs) (kd := 1) (cj := 9) (k0 := 1) rfl (Or.inl rfl) (by decide) rfl rfl ?_
  refine wg_top (y := (nI l.length)) h1 ?_
  refine wg_invs (d155_10 L xs) (kd := 6) (mj := 110) (n := 3) rfl (Or.inl rfl) (ys := [.int (nI l.length), .int 0, .ref 142]) (r := [.ref 141]) rfl rfl (Nat.le_of_ble_eq_true rfl) (by have h := md_isName (L := L) (xs := xs) (d := d + 6) (s := s) (q := 142) (N := 100) (fr := 0) (to := l.length) (g := gl l) isA_all.1 (fun k hk => ⟨by have := hl.2 k hk; rw [Nat.zero_add] at this; exact this, Nat.lt_trans (gl_lt hl.1 k) (by decide)⟩) hl100 (by omega) (by omega); rw [hN] at h; exact h) ?_
  rintro _ _ ⟨rfl, rfl⟩
  refine wg_if_eq (d155_13 L xs) (t := 26) (by decide) (fun hp => absurd hp (by decide)) (fun _ => ?_)
  refine wg_iload_n (d155_16 L xs) rfl ?_
  refine wg_if_lt (d155_17 L xs) (t := 26) (by decide) (fun h2 => ?_) (fun h2 => absurd hx h2)
  refine wg_iconst (d155_26 L xs) (x := 1) (by decide) ?_
  refine wg_goto (d155_27 L xs) (t := 42) (by decide) ?_
  refine wg_puti (d155_42 L xs) (cj := 9) (k0 := 0) rfl (by decide) rfl (Nat.le_of_ble_eq_true rfl) rfl rfl rfl ?_
  refine wg_aload_n (d155_45 L xs) rfl ?_
  refine wg_get (d155_46 L xs) (kd := 1) (cj := 9) (k0 := 0) rfl (Or.inl rfl) (by decide) rfl rfl ?_
  refine wg_top (y := 1) rfl ?_
  refine wg_if_le (d155_49 L xs) (t := 54) (by decide) (fun hp => absurd hp (by decide)) (fun _ => ?_)
  refine wg_iconst (d155_52 L xs) (x := 0) (by decide) ?_
  exact wg_iret (d155_53 L xs) rfl rfl ⟨rfl, rfl⟩
theorem md_policyG (h1 : s.1 141 1 = nI l.length) (hl : holdA s 142 0 l) (hl100 : l.length ≤ 100) {x : Int32} (hN : t_name (gl l) 0 l.length = true) (hx : ¬ x < 0) (hx2 : ¬ x ≤ 99) : ca L xs (d + 9) 155 [.ref 141, .int x] s (fun v s' => v = some (.int 0) ∧ mg_I s 141 0 1 = s') := by
  refine wg_call (Nat.le_of_ble_eq_true rfl) ?_
  show wp L xs (d + 8) 155 0 [some (.ref 141), some (.int x), none, none, none, none, none, none, none, none, none] [] s _
  refine wg_aload_n (d155_0 L xs) rfl ?_
  refine wg_aload_n (d155_1 L xs) rfl ?_
  refine wg_get (d155_2 L xs) (kd := 1) (cj := 9) (k0 := 2) rfl (Or.inl rfl) (by decide) rfl rfl ?_
  refine wg_iconst (d155_5 L xs) (x := 0) (by decide) ?_
  refine wg_aload_n (d155_6 L xs) rfl ?_
  refine wg_get (d155_7 L xs) (kd := 1) (cj := 9) (k0 := 1) rfl (Or.inl rfl) (by decide) rfl rfl ?_
  refine wg_top (y := (nI l.length)) h1 ?_
  refine wg_invs (d155_10 L xs) (kd := 6) (mj := 110) (n := 3) rfl (Or.inl rfl) (ys := [.int (nI l.length), .int 0, .ref 142]) (r := [.ref 141]) rfl rfl (Nat.le_of_ble_eq_true rfl) (by have h := md_isName (L := L) (xs := xs) (d := d + 6) (s := s) (q := 142) (N := 100) (fr := 0) (to := l.length) (g := gl l) isA_all.1 (fun k hk => ⟨by have := hl.2 k hk; rw [Nat.zero_add] at this; exact this, Nat.lt_trans (gl_lt hl.1 k) (by decide)⟩) hl100 (by omega) (by omega); rw [hN] at h; exact h) ?_
  rintro _ _ ⟨rfl, rfl⟩
  refine wg_if_eq (d155_13 L xs) (t := 26) (by decide) (fun hp => absurd hp (by decide)) (fun _ => ?_)
  refine wg_iload_n (d155_16 L xs) rfl ?_
  refine wg_if_lt (d155_17 L xs) (t := 26) (by decide) (fun h2 => absurd h2 hx) (fun h2 => ?_)
  refine wg_iload_n (d155_20 L xs) rfl ?_
  refine wg_bipush (d155_21 L xs) (x := 99) (by decide) ?_
  refine wg_icmp_le (d155_23 L xs) (t := 30) (by decide) (fun h3 => absurd h3 hx2) (fun h3 => ?_)
  refine wg_iconst (d155_26 L xs) (x := 1) (by decide) ?_
  refine wg_goto (d155_27 L xs) (t := 42) (by decide) ?_
  refine wg_puti (d155_42 L xs) (cj := 9) (k0 := 0) rfl (by decide) rfl (Nat.le_of_ble_eq_true rfl) rfl rfl rfl ?_
  refine wg_aload_n (d155_45 L xs) rfl ?_
  refine wg_get (d155_46 L xs) (kd := 1) (cj := 9) (k0 := 0) rfl (Or.inl rfl) (by decide) rfl rfl ?_
  refine wg_top (y := 1) rfl ?_
  refine wg_if_le (d155_49 L xs) (t := 54) (by decide) (fun hp => absurd hp (by decide)) (fun _ => ?_)
  refine wg_iconst (d155_52 L xs) (x := 0) (by decide) ?_
  exact wg_iret (d155_53 L xs) rfl rfl ⟨rfl, rfl⟩
theorem md_policyU (h1 : s.1 141 1 = nI l.length) (hl : holdA s 142 0 l) (hl100 : l.length ≤ 100) {ch : Nat} (hN : t_name (gl l) 0 l.length = true) (hch : ch ≤ 99) (h34 : s.1 141 34 = 0) : ca L xs (d + 9) 155 [.ref 141, .int (nI ch)] s (fun v s' => v = some (.int 0) ∧ mg_I s 141 0 2 = s') := by
  refine wg_call (Nat.le_of_ble_eq_true rfl) ?_
  show wp L xs (d + 8) 155 0 [some (.ref 141), some (.int (nI ch)), none, none, none, none, none, none, none, none, none] [] s _
  refine wg_aload_n (d155_0 L xs) rfl ?_
  refine wg_aload_n (d155_1 L xs) rfl ?_
  refine wg_get (d155_2 L xs) (kd := 1) (cj := 9) (k0 := 2) rfl (Or.inl rfl) (by decide) rfl rfl ?_
  refine wg_iconst (d155_5 L xs) (x := 0) (by decide) ?_
  refine wg_aload_n (d155_6 L xs) rfl ?_
  refine wg_get (d155_7 L xs) (kd := 1) (cj := 9) (k0 := 1) rfl (Or.inl rfl) (by decide) rfl rfl ?_
  refine wg_top (y := (nI l.length)) h1 ?_
  refine wg_invs (d155_10 L xs) (kd := 6) (mj := 110) (n := 3) rfl (Or.inl rfl) (ys := [.int (nI l.length), .int 0, .ref 142]) (r := [.ref 141]) rfl rfl (Nat.le_of_ble_eq_true rfl) (by have h := md_isName (L := L) (xs := xs) (d := d + 6) (s := s) (q := 142) (N := 100) (fr := 0) (to := l.length) (g := gl l) isA_all.1 (fun k hk => ⟨by have := hl.2 k hk; rw [Nat.zero_add] at this; exact this, Nat.lt_trans (gl_lt hl.1 k) (by decide)⟩) hl100 (by omega) (by omega); rw [hN] at h; exact h) ?_
  rintro _ _ ⟨rfl, rfl⟩
  refine wg_if_eq (d155_13 L xs) (t := 26) (by decide) (fun hp => absurd hp (by decide)) (fun _ => ?_)
  refine wg_iload_n (d155_16 L xs) rfl ?_
  refine wn_if_lt (d155_17 L xs) (x := ch) (by omega) (t := 26) (by decide) (fun h2 => by omega) (fun h2 => ?_)
  refine wg_iload_n (d155_20 L xs) rfl ?_
  refine wg_bipush (d155_21 L xs) (x := 99) (by decide) ?_
  refine wn_icmp_le (d155_23 L xs) (x := ch) (y := 99) (by omega) (by omega) (t := 30) (by decide) (fun h3 => ?_) (fun h3 => by omega)
  refine wg_aload_n (d155_30 L xs) rfl ?_
  refine wg_get (d155_31 L xs) (kd := 1) (cj := 9) (k0 := 34) rfl (Or.inl rfl) (by decide) rfl rfl ?_
  refine wg_top (y := 0) h34 ?_
  refine wg_if_ne (d155_34 L xs) (t := 41) (by decide) (fun hp => absurd hp (by decide)) (fun _ => ?_)
  refine wg_iconst (d155_37 L xs) (x := 2) (by decide) ?_
  refine wg_goto (d155_38 L xs) (t := 42) (by decide) ?_
  refine wg_puti (d155_42 L xs) (cj := 9) (k0 := 0) rfl (by decide) rfl (Nat.le_of_ble_eq_true rfl) rfl rfl rfl ?_
  refine wg_aload_n (d155_45 L xs) rfl ?_
  refine wg_get (d155_46 L xs) (kd := 1) (cj := 9) (k0 := 0) rfl (Or.inl rfl) (by decide) rfl rfl ?_
  refine wg_top (y := 2) rfl ?_
  refine wg_if_le (d155_49 L xs) (t := 54) (by decide) (fun hp => absurd hp (by decide)) (fun _ => ?_)
  refine wg_iconst (d155_52 L xs) (x := 0) (by decide) ?_
  exact wg_iret (d155_53 L xs) rfl rfl ⟨rfl, rfl⟩
theorem md_po_c {l : List Nat} {ch : Nat} (hcap : l.length ≤ 48) : ∀ (q k : Nat) (s : mg_s), k + q = l.length → holdA s 142 0 l → (∀ j, j < k → s.2.1 165 (0 + j) = nI (gl l j)) → (∀ s', mfr s s' [] [165] → holdA s' 165 0 l → (∀ j, j < 0 ∨ 0 + l.length ≤ j → s'.2.1 165 j = s.2.1 165 j) → wp L xs (d + 8) 155 84 [some (.ref 141), some (.int (nI ch)), some (.int (nI l.length)), some (.int (nI l.length)), none, none, none, none, none, none, none] [] s' Q) → wp L xs (d + 8) 155 61 [some (.ref 141), some (.int (nI ch)), some (.int (nI l.length)), some (.int (nI k)), none, none, none, none, none, none, none] [] s Q := by
  intro q
  induction q with
  | zero =>
    intro k s hk hsrc hdst kk
    have hk0 : k = l.length := by omega
    subst hk0
    refine wg_iload_n (d155_61 L xs) rfl ?_
    refine wg_iload_n (d155_62 L xs) rfl ?_
    refine wn_icmp_ge (d155_63 L xs) (x := l.length) (y := l.length) (by omega) (by omega) (t := 84) (by decide) (fun h1 => ?_) (fun h1 => by omega)
    exact kk s (mfr.rf s _ _) ⟨hsrc.1, hdst⟩ (fun _ _ => rfl)
  | succ q ih =>
    intro k s hk hsrc hdst kk
    have hgk := gl_lt hsrc.1 k
    refine wg_iload_n (d155_61 L xs) rfl ?_
    refine wg_iload_n (d155_62 L xs) rfl ?_
    refine wn_icmp_ge (d155_63 L xs) (x := k) (y := l.length) (by omega) (by omega) (t := 84) (by decide) (fun h1 => by omega) (fun h1 => ?_)
    refine wg_aload_n (d155_66 L xs) rfl ?_
    refine wg_get (d155_67 L xs) (kd := 1) (cj := 9) (k0 := 48) rfl (Or.inl rfl) (by decide) rfl rfl ?_
    refine wg_iload_n (d155_70 L xs) rfl ?_
    refine wg_aload_n (d155_71 L xs) rfl ?_
    refine wg_get (d155_72 L xs) (kd := 1) (cj := 9) (k0 := 2) rfl (Or.inl rfl) (by decide) rfl rfl ?_
    refine wg_iload_n (d155_75 L xs) rfl ?_
    refine wg_iald (d155_76 L xs) (n := 100) (by decide) rfl (vp_in_nI (n := k) (by omega) (by omega)) ?_
    refine wg_top (y := (nI (gl l k))) (by rw [nI_nat (n := k) (by omega)]; exact ((congrArg (s.2.1 142) (show k = 0 + k by omega)).trans (hsrc.2 k (by omega)))) ?_
    refine wg_iast (d155_77 L xs) (n := 60) (by decide) rfl (vp_in_nI (n := k) (by omega) (by omega)) rfl ?_
    rw [nI_nat (n := k) (by omega)]
    refine wg_iinc (d155_78 L xs) (y := (nI (k + 1))) (ls' := [some (.ref 141), some (.int (nI ch)), some (.int (nI l.length)), some (.int (nI (k + 1))), none, none, none, none, none, none, none]) rfl (nI_add k 1) rfl ?_
    refine wg_goto (d155_81 L xs) (t := 61) (by decide) ?_
    refine ih (k + 1) _ (by omega) (holdA_A hsrc (by decide)) (fun j hj => ?_) (fun s' m1 m2 m3 => kk s' ((mfr_A s (by decide)).trans m1) m2 (fun j hj => (m3 j hj).trans (mA_ne _ _ (Or.inr (by omega)))))
    by_cases e : j = k
    · subst e; exact (congrArg ((mg_A s 165 j (nI (gl l j))).2.1 165) (show 0 + j = j by omega)).trans (mA_at _ _ _ _)
    · exact (mA_ne _ _ (Or.inr (by omega))).trans (hdst j (by omega))
theorem tab_no2 : ∀ a, 143 ≤ a → a ≤ 147 → a ∉ [148, 149, 150, 165] := fun a q1 q2 => by
  have : a = 143 ∨ a = 144 ∨ a = 145 ∨ a = 146 ∨ a = 147 := by omega
  rcases this with e | e | e | e | e <;> (subst e; decide)
theorem fp_v (R : List rowT) (nm : List Nat) : (x_fp R nm).1 = 0 ∨ (x_fp R nm).1 = 1 ∨ (x_fp R nm).1 = 5 := by
  cases h : f_fine nm R with
  | false => exact Or.inr (Or.inr (fp_5 h))
  | true =>
    rw [fp_M h]
    cases f_pls nm R with
    | nil => exact Or.inl rfl
    | cons q M =>
      cases M with
      | nil => exact Or.inr (Or.inl rfl)
      | cons q2 M => exact Or.inl rfl
theorem md_policyT (h1 : s.1 141 1 = nI l.length) (hl : holdA s 142 0 l) (hl100 : l.length ≤ 100) {ch : Nat} {rs : Int32} (hN : t_name (gl l) 0 l.length = true) (hch : ch ≤ 99) (h34 : s.1 141 34 = 1) (hf : holdA s 163 0 fst) (hf1 : 1 ≤ fst.length) (hf48 : fst.length ≤ 48) (h41 : s.1 141 41 = nI fst.length) (h36 : s.1 141 36 = rs) (T : isTabM s R) : ca L xs (d + 9) 155 [.ref 141, .int (nI ch)] s (fun v s' => v = some (.int (x_vd R fst rs l ch).1) ∧ mfr s s' [0, 1, 9, 10, 12, 14, 15, 43, 44, 45, 46] [148, 149, 150, 165] ∧ s'.1 141 0 = 0 ∧ s'.1 141 1 = 0 ∧ isAsk s' (x_vd R fst rs l ch).2) := by
  refine wg_call (Nat.le_of_ble_eq_true rfl) ?_
  have hnl := t_name_len hN
  have hrl := org_le R l
  show wp L xs (d + 8) 155 0 [some (.ref 141), some (.int (nI ch)), none, none, none, none, none, none, none, none, none] [] s _
  refine wg_aload_n (d155_0 L xs) rfl ?_
  refine wg_aload_n (d155_1 L xs) rfl ?_
  refine wg_get (d155_2 L xs) (kd := 1) (cj := 9) (k0 := 2) rfl (Or.inl rfl) (by decide) rfl rfl ?_
  refine wg_iconst (d155_5 L xs) (x := 0) (by decide) ?_
  refine wg_aload_n (d155_6 L xs) rfl ?_
  refine wg_get (d155_7 L xs) (kd := 1) (cj := 9) (k0 := 1) rfl (Or.inl rfl) (by decide) rfl rfl ?_
  refine wg_top (y := (nI l.length)) h1 ?_
  refine wg_invs (d155_10 L xs) (kd := 6) (mj := 110) (n := 3) rfl (Or.inl rfl) (ys := [.int (nI l.length), .int 0, .ref 142]) (r := [.ref 141]) rfl rfl (Nat.le_of_ble_eq_true rfl) (by have h := md_isName (L := L) (xs := xs) (d := d + 6) (s := s) (q := 142) (N := 100) (fr := 0) (to := l.length) (g := gl l) isA_all.1 (fun k hk => ⟨by have := hl.2 k hk; rw [Nat.zero_add] at this; exact this, Nat.lt_trans (gl_lt hl.1 k) (by decide)⟩) hl100 (by omega) (by omega); rw [hN] at h; exact h) ?_
  rintro _ _ ⟨rfl, rfl⟩
  refine wg_if_eq (d155_13 L xs) (t := 26) (by decide) (fun hp => absurd hp (by decide)) (fun _ => ?_)
  refine wg_iload_n (d155_16 L xs) rfl ?_
  refine wn_if_lt (d155_17 L xs) (x := ch) (by omega) (t := 26) (by decide) (fun h2 => by omega) (fun h2 => ?_)
  refine wg_iload_n (d155_20 L xs) rfl ?_
  refine wg_bipush (d155_21 L xs) (x := 99) (by decide) ?_
  refine wn_icmp_le (d155_23 L xs) (x := ch) (y := 99) (by omega) (by omega) (t := 30) (by decide) (fun h3 => ?_) (fun h3 => by omega)
  refine wg_aload_n (d155_30 L xs) rfl ?_
  refine wg_get (d155_31 L xs) (kd := 1) (cj := 9) (k0 := 34) rfl (Or.inl rfl) (by decide) rfl rfl ?_
  refine wg_top (y := 1) h34 ?_
  refine wg_if_ne (d155_34 L xs) (t := 41) (by decide) (fun _ => ?_) (fun hn => absurd (by decide) hn)
  refine wg_iconst (d155_41 L xs) (x := 0) (by decide) ?_
  refine wg_puti (d155_42 L xs) (cj := 9) (k0 := 0) rfl (by decide) rfl (Nat.le_of_ble_eq_true rfl) rfl rfl rfl ?_
  refine wg_aload_n (d155_45 L xs) rfl ?_
  refine wg_get (d155_46 L xs) (kd := 1) (cj := 9) (k0 := 0) rfl (Or.inl rfl) (by decide) rfl rfl ?_
  refine wg_top (y := 0) rfl ?_
  refine wg_if_le (d155_49 L xs) (t := 54) (by decide) (fun _ => ?_) (fun hn => absurd (by decide) hn)
  refine wg_aload_n (d155_54 L xs) rfl ?_
  refine wg_get (d155_55 L xs) (kd := 1) (cj := 9) (k0 := 1) rfl (Or.inl rfl) (by decide) rfl rfl ?_
  refine wg_top (y := (nI l.length)) h1 ?_
  refine wg_istore_n (d155_58 L xs) (ls' := [some (.ref 141), some (.int (nI ch)), some (.int (nI l.length)), none, none, none, none, none, none, none, none]) (Nat.le_of_ble_eq_true rfl) rfl ?_
  refine wg_iconst (d155_59 L xs) (x := 0) (by decide) ?_
  refine wg_istore_n (d155_60 L xs) (ls' := [some (.ref 141), some (.int (nI ch)), some (.int (nI l.length)), some (.int 0), none, none, none, none, none, none, none]) (Nat.le_of_ble_eq_true rfl) rfl ?_
  have m00 : mfr s (mg_I s 141 0 0) [0, 1, 9, 10, 12, 14, 15, 43, 44, 45, 46] [148, 149, 150, 165] := mfr_I s (by decide)
  refine md_po_c (by omega) l.length 0 _ (by omega) (holdA_of hl rfl) (fun j hj => absurd hj (by omega)) (fun s1 m1 b165 _ => ?_)
  have m0 : mfr s (mg_I (mg_I s1 141 1 0) 141 14 0) [0, 1, 9, 10, 12, 14, 15, 43, 44, 45, 46] [148, 149, 150, 165] := ((m00.trans (m1.more (by decide) (by decide))).trans (mfr_I _ (by decide))).trans (mfr_I _ (by decide))
  have T0 : isTabM (mg_I (mg_I s1 141 1 0) 141 14 0) R := m0.tab (by decide) tab_no2 T
  have hg : ∀ k, k < l.length → (mg_I (mg_I s1 141 1 0) 141 14 0).2.1 165 k = nI (gl l k) ∧ gl l k < 65536 := fun k hk => ⟨by have := b165.2 k hk; rw [Nat.zero_add] at this; exact this, Nat.lt_trans (gl_lt b165.1 k) (by decide)⟩
  have e0 : (mg_I (mg_I s1 141 1 0) 141 14 0).1 141 0 = 0 := m1.2.1 0 (by decide)
  rcases fp_v R (x_nmp l 0) with hp1 | hp1 | hp1
  · by_cases hor : 0 < x_org R l
    · rcases fp_v R (x_nmp l (x_org R l)) with hp2 | hp2 | hp2
      · have hx : x_vd R fst rs l ch = (x_vq R fst rs l (x_org R l) true (x_fp R (x_nmp l (x_org R l))) ch, x_nmp l (x_org R l)) := by unfold x_vd; rw [if_pos ⟨hp1, hor⟩]
        refine wg_aload_n (d155_84 L xs) rfl ?_
        refine wg_iconst (d155_85 L xs) (x := 0) (by decide) ?_
        refine wg_puti (d155_86 L xs) (cj := 9) (k0 := 1) rfl (by decide) rfl (Nat.le_of_ble_eq_true rfl) rfl rfl rfl ?_
        refine wg_aload_n (d155_89 L xs) rfl ?_
        refine wg_iconst (d155_90 L xs) (x := 0) (by decide) ?_
        refine wg_putz (d155_91 L xs) (cj := 9) (k0 := 14) rfl (by decide) rfl (Nat.le_of_ble_eq_true rfl) rfl (by decide) rfl rfl ?_
        refine wg_aload_n (d155_94 L xs) rfl ?_
        refine wg_aload_n (d155_95 L xs) rfl ?_
        refine wg_get (d155_96 L xs) (kd := 1) (cj := 9) (k0 := 48) rfl (Or.inl rfl) (by decide) rfl rfl ?_
        refine wg_iload_n (d155_99 L xs) rfl ?_
        refine wg_invv (d155_100 L xs) (kd := 7) (mj := 156) (n := 2) rfl (Or.inl rfl) (ys := [.int (nI l.length), .ref 165]) (r := []) rfl rfl (by decide) rfl rfl (Nat.le_of_ble_eq_true rfl) (md_org (q := 165) (N := 60) (l := l) (s := (mg_I (mg_I s1 141 1 0) 141 14 0)) isA_all.2.2.2.2.2.2.2.2.2.2.2.2.2.2.2.2.2.2.2.2.2.2.2 hg (by omega) (by omega) (by omega) T0) ?_
        rintro _ _ ⟨rfl, rfl⟩
        refine wg_istore_n (d155_103 L xs) (ls' := [some (.ref 141), some (.int (nI ch)), some (.int (nI l.length)), some (.int (nI (x_org R l))), none, none, none, none, none, none, none]) (Nat.le_of_ble_eq_true rfl) rfl ?_
        refine wg_aload_n (d155_104 L xs) rfl ?_
        refine wg_aload_n (d155_105 L xs) rfl ?_
        refine wg_get (d155_106 L xs) (kd := 1) (cj := 9) (k0 := 48) rfl (Or.inl rfl) (by decide) rfl rfl ?_
        refine wg_iconst (d155_109 L xs) (x := 0) (by decide) ?_
        refine wg_iload_n (d155_110 L xs) rfl ?_
        refine wg_invv (d155_111 L xs) (kd := 7) (mj := 157) (n := 3) rfl (Or.inl rfl) (ys := [.int (nI l.length), .int 0, .ref 165]) (r := []) rfl rfl (by decide) rfl rfl (Nat.le_of_ble_eq_true rfl) (by have h := md_seek (L := L) (xs := xs) (d := d) (s := (mg_I (mg_I s1 141 1 0) 141 14 0)) (st := 0) (l := l) (R := R) (by omega) (by omega) (by omega) (holdA_of b165 rfl) T0; rw [hp1] at h; exact h) ?_
        rintro _ s2 ⟨rfl, hm2, hak2, hpp2⟩
        have m02 := m0.trans (hm2.more (F' := [0, 1, 9, 10, 12, 14, 15, 43, 44, 45, 46]) (A' := [148, 149, 150, 165]) (by decide) (by decide))
        refine wg_istore (d155_114 L xs) (ls' := [some (.ref 141), some (.int (nI ch)), some (.int (nI l.length)), some (.int (nI (x_org R l))), some (.int 0), none, none, none, none, none, none]) (Nat.le_of_ble_eq_true rfl) rfl ?_
        refine wg_iload (d155_116 L xs) rfl ?_
        refine wg_if_ne (d155_118 L xs) (t := 129) (by decide) (fun hp => absurd hp (by decide)) (fun _ => ?_)
        refine wg_iload_n (d155_121 L xs) rfl ?_
        refine wn_if_le (d155_122 L xs) (x := x_org R l) (by omega) (t := 129) (by decide) (fun h62 => by omega) (fun h62 => ?_)
        refine wg_iconst (d155_125 L xs) (x := 1) (by decide) ?_
        refine wg_goto (d155_126 L xs) (t := 130) (by decide) ?_
        refine wg_istore (d155_130 L xs) (ls' := [some (.ref 141), some (.int (nI ch)), some (.int (nI l.length)), some (.int (nI (x_org R l))), some (.int 0), some (.int 1), none, none, none, none, none]) (Nat.le_of_ble_eq_true rfl) rfl ?_
        refine wg_iload (d155_132 L xs) rfl ?_
        refine wg_if_eq (d155_134 L xs) (t := 149) (by decide) (fun hp => absurd hp (by decide)) (fun _ => ?_)
        refine wg_aload_n (d155_137 L xs) rfl ?_
        refine wg_aload_n (d155_138 L xs) rfl ?_
        refine wg_get (d155_139 L xs) (kd := 1) (cj := 9) (k0 := 48) rfl (Or.inl rfl) (by decide) rfl rfl ?_
        refine wg_iload_n (d155_142 L xs) rfl ?_
        refine wg_iload_n (d155_143 L xs) rfl ?_
        refine wg_invv (d155_144 L xs) (kd := 7) (mj := 157) (n := 3) rfl (Or.inl rfl) (ys := [.int (nI l.length), .int (nI (x_org R l)), .ref 165]) (r := []) rfl rfl (by decide) rfl rfl (Nat.le_of_ble_eq_true rfl) (by have h := md_seek (L := L) (xs := xs) (d := d) (s := s2) (st := x_org R l) (l := l) (R := R) hrl (by omega) (by omega) (hm2.hold (by decide) (holdA_of b165 rfl)) (m02.tab (by decide) tab_no2 T); rw [hp2] at h; exact h) ?_
        rintro _ s3 ⟨rfl, hm3, hak3, hpp3⟩
        have m03 := m02.trans (hm3.more (F' := [0, 1, 9, 10, 12, 14, 15, 43, 44, 45, 46]) (A' := [148, 149, 150, 165]) (by decide) (by decide))
        refine wg_istore (d155_147 L xs) (ls' := [some (.ref 141), some (.int (nI ch)), some (.int (nI l.length)), some (.int (nI (x_org R l))), some (.int 0), some (.int 1), none, none, none, none, none]) (Nat.le_of_ble_eq_true rfl) rfl ?_
        refine wg_iload (d155_149 L xs) rfl ?_
        refine wg_iconst (d155_151 L xs) (x := 1) (by decide) ?_
        refine wg_icmp_ge (d155_152 L xs) (t := 166) (by decide) (fun hp => absurd hp (by decide)) (fun _ => ?_)
        refine wg_iload (d155_155 L xs) rfl ?_
        refine wg_if_ge (d155_157 L xs) (t := 164) (by decide) (fun _ => ?_) (fun hn => absurd (by decide) hn)
        refine wg_iconst (d155_164 L xs) (x := 0) (by decide) ?_
        exact wg_iret (d155_165 L xs) rfl rfl ⟨by rw [hx]; show _ = some (Value.int (x_vq R fst rs l (x_org R l) true (x_fp R (x_nmp l (x_org R l))) ch)); unfold x_vq; rw [if_neg (by omega), if_pos hp2], m03, ((hm3.2.1 0 (by decide)).trans (hm2.2.1 0 (by decide))).trans e0, (hm3.2.1 1 (by decide)).trans (hm2.2.1 1 (by decide)), by rw [hx]; exact hak3⟩
      · have hx : x_vd R fst rs l ch = (x_vq R fst rs l (x_org R l) true (x_fp R (x_nmp l (x_org R l))) ch, x_nmp l (x_org R l)) := by unfold x_vd; rw [if_pos ⟨hp1, hor⟩]
        refine wg_aload_n (d155_84 L xs) rfl ?_
        refine wg_iconst (d155_85 L xs) (x := 0) (by decide) ?_
        refine wg_puti (d155_86 L xs) (cj := 9) (k0 := 1) rfl (by decide) rfl (Nat.le_of_ble_eq_true rfl) rfl rfl rfl ?_
        refine wg_aload_n (d155_89 L xs) rfl ?_
        refine wg_iconst (d155_90 L xs) (x := 0) (by decide) ?_
        refine wg_putz (d155_91 L xs) (cj := 9) (k0 := 14) rfl (by decide) rfl (Nat.le_of_ble_eq_true rfl) rfl (by decide) rfl rfl ?_
        refine wg_aload_n (d155_94 L xs) rfl ?_
        refine wg_aload_n (d155_95 L xs) rfl ?_
        refine wg_get (d155_96 L xs) (kd := 1) (cj := 9) (k0 := 48) rfl (Or.inl rfl) (by decide) rfl rfl ?_
        refine wg_iload_n (d155_99 L xs) rfl ?_
        refine wg_invv (d155_100 L xs) (kd := 7) (mj := 156) (n := 2) rfl (Or.inl rfl) (ys := [.int (nI l.length), .ref 165]) (r := []) rfl rfl (by decide) rfl rfl (Nat.le_of_ble_eq_true rfl) (md_org (q := 165) (N := 60) (l := l) (s := (mg_I (mg_I s1 141 1 0) 141 14 0)) isA_all.2.2.2.2.2.2.2.2.2.2.2.2.2.2.2.2.2.2.2.2.2.2.2 hg (by omega) (by omega) (by omega) T0) ?_
        rintro _ _ ⟨rfl, rfl⟩
        refine wg_istore_n (d155_103 L xs) (ls' := [some (.ref 141), some (.int (nI ch)), some (.int (nI l.length)), some (.int (nI (x_org R l))), none, none, none, none, none, none, none]) (Nat.le_of_ble_eq_true rfl) rfl ?_
        refine wg_aload_n (d155_104 L xs) rfl ?_
        refine wg_aload_n (d155_105 L xs) rfl ?_
        refine wg_get (d155_106 L xs) (kd := 1) (cj := 9) (k0 := 48) rfl (Or.inl rfl) (by decide) rfl rfl ?_
        refine wg_iconst (d155_109 L xs) (x := 0) (by decide) ?_
        refine wg_iload_n (d155_110 L xs) rfl ?_
        refine wg_invv (d155_111 L xs) (kd := 7) (mj := 157) (n := 3) rfl (Or.inl rfl) (ys := [.int (nI l.length), .int 0, .ref 165]) (r := []) rfl rfl (by decide) rfl rfl (Nat.le_of_ble_eq_true rfl) (by have h := md_seek (L := L) (xs := xs) (d := d) (s := (mg_I (mg_I s1 141 1 0) 141 14 0)) (st := 0) (l := l) (R := R) (by omega) (by omega) (by omega) (holdA_of b165 rfl) T0; rw [hp1] at h; exact h) ?_
        rintro _ s2 ⟨rfl, hm2, hak2, hpp2⟩
        have m02 := m0.trans (hm2.more (F' := [0, 1, 9, 10, 12, 14, 15, 43, 44, 45, 46]) (A' := [148, 149, 150, 165]) (by decide) (by decide))
        refine wg_istore (d155_114 L xs) (ls' := [some (.ref 141), some (.int (nI ch)), some (.int (nI l.length)), some (.int (nI (x_org R l))), some (.int 0), none, none, none, none, none, none]) (Nat.le_of_ble_eq_true rfl) rfl ?_
        refine wg_iload (d155_116 L xs) rfl ?_
        refine wg_if_ne (d155_118 L xs) (t := 129) (by decide) (fun hp => absurd hp (by decide)) (fun _ => ?_)
        refine wg_iload_n (d155_121 L xs) rfl ?_
        refine wn_if_le (d155_122 L xs) (x := x_org R l) (by omega) (t := 129) (by decide) (fun h62 => by omega) (fun h62 => ?_)
        refine wg_iconst (d155_125 L xs) (x := 1) (by decide) ?_
        refine wg_goto (d155_126 L xs) (t := 130) (by decide) ?_
        refine wg_istore (d155_130 L xs) (ls' := [some (.ref 141), some (.int (nI ch)), some (.int (nI l.length)), some (.int (nI (x_org R l))), some (.int 0), some (.int 1), none, none, none, none, none]) (Nat.le_of_ble_eq_true rfl) rfl ?_
        refine wg_iload (d155_132 L xs) rfl ?_
        refine wg_if_eq (d155_134 L xs) (t := 149) (by decide) (fun hp => absurd hp (by decide)) (fun _ => ?_)
        refine wg_aload_n (d155_137 L xs) rfl ?_
        refine wg_aload_n (d155_138 L xs) rfl ?_
        refine wg_get (d155_139 L xs) (kd := 1) (cj := 9) (k0 := 48) rfl (Or.inl rfl) (by decide) rfl rfl ?_
        refine wg_iload_n (d155_142 L xs) rfl ?_
        refine wg_iload_n (d155_143 L xs) rfl ?_
        refine wg_invv (d155_144 L xs) (kd := 7) (mj := 157) (n := 3) rfl (Or.inl rfl) (ys := [.int (nI l.length), .int (nI (x_org R l)), .ref 165]) (r := []) rfl rfl (by decide) rfl rfl (Nat.le_of_ble_eq_true rfl) (by have h := md_seek (L := L) (xs := xs) (d := d) (s := s2) (st := x_org R l) (l := l) (R := R) hrl (by omega) (by omega) (hm2.hold (by decide) (holdA_of b165 rfl)) (m02.tab (by decide) tab_no2 T); rw [hp2] at h; exact h) ?_
        rintro _ s3 ⟨rfl, hm3, hak3, hpp3⟩
        have m03 := m02.trans (hm3.more (F' := [0, 1, 9, 10, 12, 14, 15, 43, 44, 45, 46]) (A' := [148, 149, 150, 165]) (by decide) (by decide))
        refine wg_istore (d155_147 L xs) (ls' := [some (.ref 141), some (.int (nI ch)), some (.int (nI l.length)), some (.int (nI (x_org R l))), some (.int 1), some (.int 1), none, none, none, none, none]) (Nat.le_of_ble_eq_true rfl) rfl ?_
        refine wg_iload (d155_149 L xs) rfl ?_
        refine wg_iconst (d155_151 L xs) (x := 1) (by decide) ?_
        refine wg_icmp_ge (d155_152 L xs) (t := 166) (by decide) (fun _ => ?_) (fun hn => absurd (by decide) hn)
        have hq := hpp3 rfl
        have hv : x_vq R fst rs l (x_org R l) true (x_fp R (x_nmp l (x_org R l))) ch = (if x_al R fst rs l (x_org R l) (x_fp R (x_nmp l (x_org R l))).2 = true then 1 else if ¬ x_ac true (x_fp R (x_nmp l (x_org R l))).2 ≤ 2 ∧ ¬ nI ch < x_pc (x_fp R (x_nmp l (x_org R l))).2 then x_ac true (x_fp R (x_nmp l (x_org R l))).2 - 1 else x_ac true (x_fp R (x_nmp l (x_org R l))).2) := by unfold x_vq; rw [if_neg (show ¬ (x_fp R (x_nmp l (x_org R l))).1 = 5 by omega), if_neg (show ¬ (x_fp R (x_nmp l (x_org R l))).1 = 0 by omega)]
        rw [hx]
        dsimp only
        rw [hv]
        refine wp_mono (md_po166 (P := (x_fp R (x_nmp l (x_org R l))).2) (bl := true) hch hrl (hm3.hold (by decide) (hm2.hold (by decide) (holdA_of b165 rfl))) (by omega) (m03.hold (by decide) hf) hf1 hf48 ((m03.2.1 41 (by decide)).trans h41) ((m03.2.1 36 (by decide)).trans h36) (m03.tab (by decide) tab_no2 T) hq.1 hq.2.1 hq.2.2) ?_
        rintro _ _ ⟨rfl, rfl⟩
        exact ⟨rfl, m03, ((hm3.2.1 0 (by decide)).trans (hm2.2.1 0 (by decide))).trans e0, (hm3.2.1 1 (by decide)).trans (hm2.2.1 1 (by decide)), hak3⟩
      · have hx : x_vd R fst rs l ch = (x_vq R fst rs l (x_org R l) true (x_fp R (x_nmp l (x_org R l))) ch, x_nmp l (x_org R l)) := by unfold x_vd; rw [if_pos ⟨hp1, hor⟩]
        refine wg_aload_n (d155_84 L xs) rfl ?_
        refine wg_iconst (d155_85 L xs) (x := 0) (by decide) ?_
        refine wg_puti (d155_86 L xs) (cj := 9) (k0 := 1) rfl (by decide) rfl (Nat.le_of_ble_eq_true rfl) rfl rfl rfl ?_
        refine wg_aload_n (d155_89 L xs) rfl ?_
        refine wg_iconst (d155_90 L xs) (x := 0) (by decide) ?_
        refine wg_putz (d155_91 L xs) (cj := 9) (k0 := 14) rfl (by decide) rfl (Nat.le_of_ble_eq_true rfl) rfl (by decide) rfl rfl ?_
        refine wg_aload_n (d155_94 L xs) rfl ?_
        refine wg_aload_n (d155_95 L xs) rfl ?_
        refine wg_get (d155_96 L xs) (kd := 1) (cj := 9) (k0 := 48) rfl (Or.inl rfl) (by decide) rfl rfl ?_
        refine wg_iload_n (d155_99 L xs) rfl ?_
        refine wg_invv (d155_100 L xs) (kd := 7) (mj := 156) (n := 2) rfl (Or.inl rfl) (ys := [.int (nI l.length), .ref 165]) (r := []) rfl rfl (by decide) rfl rfl (Nat.le_of_ble_eq_true rfl) (md_org (q := 165) (N := 60) (l := l) (s := (mg_I (mg_I s1 141 1 0) 141 14 0)) isA_all.2.2.2.2.2.2.2.2.2.2.2.2.2.2.2.2.2.2.2.2.2.2.2 hg (by omega) (by omega) (by omega) T0) ?_
        rintro _ _ ⟨rfl, rfl⟩
        refine wg_istore_n (d155_103 L xs) (ls' := [some (.ref 141), some (.int (nI ch)), some (.int (nI l.length)), some (.int (nI (x_org R l))), none, none, none, none, none, none, none]) (Nat.le_of_ble_eq_true rfl) rfl ?_
        refine wg_aload_n (d155_104 L xs) rfl ?_
        refine wg_aload_n (d155_105 L xs) rfl ?_
        refine wg_get (d155_106 L xs) (kd := 1) (cj := 9) (k0 := 48) rfl (Or.inl rfl) (by decide) rfl rfl ?_
        refine wg_iconst (d155_109 L xs) (x := 0) (by decide) ?_
        refine wg_iload_n (d155_110 L xs) rfl ?_
        refine wg_invv (d155_111 L xs) (kd := 7) (mj := 157) (n := 3) rfl (Or.inl rfl) (ys := [.int (nI l.length), .int 0, .ref 165]) (r := []) rfl rfl (by decide) rfl rfl (Nat.le_of_ble_eq_true rfl) (by have h := md_seek (L := L) (xs := xs) (d := d) (s := (mg_I (mg_I s1 141 1 0) 141 14 0)) (st := 0) (l := l) (R := R) (by omega) (by omega) (by omega) (holdA_of b165 rfl) T0; rw [hp1] at h; exact h) ?_
        rintro _ s2 ⟨rfl, hm2, hak2, hpp2⟩
        have m02 := m0.trans (hm2.more (F' := [0, 1, 9, 10, 12, 14, 15, 43, 44, 45, 46]) (A' := [148, 149, 150, 165]) (by decide) (by decide))
        refine wg_istore (d155_114 L xs) (ls' := [some (.ref 141), some (.int (nI ch)), some (.int (nI l.length)), some (.int (nI (x_org R l))), some (.int 0), none, none, none, none, none, none]) (Nat.le_of_ble_eq_true rfl) rfl ?_
        refine wg_iload (d155_116 L xs) rfl ?_
        refine wg_if_ne (d155_118 L xs) (t := 129) (by decide) (fun hp => absurd hp (by decide)) (fun _ => ?_)
        refine wg_iload_n (d155_121 L xs) rfl ?_
        refine wn_if_le (d155_122 L xs) (x := x_org R l) (by omega) (t := 129) (by decide) (fun h62 => by omega) (fun h62 => ?_)
        refine wg_iconst (d155_125 L xs) (x := 1) (by decide) ?_
        refine wg_goto (d155_126 L xs) (t := 130) (by decide) ?_
        refine wg_istore (d155_130 L xs) (ls' := [some (.ref 141), some (.int (nI ch)), some (.int (nI l.length)), some (.int (nI (x_org R l))), some (.int 0), some (.int 1), none, none, none, none, none]) (Nat.le_of_ble_eq_true rfl) rfl ?_
        refine wg_iload (d155_132 L xs) rfl ?_
        refine wg_if_eq (d155_134 L xs) (t := 149) (by decide) (fun hp => absurd hp (by decide)) (fun _ => ?_)
        refine wg_aload_n (d155_137 L xs) rfl ?_
        refine wg_aload_n (d155_138 L xs) rfl ?_
        refine wg_get (d155_139 L xs) (kd := 1) (cj := 9) (k0 := 48) rfl (Or.inl rfl) (by decide) rfl rfl ?_
        refine wg_iload_n (d155_142 L xs) rfl ?_
        refine wg_iload_n (d155_143 L xs) rfl ?_
        refine wg_invv (d155_144 L xs) (kd := 7) (mj := 157) (n := 3) rfl (Or.inl rfl) (ys := [.int (nI l.length), .int (nI (x_org R l)), .ref 165]) (r := []) rfl rfl (by decide) rfl rfl (Nat.le_of_ble_eq_true rfl) (by have h := md_seek (L := L) (xs := xs) (d := d) (s := s2) (st := x_org R l) (l := l) (R := R) hrl (by omega) (by omega) (hm2.hold (by decide) (holdA_of b165 rfl)) (m02.tab (by decide) tab_no2 T); rw [hp2] at h; exact h) ?_
        rintro _ s3 ⟨rfl, hm3, hak3, hpp3⟩
        have m03 := m02.trans (hm3.more (F' := [0, 1, 9, 10, 12, 14, 15, 43, 44, 45, 46]) (A' := [148, 149, 150, 165]) (by decide) (by decide))
        refine wg_istore (d155_147 L xs) (ls' := [some (.ref 141), some (.int (nI ch)), some (.int (nI l.length)), some (.int (nI (x_org R l))), some (.int (-1)), some (.int 1), none, none, none, none, none]) (Nat.le_of_ble_eq_true rfl) rfl ?_
        refine wg_iload (d155_149 L xs) rfl ?_
        refine wg_iconst (d155_151 L xs) (x := 1) (by decide) ?_
        refine wg_icmp_ge (d155_152 L xs) (t := 166) (by decide) (fun hp => absurd hp (by decide)) (fun _ => ?_)
        refine wg_iload (d155_155 L xs) rfl ?_
        refine wg_if_ge (d155_157 L xs) (t := 164) (by decide) (fun hp => absurd hp (by decide)) (fun _ => ?_)
        refine wg_iconst (d155_160 L xs) (x := 5) (by decide) ?_
        refine wg_goto (d155_161 L xs) (t := 165) (by decide) ?_
        exact wg_iret (d155_165 L xs) rfl rfl ⟨by rw [hx]; show _ = some (Value.int (x_vq R fst rs l (x_org R l) true (x_fp R (x_nmp l (x_org R l))) ch)); unfold x_vq; rw [if_pos hp2], m03, ((hm3.2.1 0 (by decide)).trans (hm2.2.1 0 (by decide))).trans e0, (hm3.2.1 1 (by decide)).trans (hm2.2.1 1 (by decide)), by rw [hx]; exact hak3⟩
    · have hx : x_vd R fst rs l ch = (x_vq R fst rs l (x_org R l) false (x_fp R (x_nmp l 0)) ch, x_nmp l 0) := by unfold x_vd; rw [if_neg (fun z => hor z.2)]
      refine wg_aload_n (d155_84 L xs) rfl ?_
      refine wg_iconst (d155_85 L xs) (x := 0) (by decide) ?_
      refine wg_puti (d155_86 L xs) (cj := 9) (k0 := 1) rfl (by decide) rfl (Nat.le_of_ble_eq_true rfl) rfl rfl rfl ?_
      refine wg_aload_n (d155_89 L xs) rfl ?_
      refine wg_iconst (d155_90 L xs) (x := 0) (by decide) ?_
      refine wg_putz (d155_91 L xs) (cj := 9) (k0 := 14) rfl (by decide) rfl (Nat.le_of_ble_eq_true rfl) rfl (by decide) rfl rfl ?_
      refine wg_aload_n (d155_94 L xs) rfl ?_
      refine wg_aload_n (d155_95 L xs) rfl ?_
      refine wg_get (d155_96 L xs) (kd := 1) (cj := 9) (k0 := 48) rfl (Or.inl rfl) (by decide) rfl rfl ?_
      refine wg_iload_n (d155_99 L xs) rfl ?_
      refine wg_invv (d155_100 L xs) (kd := 7) (mj := 156) (n := 2) rfl (Or.inl rfl) (ys := [.int (nI l.length), .ref 165]) (r := []) rfl rfl (by decide) rfl rfl (Nat.le_of_ble_eq_true rfl) (md_org (q := 165) (N := 60) (l := l) (s := (mg_I (mg_I s1 141 1 0) 141 14 0)) isA_all.2.2.2.2.2.2.2.2.2.2.2.2.2.2.2.2.2.2.2.2.2.2.2 hg (by omega) (by omega) (by omega) T0) ?_
      rintro _ _ ⟨rfl, rfl⟩
      refine wg_istore_n (d155_103 L xs) (ls' := [some (.ref 141), some (.int (nI ch)), some (.int (nI l.length)), some (.int (nI (x_org R l))), none, none, none, none, none, none, none]) (Nat.le_of_ble_eq_true rfl) rfl ?_
      refine wg_aload_n (d155_104 L xs) rfl ?_
      refine wg_aload_n (d155_105 L xs) rfl ?_
      refine wg_get (d155_106 L xs) (kd := 1) (cj := 9) (k0 := 48) rfl (Or.inl rfl) (by decide) rfl rfl ?_
      refine wg_iconst (d155_109 L xs) (x := 0) (by decide) ?_
      refine wg_iload_n (d155_110 L xs) rfl ?_
      refine wg_invv (d155_111 L xs) (kd := 7) (mj := 157) (n := 3) rfl (Or.inl rfl) (ys := [.int (nI l.length), .int 0, .ref 165]) (r := []) rfl rfl (by decide) rfl rfl (Nat.le_of_ble_eq_true rfl) (by have h := md_seek (L := L) (xs := xs) (d := d) (s := (mg_I (mg_I s1 141 1 0) 141 14 0)) (st := 0) (l := l) (R := R) (by omega) (by omega) (by omega) (holdA_of b165 rfl) T0; rw [hp1] at h; exact h) ?_
      rintro _ s2 ⟨rfl, hm2, hak2, hpp2⟩
      have m02 := m0.trans (hm2.more (F' := [0, 1, 9, 10, 12, 14, 15, 43, 44, 45, 46]) (A' := [148, 149, 150, 165]) (by decide) (by decide))
      refine wg_istore (d155_114 L xs) (ls' := [some (.ref 141), some (.int (nI ch)), some (.int (nI l.length)), some (.int (nI (x_org R l))), some (.int 0), none, none, none, none, none, none]) (Nat.le_of_ble_eq_true rfl) rfl ?_
      refine wg_iload (d155_116 L xs) rfl ?_
      refine wg_if_ne (d155_118 L xs) (t := 129) (by decide) (fun hp => absurd hp (by decide)) (fun _ => ?_)
      refine wg_iload_n (d155_121 L xs) rfl ?_
      refine wn_if_le (d155_122 L xs) (x := x_org R l) (by omega) (t := 129) (by decide) (fun h62 => ?_) (fun h62 => by omega)
      refine wg_iconst (d155_129 L xs) (x := 0) (by decide) ?_
      refine wg_istore (d155_130 L xs) (ls' := [some (.ref 141), some (.int (nI ch)), some (.int (nI l.length)), some (.int (nI (x_org R l))), some (.int 0), some (.int 0), none, none, none, none, none]) (Nat.le_of_ble_eq_true rfl) rfl ?_
      refine wg_iload (d155_132 L xs) rfl ?_
      refine wg_if_eq (d155_134 L xs) (t := 149) (by decide) (fun _ => ?_) (fun hn => absurd (by decide) hn)
      refine wg_iload (d155_149 L xs) rfl ?_
      refine wg_iconst (d155_151 L xs) (x := 1) (by decide) ?_
      refine wg_icmp_ge (d155_152 L xs) (t := 166) (by decide) (fun hp => absurd hp (by decide)) (fun _ => ?_)
      refine wg_iload (d155_155 L xs) rfl ?_
      refine wg_if_ge (d155_157 L xs) (t := 164) (by decide) (fun _ => ?_) (fun hn => absurd (by decide) hn)
      refine wg_iconst (d155_164 L xs) (x := 0) (by decide) ?_
      exact wg_iret (d155_165 L xs) rfl rfl ⟨by rw [hx]; show _ = some (Value.int (x_vq R fst rs l (x_org R l) false (x_fp R (x_nmp l 0)) ch)); unfold x_vq; rw [if_neg (by omega), if_pos hp1], m02, ((hm2.2.1 0 (by decide))).trans e0, (hm2.2.1 1 (by decide)), by rw [hx]; exact hak2⟩
  · have hx : x_vd R fst rs l ch = (x_vq R fst rs l (x_org R l) false (x_fp R (x_nmp l 0)) ch, x_nmp l 0) := by unfold x_vd; rw [if_neg (fun z => by have := z.1; omega)]
    refine wg_aload_n (d155_84 L xs) rfl ?_
    refine wg_iconst (d155_85 L xs) (x := 0) (by decide) ?_
    refine wg_puti (d155_86 L xs) (cj := 9) (k0 := 1) rfl (by decide) rfl (Nat.le_of_ble_eq_true rfl) rfl rfl rfl ?_
    refine wg_aload_n (d155_89 L xs) rfl ?_
    refine wg_iconst (d155_90 L xs) (x := 0) (by decide) ?_
    refine wg_putz (d155_91 L xs) (cj := 9) (k0 := 14) rfl (by decide) rfl (Nat.le_of_ble_eq_true rfl) rfl (by decide) rfl rfl ?_
    refine wg_aload_n (d155_94 L xs) rfl ?_
    refine wg_aload_n (d155_95 L xs) rfl ?_
    refine wg_get (d155_96 L xs) (kd := 1) (cj := 9) (k0 := 48) rfl (Or.inl rfl) (by decide) rfl rfl ?_
    refine wg_iload_n (d155_99 L xs) rfl ?_
    refine wg_invv (d155_100 L xs) (kd := 7) (mj := 156) (n := 2) rfl (Or.inl rfl) (ys := [.int (nI l.length), .ref 165]) (r := []) rfl rfl (by decide) rfl rfl (Nat.le_of_ble_eq_true rfl) (md_org (q := 165) (N := 60) (l := l) (s := (mg_I (mg_I s1 141 1 0) 141 14 0)) isA_all.2.2.2.2.2.2.2.2.2.2.2.2.2.2.2.2.2.2.2.2.2.2.2 hg (by omega) (by omega) (by omega) T0) ?_
    rintro _ _ ⟨rfl, rfl⟩
    refine wg_istore_n (d155_103 L xs) (ls' := [some (.ref 141), some (.int (nI ch)), some (.int (nI l.length)), some (.int (nI (x_org R l))), none, none, none, none, none, none, none]) (Nat.le_of_ble_eq_true rfl) rfl ?_
    refine wg_aload_n (d155_104 L xs) rfl ?_
    refine wg_aload_n (d155_105 L xs) rfl ?_
    refine wg_get (d155_106 L xs) (kd := 1) (cj := 9) (k0 := 48) rfl (Or.inl rfl) (by decide) rfl rfl ?_
    refine wg_iconst (d155_109 L xs) (x := 0) (by decide) ?_
    refine wg_iload_n (d155_110 L xs) rfl ?_
    refine wg_invv (d155_111 L xs) (kd := 7) (mj := 157) (n := 3) rfl (Or.inl rfl) (ys := [.int (nI l.length), .int 0, .ref 165]) (r := []) rfl rfl (by decide) rfl rfl (Nat.le_of_ble_eq_true rfl) (by have h := md_seek (L := L) (xs := xs) (d := d) (s := (mg_I (mg_I s1 141 1 0) 141 14 0)) (st := 0) (l := l) (R := R) (by omega) (by omega) (by omega) (holdA_of b165 rfl) T0; rw [hp1] at h; exact h) ?_
    rintro _ s2 ⟨rfl, hm2, hak2, hpp2⟩
    have m02 := m0.trans (hm2.more (F' := [0, 1, 9, 10, 12, 14, 15, 43, 44, 45, 46]) (A' := [148, 149, 150, 165]) (by decide) (by decide))
    refine wg_istore (d155_114 L xs) (ls' := [some (.ref 141), some (.int (nI ch)), some (.int (nI l.length)), some (.int (nI (x_org R l))), some (.int 1), none, none, none, none, none, none]) (Nat.le_of_ble_eq_true rfl) rfl ?_
    refine wg_iload (d155_116 L xs) rfl ?_
    refine wg_if_ne (d155_118 L xs) (t := 129) (by decide) (fun _ => ?_) (fun hn => absurd (by decide) hn)
    refine wg_iconst (d155_129 L xs) (x := 0) (by decide) ?_
    refine wg_istore (d155_130 L xs) (ls' := [some (.ref 141), some (.int (nI ch)), some (.int (nI l.length)), some (.int (nI (x_org R l))), some (.int 1), some (.int 0), none, none, none, none, none]) (Nat.le_of_ble_eq_true rfl) rfl ?_
    refine wg_iload (d155_132 L xs) rfl ?_
    refine wg_if_eq (d155_134 L xs) (t := 149) (by decide) (fun _ => ?_) (fun hn => absurd (by decide) hn)
    refine wg_iload (d155_149 L xs) rfl ?_
    refine wg_iconst (d155_151 L xs) (x := 1) (by decide) ?_
    refine wg_icmp_ge (d155_152 L xs) (t := 166) (by decide) (fun _ => ?_) (fun hn => absurd (by decide) hn)
    have hq := hpp2 rfl
    have hv : x_vq R fst rs l (x_org R l) false (x_fp R (x_nmp l 0)) ch = (if x_al R fst rs l (x_org R l) (x_fp R (x_nmp l 0)).2 = true then 1 else if ¬ x_ac false (x_fp R (x_nmp l 0)).2 ≤ 2 ∧ ¬ nI ch < x_pc (x_fp R (x_nmp l 0)).2 then x_ac false (x_fp R (x_nmp l 0)).2 - 1 else x_ac false (x_fp R (x_nmp l 0)).2) := by unfold x_vq; rw [if_neg (show ¬ (x_fp R (x_nmp l 0)).1 = 5 by omega), if_neg (show ¬ (x_fp R (x_nmp l 0)).1 = 0 by omega)]
    rw [hx]
    dsimp only
    rw [hv]
    refine wp_mono (md_po166 (P := (x_fp R (x_nmp l 0)).2) (bl := false) hch hrl (hm2.hold (by decide) (holdA_of b165 rfl)) (by omega) (m02.hold (by decide) hf) hf1 hf48 ((m02.2.1 41 (by decide)).trans h41) ((m02.2.1 36 (by decide)).trans h36) (m02.tab (by decide) tab_no2 T) hq.1 hq.2.1 hq.2.2) ?_
    rintro _ _ ⟨rfl, rfl⟩
    exact ⟨rfl, m02, ((hm2.2.1 0 (by decide))).trans e0, (hm2.2.1 1 (by decide)), hak2⟩
  · have hx : x_vd R fst rs l ch = (x_vq R fst rs l (x_org R l) false (x_fp R (x_nmp l 0)) ch, x_nmp l 0) := by unfold x_vd; rw [if_neg (fun z => by have := z.1; omega)]
    refine wg_aload_n (d155_84 L xs) rfl ?_
    refine wg_iconst (d155_85 L xs) (x := 0) (by decide) ?_
    refine wg_puti (d155_86 L xs) (cj := 9) (k0 := 1) rfl (by decide) rfl (Nat.le_of_ble_eq_true rfl) rfl rfl rfl ?_
    refine wg_aload_n (d155_89 L xs) rfl ?_
    refine wg_iconst (d155_90 L xs) (x := 0) (by decide) ?_
    refine wg_putz (d155_91 L xs) (cj := 9) (k0 := 14) rfl (by decide) rfl (Nat.le_of_ble_eq_true rfl) rfl (by decide) rfl rfl ?_
    refine wg_aload_n (d155_94 L xs) rfl ?_
    refine wg_aload_n (d155_95 L xs) rfl ?_
    refine wg_get (d155_96 L xs) (kd := 1) (cj := 9) (k0 := 48) rfl (Or.inl rfl) (by decide) rfl rfl ?_
    refine wg_iload_n (d155_99 L xs) rfl ?_
    refine wg_invv (d155_100 L xs) (kd := 7) (mj := 156) (n := 2) rfl (Or.inl rfl) (ys := [.int (nI l.length), .ref 165]) (r := []) rfl rfl (by decide) rfl rfl (Nat.le_of_ble_eq_true rfl) (md_org (q := 165) (N := 60) (l := l) (s := (mg_I (mg_I s1 141 1 0) 141 14 0)) isA_all.2.2.2.2.2.2.2.2.2.2.2.2.2.2.2.2.2.2.2.2.2.2.2 hg (by omega) (by omega) (by omega) T0) ?_
    rintro _ _ ⟨rfl, rfl⟩
    refine wg_istore_n (d155_103 L xs) (ls' := [some (.ref 141), some (.int (nI ch)), some (.int (nI l.length)), some (.int (nI (x_org R l))), none, none, none, none, none, none, none]) (Nat.le_of_ble_eq_true rfl) rfl ?_
    refine wg_aload_n (d155_104 L xs) rfl ?_
    refine wg_aload_n (d155_105 L xs) rfl ?_
    refine wg_get (d155_106 L xs) (kd := 1) (cj := 9) (k0 := 48) rfl (Or.inl rfl) (by decide) rfl rfl ?_
    refine wg_iconst (d155_109 L xs) (x := 0) (by decide) ?_
    refine wg_iload_n (d155_110 L xs) rfl ?_
    refine wg_invv (d155_111 L xs) (kd := 7) (mj := 157) (n := 3) rfl (Or.inl rfl) (ys := [.int (nI l.length), .int 0, .ref 165]) (r := []) rfl rfl (by decide) rfl rfl (Nat.le_of_ble_eq_true rfl) (by have h := md_seek (L := L) (xs := xs) (d := d) (s := (mg_I (mg_I s1 141 1 0) 141 14 0)) (st := 0) (l := l) (R := R) (by omega) (by omega) (by omega) (holdA_of b165 rfl) T0; rw [hp1] at h; exact h) ?_
    rintro _ s2 ⟨rfl, hm2, hak2, hpp2⟩
    have m02 := m0.trans (hm2.more (F' := [0, 1, 9, 10, 12, 14, 15, 43, 44, 45, 46]) (A' := [148, 149, 150, 165]) (by decide) (by decide))
    refine wg_istore (d155_114 L xs) (ls' := [some (.ref 141), some (.int (nI ch)), some (.int (nI l.length)), some (.int (nI (x_org R l))), some (.int (-1)), none, none, none, none, none, none]) (Nat.le_of_ble_eq_true rfl) rfl ?_
    refine wg_iload (d155_116 L xs) rfl ?_
    refine wg_if_ne (d155_118 L xs) (t := 129) (by decide) (fun _ => ?_) (fun hn => absurd (by decide) hn)
    refine wg_iconst (d155_129 L xs) (x := 0) (by decide) ?_
    refine wg_istore (d155_130 L xs) (ls' := [some (.ref 141), some (.int (nI ch)), some (.int (nI l.length)), some (.int (nI (x_org R l))), some (.int (-1)), some (.int 0), none, none, none, none, none]) (Nat.le_of_ble_eq_true rfl) rfl ?_
    refine wg_iload (d155_132 L xs) rfl ?_
    refine wg_if_eq (d155_134 L xs) (t := 149) (by decide) (fun _ => ?_) (fun hn => absurd (by decide) hn)
    refine wg_iload (d155_149 L xs) rfl ?_
    refine wg_iconst (d155_151 L xs) (x := 1) (by decide) ?_
    refine wg_icmp_ge (d155_152 L xs) (t := 166) (by decide) (fun hp => absurd hp (by decide)) (fun _ => ?_)
    refine wg_iload (d155_155 L xs) rfl ?_
    refine wg_if_ge (d155_157 L xs) (t := 164) (by decide) (fun hp => absurd hp (by decide)) (fun _ => ?_)
    refine wg_iconst (d155_160 L xs) (x := 5) (by decide) ?_
    refine wg_goto (d155_161 L xs) (t := 165) (by decide) ?_
    exact wg_iret (d155_165 L xs) rfl rfl ⟨by rw [hx]; show _ = some (Value.int (x_vq R fst rs l (x_org R l) false (x_fp R (x_nmp l 0)) ch)); unfold x_vq; rw [if_pos hp1], m02, ((hm2.2.1 0 (by decide))).trans e0, (hm2.2.1 1 (by decide)), by rw [hx]; exact hak2⟩
end KV
