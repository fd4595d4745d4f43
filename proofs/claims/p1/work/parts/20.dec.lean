theorem d0_0 (L : Nat) (xs : Nat → Int32) : decode (ax_code (mgT L xs) 0) 0 = .ok (.new 8, 3) := by
  show decode code 0 = _
  decide +kernel
theorem d0_3 (L : Nat) (xs : Nat → Int32) : decode (ax_code (mgT L xs) 0) 3 = .ok (.dup, 1) := by
  show decode code 3 = _
  decide +kernel
theorem d0_4 (L : Nat) (xs : Nat → Int32) : decode (ax_code (mgT L xs) 0) 4 = .ok (.invokespecial 23, 3) := by
  show decode code 4 = _
  decide +kernel
theorem d0_7 (L : Nat) (xs : Nat → Int32) : decode (ax_code (mgT L xs) 0) 7 = .ok (.astore_n 1, 1) := by
  show decode code 7 = _
  decide +kernel
theorem d0_8 (L : Nat) (xs : Nat → Int32) : decode (ax_code (mgT L xs) 0) 8 = .ok (.new 24, 3) := by
  show decode code 8 = _
  decide +kernel
theorem d0_11 (L : Nat) (xs : Nat → Int32) : decode (ax_code (mgT L xs) 0) 11 = .ok (.dup, 1) := by
  show decode code 11 = _
  decide +kernel
theorem d0_12 (L : Nat) (xs : Nat → Int32) : decode (ax_code (mgT L xs) 0) 12 = .ok (.invokespecial 26, 3) := by
  show decode code 12 = _
  decide +kernel
theorem d0_15 (L : Nat) (xs : Nat → Int32) : decode (ax_code (mgT L xs) 0) 15 = .ok (.astore_n 2, 1) := by
  show decode code 15 = _
  decide +kernel
theorem d0_16 (L : Nat) (xs : Nat → Int32) : decode (ax_code (mgT L xs) 0) 16 = .ok (.iconst 1, 1) := by
  show decode code 16 = _
  decide +kernel
theorem d0_17 (L : Nat) (xs : Nat → Int32) : decode (ax_code (mgT L xs) 0) 17 = .ok (.newarray .long, 2) := by
  show decode code 17 = _
  decide +kernel
theorem d0_19 (L : Nat) (xs : Nat → Int32) : decode (ax_code (mgT L xs) 0) 19 = .ok (.astore_n 3, 1) := by
  show decode code 19 = _
  decide +kernel
theorem d0_20 (L : Nat) (xs : Nat → Int32) : decode (ax_code (mgT L xs) 0) 20 = .ok (.iconst 0, 1) := by
  show decode code 20 = _
  decide +kernel
theorem d0_21 (L : Nat) (xs : Nat → Int32) : decode (ax_code (mgT L xs) 0) 21 = .ok (.istore 4, 2) := by
  show decode code 21 = _
  decide +kernel
theorem d0_23 (L : Nat) (xs : Nat → Int32) : decode (ax_code (mgT L xs) 0) 23 = .ok (.iload 4, 2) := by
  show decode code 23 = _
  decide +kernel
theorem d0_25 (L : Nat) (xs : Nat → Int32) : decode (ax_code (mgT L xs) 0) 25 = .ok (.aload_n 0, 1) := by
  show decode code 25 = _
  decide +kernel
theorem d0_26 (L : Nat) (xs : Nat → Int32) : decode (ax_code (mgT L xs) 0) 26 = .ok (.arraylength, 1) := by
  show decode code 26 = _
  decide +kernel
theorem d0_27 (L : Nat) (xs : Nat → Int32) : decode (ax_code (mgT L xs) 0) 27 = .ok (.iconst 3, 1) := by
  show decode code 27 = _
  decide +kernel
theorem d0_28 (L : Nat) (xs : Nat → Int32) : decode (ax_code (mgT L xs) 0) 28 = .ok (.isub, 1) := by
  show decode code 28 = _
  decide +kernel
theorem d0_29 (L : Nat) (xs : Nat → Int32) : decode (ax_code (mgT L xs) 0) 29 = .ok (.if_icmp .gt 418, 3) := by
  show decode code 29 = _
  decide +kernel
theorem d0_32 (L : Nat) (xs : Nat → Int32) : decode (ax_code (mgT L xs) 0) 32 = .ok (.aload_n 0, 1) := by
  show decode code 32 = _
  decide +kernel
theorem d0_33 (L : Nat) (xs : Nat → Int32) : decode (ax_code (mgT L xs) 0) 33 = .ok (.iload 4, 2) := by
  show decode code 33 = _
  decide +kernel
theorem d0_35 (L : Nat) (xs : Nat → Int32) : decode (ax_code (mgT L xs) 0) 35 = .ok (.iaload, 1) := by
  show decode code 35 = _
  decide +kernel
theorem d0_36 (L : Nat) (xs : Nat → Int32) : decode (ax_code (mgT L xs) 0) 36 = .ok (.bipush 15, 2) := by
  show decode code 36 = _
  decide +kernel
theorem d0_38 (L : Nat) (xs : Nat → Int32) : decode (ax_code (mgT L xs) 0) 38 = .ok (.iand, 1) := by
  show decode code 38 = _
  decide +kernel
theorem d0_39 (L : Nat) (xs : Nat → Int32) : decode (ax_code (mgT L xs) 0) 39 = .ok (.tableswitch 402 0 9 #[53, 110, 121, 134, 190, 215, 271, 296, 321, 377], 53) := by
  show decode code 39 = _
  decide +kernel
theorem d0_92 (L : Nat) (xs : Nat → Int32) : decode (ax_code (mgT L xs) 0) 92 = .ok (.aload_n 1, 1) := by
  show decode code 92 = _
  decide +kernel
theorem d0_93 (L : Nat) (xs : Nat → Int32) : decode (ax_code (mgT L xs) 0) 93 = .ok (.aload_n 0, 1) := by
  show decode code 93 = _
  decide +kernel
theorem d0_94 (L : Nat) (xs : Nat → Int32) : decode (ax_code (mgT L xs) 0) 94 = .ok (.iload 4, 2) := by
  show decode code 94 = _
  decide +kernel
theorem d0_96 (L : Nat) (xs : Nat → Int32) : decode (ax_code (mgT L xs) 0) 96 = .ok (.iconst 1, 1) := by
  show decode code 96 = _
  decide +kernel
theorem d0_97 (L : Nat) (xs : Nat → Int32) : decode (ax_code (mgT L xs) 0) 97 = .ok (.iadd, 1) := by
  show decode code 97 = _
  decide +kernel
theorem d0_98 (L : Nat) (xs : Nat → Int32) : decode (ax_code (mgT L xs) 0) 98 = .ok (.iaload, 1) := by
  show decode code 98 = _
  decide +kernel
theorem d0_99 (L : Nat) (xs : Nat → Int32) : decode (ax_code (mgT L xs) 0) 99 = .ok (.i2l, 1) := by
  show decode code 99 = _
  decide +kernel
theorem d0_100 (L : Nat) (xs : Nat → Int32) : decode (ax_code (mgT L xs) 0) 100 = .ok (.bipush 32, 2) := by
  show decode code 100 = _
  decide +kernel
theorem d0_102 (L : Nat) (xs : Nat → Int32) : decode (ax_code (mgT L xs) 0) 102 = .ok (.lshl, 1) := by
  show decode code 102 = _
  decide +kernel
theorem d0_103 (L : Nat) (xs : Nat → Int32) : decode (ax_code (mgT L xs) 0) 103 = .ok (.aload_n 0, 1) := by
  show decode code 103 = _
  decide +kernel
theorem d0_104 (L : Nat) (xs : Nat → Int32) : decode (ax_code (mgT L xs) 0) 104 = .ok (.iload 4, 2) := by
  show decode code 104 = _
  decide +kernel
theorem d0_106 (L : Nat) (xs : Nat → Int32) : decode (ax_code (mgT L xs) 0) 106 = .ok (.iconst 2, 1) := by
  show decode code 106 = _
  decide +kernel
theorem d0_107 (L : Nat) (xs : Nat → Int32) : decode (ax_code (mgT L xs) 0) 107 = .ok (.iadd, 1) := by
  show decode code 107 = _
  decide +kernel
theorem d0_108 (L : Nat) (xs : Nat → Int32) : decode (ax_code (mgT L xs) 0) 108 = .ok (.iaload, 1) := by
  show decode code 108 = _
  decide +kernel
theorem d0_109 (L : Nat) (xs : Nat → Int32) : decode (ax_code (mgT L xs) 0) 109 = .ok (.i2l, 1) := by
  show decode code 109 = _
  decide +kernel
theorem d0_110 (L : Nat) (xs : Nat → Int32) : decode (ax_code (mgT L xs) 0) 110 = .ok (.ldc2_w 27, 3) := by
  show decode code 110 = _
  decide +kernel
theorem d0_113 (L : Nat) (xs : Nat → Int32) : decode (ax_code (mgT L xs) 0) 113 = .ok (.land, 1) := by
  show decode code 113 = _
  decide +kernel
theorem d0_114 (L : Nat) (xs : Nat → Int32) : decode (ax_code (mgT L xs) 0) 114 = .ok (.lor, 1) := by
  show decode code 114 = _
  decide +kernel
theorem d0_115 (L : Nat) (xs : Nat → Int32) : decode (ax_code (mgT L xs) 0) 115 = .ok (.invokevirtual 29, 3) := by
  show decode code 115 = _
  decide +kernel
theorem d0_118 (L : Nat) (xs : Nat → Int32) : decode (ax_code (mgT L xs) 0) 118 = .ok (.aload_n 2, 1) := by
  show decode code 118 = _
  decide +kernel
theorem d0_119 (L : Nat) (xs : Nat → Int32) : decode (ax_code (mgT L xs) 0) 119 = .ok (.aload_n 0, 1) := by
  show decode code 119 = _
  decide +kernel
theorem d0_120 (L : Nat) (xs : Nat → Int32) : decode (ax_code (mgT L xs) 0) 120 = .ok (.iload 4, 2) := by
  show decode code 120 = _
  decide +kernel
theorem d0_122 (L : Nat) (xs : Nat → Int32) : decode (ax_code (mgT L xs) 0) 122 = .ok (.iconst 1, 1) := by
  show decode code 122 = _
  decide +kernel
theorem d0_123 (L : Nat) (xs : Nat → Int32) : decode (ax_code (mgT L xs) 0) 123 = .ok (.iadd, 1) := by
  show decode code 123 = _
  decide +kernel
theorem d0_124 (L : Nat) (xs : Nat → Int32) : decode (ax_code (mgT L xs) 0) 124 = .ok (.iaload, 1) := by
  show decode code 124 = _
  decide +kernel
theorem d0_125 (L : Nat) (xs : Nat → Int32) : decode (ax_code (mgT L xs) 0) 125 = .ok (.i2l, 1) := by
  show decode code 125 = _
  decide +kernel
theorem d0_126 (L : Nat) (xs : Nat → Int32) : decode (ax_code (mgT L xs) 0) 126 = .ok (.bipush 32, 2) := by
  show decode code 126 = _
  decide +kernel
theorem d0_128 (L : Nat) (xs : Nat → Int32) : decode (ax_code (mgT L xs) 0) 128 = .ok (.lshl, 1) := by
  show decode code 128 = _
  decide +kernel
theorem d0_129 (L : Nat) (xs : Nat → Int32) : decode (ax_code (mgT L xs) 0) 129 = .ok (.aload_n 0, 1) := by
  show decode code 129 = _
  decide +kernel
theorem d0_130 (L : Nat) (xs : Nat → Int32) : decode (ax_code (mgT L xs) 0) 130 = .ok (.iload 4, 2) := by
  show decode code 130 = _
  decide +kernel
theorem d0_132 (L : Nat) (xs : Nat → Int32) : decode (ax_code (mgT L xs) 0) 132 = .ok (.iconst 2, 1) := by
  show decode code 132 = _
  decide +kernel
theorem d0_133 (L : Nat) (xs : Nat → Int32) : decode (ax_code (mgT L xs) 0) 133 = .ok (.iadd, 1) := by
  show decode code 133 = _
  decide +kernel
theorem d0_134 (L : Nat) (xs : Nat → Int32) : decode (ax_code (mgT L xs) 0) 134 = .ok (.iaload, 1) := by
  show decode code 134 = _
  decide +kernel
theorem d0_135 (L : Nat) (xs : Nat → Int32) : decode (ax_code (mgT L xs) 0) 135 = .ok (.i2l, 1) := by
  show decode code 135 = _
  decide +kernel
theorem d0_136 (L : Nat) (xs : Nat → Int32) : decode (ax_code (mgT L xs) 0) 136 = .ok (.ldc2_w 27, 3) := by
  show decode code 136 = _
  decide +kernel
theorem d0_139 (L : Nat) (xs : Nat → Int32) : decode (ax_code (mgT L xs) 0) 139 = .ok (.land, 1) := by
  show decode code 139 = _
  decide +kernel
theorem d0_140 (L : Nat) (xs : Nat → Int32) : decode (ax_code (mgT L xs) 0) 140 = .ok (.lor, 1) := by
  show decode code 140 = _
  decide +kernel
theorem d0_141 (L : Nat) (xs : Nat → Int32) : decode (ax_code (mgT L xs) 0) 141 = .ok (.invokevirtual 33, 3) := by
  show decode code 141 = _
  decide +kernel
theorem d0_144 (L : Nat) (xs : Nat → Int32) : decode (ax_code (mgT L xs) 0) 144 = .ok (.if_icmp .eq 297, 3) := by
  show decode code 144 = _
  decide +kernel
theorem d0_149 (L : Nat) (xs : Nat → Int32) : decode (ax_code (mgT L xs) 0) 149 = .ok (.aload_n 1, 1) := by
  show decode code 149 = _
  decide +kernel
theorem d0_150 (L : Nat) (xs : Nat → Int32) : decode (ax_code (mgT L xs) 0) 150 = .ok (.invokevirtual 34, 3) := by
  show decode code 150 = _
  decide +kernel
theorem d0_153 (L : Nat) (xs : Nat → Int32) : decode (ax_code (mgT L xs) 0) 153 = .ok (.aload_n 2, 1) := by
  show decode code 153 = _
  decide +kernel
theorem d0_154 (L : Nat) (xs : Nat → Int32) : decode (ax_code (mgT L xs) 0) 154 = .ok (.invokevirtual 37, 3) := by
  show decode code 154 = _
  decide +kernel
theorem d0_157 (L : Nat) (xs : Nat → Int32) : decode (ax_code (mgT L xs) 0) 157 = .ok (.goto 284, 3) := by
  show decode code 157 = _
  decide +kernel
theorem d0_160 (L : Nat) (xs : Nat → Int32) : decode (ax_code (mgT L xs) 0) 160 = .ok (.aload_n 1, 1) := by
  show decode code 160 = _
  decide +kernel
theorem d0_161 (L : Nat) (xs : Nat → Int32) : decode (ax_code (mgT L xs) 0) 161 = .ok (.invokevirtual 38, 3) := by
  show decode code 161 = _
  decide +kernel
theorem d0_164 (L : Nat) (xs : Nat → Int32) : decode (ax_code (mgT L xs) 0) 164 = .ok (.aload_n 2, 1) := by
  show decode code 164 = _
  decide +kernel
theorem d0_165 (L : Nat) (xs : Nat → Int32) : decode (ax_code (mgT L xs) 0) 165 = .ok (.invokevirtual 42, 3) := by
  show decode code 165 = _
  decide +kernel
theorem d0_168 (L : Nat) (xs : Nat → Int32) : decode (ax_code (mgT L xs) 0) 168 = .ok (.if_icmp .eq 273, 3) := by
  show decode code 168 = _
  decide +kernel
theorem d0_173 (L : Nat) (xs : Nat → Int32) : decode (ax_code (mgT L xs) 0) 173 = .ok (.aload_n 1, 1) := by
  show decode code 173 = _
  decide +kernel
theorem d0_174 (L : Nat) (xs : Nat → Int32) : decode (ax_code (mgT L xs) 0) 174 = .ok (.aload_n 0, 1) := by
  show decode code 174 = _
  decide +kernel
theorem d0_175 (L : Nat) (xs : Nat → Int32) : decode (ax_code (mgT L xs) 0) 175 = .ok (.iload 4, 2) := by
  show decode code 175 = _
  decide +kernel
theorem d0_177 (L : Nat) (xs : Nat → Int32) : decode (ax_code (mgT L xs) 0) 177 = .ok (.iconst 1, 1) := by
  show decode code 177 = _
  decide +kernel
theorem d0_178 (L : Nat) (xs : Nat → Int32) : decode (ax_code (mgT L xs) 0) 178 = .ok (.iadd, 1) := by
  show decode code 178 = _
  decide +kernel
theorem d0_179 (L : Nat) (xs : Nat → Int32) : decode (ax_code (mgT L xs) 0) 179 = .ok (.iaload, 1) := by
  show decode code 179 = _
  decide +kernel
theorem d0_180 (L : Nat) (xs : Nat → Int32) : decode (ax_code (mgT L xs) 0) 180 = .ok (.aload_n 3, 1) := by
  show decode code 180 = _
  decide +kernel
theorem d0_181 (L : Nat) (xs : Nat → Int32) : decode (ax_code (mgT L xs) 0) 181 = .ok (.invokestatic 43, 3) := by
  show decode code 181 = _
  decide +kernel
theorem d0_184 (L : Nat) (xs : Nat → Int32) : decode (ax_code (mgT L xs) 0) 184 = .ok (.istore 5, 2) := by
  show decode code 184 = _
  decide +kernel
theorem d0_186 (L : Nat) (xs : Nat → Int32) : decode (ax_code (mgT L xs) 0) 186 = .ok (.aload_n 2, 1) := by
  show decode code 186 = _
  decide +kernel
theorem d0_187 (L : Nat) (xs : Nat → Int32) : decode (ax_code (mgT L xs) 0) 187 = .ok (.aload_n 0, 1) := by
  show decode code 187 = _
  decide +kernel
theorem d0_188 (L : Nat) (xs : Nat → Int32) : decode (ax_code (mgT L xs) 0) 188 = .ok (.iload 4, 2) := by
  show decode code 188 = _
  decide +kernel
theorem d0_190 (L : Nat) (xs : Nat → Int32) : decode (ax_code (mgT L xs) 0) 190 = .ok (.iconst 1, 1) := by
  show decode code 190 = _
  decide +kernel
theorem d0_191 (L : Nat) (xs : Nat → Int32) : decode (ax_code (mgT L xs) 0) 191 = .ok (.iadd, 1) := by
  show decode code 191 = _
  decide +kernel
theorem d0_192 (L : Nat) (xs : Nat → Int32) : decode (ax_code (mgT L xs) 0) 192 = .ok (.iaload, 1) := by
  show decode code 192 = _
  decide +kernel
theorem d0_193 (L : Nat) (xs : Nat → Int32) : decode (ax_code (mgT L xs) 0) 193 = .ok (.invokevirtual 48, 3) := by
  show decode code 193 = _
  decide +kernel
theorem d0_196 (L : Nat) (xs : Nat → Int32) : decode (ax_code (mgT L xs) 0) 196 = .ok (.istore 6, 2) := by
  show decode code 196 = _
  decide +kernel
theorem d0_198 (L : Nat) (xs : Nat → Int32) : decode (ax_code (mgT L xs) 0) 198 = .ok (.aload_n 2, 1) := by
  show decode code 198 = _
  decide +kernel
theorem d0_199 (L : Nat) (xs : Nat → Int32) : decode (ax_code (mgT L xs) 0) 199 = .ok (.invokevirtual 49, 3) := by
  show decode code 199 = _
  decide +kernel
theorem d0_202 (L : Nat) (xs : Nat → Int32) : decode (ax_code (mgT L xs) 0) 202 = .ok (.iload 5, 2) := by
  show decode code 202 = _
  decide +kernel
theorem d0_204 (L : Nat) (xs : Nat → Int32) : decode (ax_code (mgT L xs) 0) 204 = .ok (.if_icmp .eq 5, 3) := by
  show decode code 204 = _
  decide +kernel
theorem d0_209 (L : Nat) (xs : Nat → Int32) : decode (ax_code (mgT L xs) 0) 209 = .ok (.iload 5, 2) := by
  show decode code 209 = _
  decide +kernel
theorem d0_211 (L : Nat) (xs : Nat → Int32) : decode (ax_code (mgT L xs) 0) 211 = .ok (.ifCond .ne 15, 3) := by
  show decode code 211 = _
  decide +kernel
theorem d0_226 (L : Nat) (xs : Nat → Int32) : decode (ax_code (mgT L xs) 0) 226 = .ok (.goto 215, 3) := by
  show decode code 226 = _
  decide +kernel
theorem d0_229 (L : Nat) (xs : Nat → Int32) : decode (ax_code (mgT L xs) 0) 229 = .ok (.aload_n 1, 1) := by
  show decode code 229 = _
  decide +kernel
theorem d0_230 (L : Nat) (xs : Nat → Int32) : decode (ax_code (mgT L xs) 0) 230 = .ok (.aload_n 0, 1) := by
  show decode code 230 = _
  decide +kernel
theorem d0_231 (L : Nat) (xs : Nat → Int32) : decode (ax_code (mgT L xs) 0) 231 = .ok (.iload 4, 2) := by
  show decode code 231 = _
  decide +kernel
theorem d0_233 (L : Nat) (xs : Nat → Int32) : decode (ax_code (mgT L xs) 0) 233 = .ok (.iconst 1, 1) := by
  show decode code 233 = _
  decide +kernel
theorem d0_234 (L : Nat) (xs : Nat → Int32) : decode (ax_code (mgT L xs) 0) 234 = .ok (.iadd, 1) := by
  show decode code 234 = _
  decide +kernel
theorem d0_235 (L : Nat) (xs : Nat → Int32) : decode (ax_code (mgT L xs) 0) 235 = .ok (.iaload, 1) := by
  show decode code 235 = _
  decide +kernel
theorem d0_236 (L : Nat) (xs : Nat → Int32) : decode (ax_code (mgT L xs) 0) 236 = .ok (.invokevirtual 52, 3) := by
  show decode code 236 = _
  decide +kernel
theorem d0_239 (L : Nat) (xs : Nat → Int32) : decode (ax_code (mgT L xs) 0) 239 = .ok (.aload_n 2, 1) := by
  show decode code 239 = _
  decide +kernel
theorem d0_240 (L : Nat) (xs : Nat → Int32) : decode (ax_code (mgT L xs) 0) 240 = .ok (.aload_n 0, 1) := by
  show decode code 240 = _
  decide +kernel
theorem d0_241 (L : Nat) (xs : Nat → Int32) : decode (ax_code (mgT L xs) 0) 241 = .ok (.iload 4, 2) := by
  show decode code 241 = _
  decide +kernel
theorem d0_243 (L : Nat) (xs : Nat → Int32) : decode (ax_code (mgT L xs) 0) 243 = .ok (.iconst 1, 1) := by
  show decode code 243 = _
  decide +kernel
theorem d0_244 (L : Nat) (xs : Nat → Int32) : decode (ax_code (mgT L xs) 0) 244 = .ok (.iadd, 1) := by
  show decode code 244 = _
  decide +kernel
theorem d0_245 (L : Nat) (xs : Nat → Int32) : decode (ax_code (mgT L xs) 0) 245 = .ok (.iaload, 1) := by
  show decode code 245 = _
  decide +kernel
theorem d0_246 (L : Nat) (xs : Nat → Int32) : decode (ax_code (mgT L xs) 0) 246 = .ok (.invokevirtual 56, 3) := by
  show decode code 246 = _
  decide +kernel
theorem d0_249 (L : Nat) (xs : Nat → Int32) : decode (ax_code (mgT L xs) 0) 249 = .ok (.if_icmp .eq 192, 3) := by
  show decode code 249 = _
  decide +kernel
theorem d0_254 (L : Nat) (xs : Nat → Int32) : decode (ax_code (mgT L xs) 0) 254 = .ok (.aload_n 1, 1) := by
  show decode code 254 = _
  decide +kernel
theorem d0_255 (L : Nat) (xs : Nat → Int32) : decode (ax_code (mgT L xs) 0) 255 = .ok (.aload_n 0, 1) := by
  show decode code 255 = _
  decide +kernel
theorem d0_256 (L : Nat) (xs : Nat → Int32) : decode (ax_code (mgT L xs) 0) 256 = .ok (.iload 4, 2) := by
  show decode code 256 = _
  decide +kernel
theorem d0_258 (L : Nat) (xs : Nat → Int32) : decode (ax_code (mgT L xs) 0) 258 = .ok (.iconst 1, 1) := by
  show decode code 258 = _
  decide +kernel
theorem d0_259 (L : Nat) (xs : Nat → Int32) : decode (ax_code (mgT L xs) 0) 259 = .ok (.iadd, 1) := by
  show decode code 259 = _
  decide +kernel
theorem d0_260 (L : Nat) (xs : Nat → Int32) : decode (ax_code (mgT L xs) 0) 260 = .ok (.iaload, 1) := by
  show decode code 260 = _
  decide +kernel
theorem d0_261 (L : Nat) (xs : Nat → Int32) : decode (ax_code (mgT L xs) 0) 261 = .ok (.aload_n 3, 1) := by
  show decode code 261 = _
  decide +kernel
theorem d0_262 (L : Nat) (xs : Nat → Int32) : decode (ax_code (mgT L xs) 0) 262 = .ok (.invokestatic 57, 3) := by
  show decode code 262 = _
  decide +kernel
theorem d0_265 (L : Nat) (xs : Nat → Int32) : decode (ax_code (mgT L xs) 0) 265 = .ok (.istore 5, 2) := by
  show decode code 265 = _
  decide +kernel
theorem d0_267 (L : Nat) (xs : Nat → Int32) : decode (ax_code (mgT L xs) 0) 267 = .ok (.aload_n 2, 1) := by
  show decode code 267 = _
  decide +kernel
theorem d0_268 (L : Nat) (xs : Nat → Int32) : decode (ax_code (mgT L xs) 0) 268 = .ok (.aload_n 0, 1) := by
  show decode code 268 = _
  decide +kernel
theorem d0_269 (L : Nat) (xs : Nat → Int32) : decode (ax_code (mgT L xs) 0) 269 = .ok (.iload 4, 2) := by
  show decode code 269 = _
  decide +kernel
theorem d0_271 (L : Nat) (xs : Nat → Int32) : decode (ax_code (mgT L xs) 0) 271 = .ok (.iconst 1, 1) := by
  show decode code 271 = _
  decide +kernel
theorem d0_272 (L : Nat) (xs : Nat → Int32) : decode (ax_code (mgT L xs) 0) 272 = .ok (.iadd, 1) := by
  show decode code 272 = _
  decide +kernel
theorem d0_273 (L : Nat) (xs : Nat → Int32) : decode (ax_code (mgT L xs) 0) 273 = .ok (.iaload, 1) := by
  show decode code 273 = _
  decide +kernel
theorem d0_274 (L : Nat) (xs : Nat → Int32) : decode (ax_code (mgT L xs) 0) 274 = .ok (.invokevirtual 59, 3) := by
  show decode code 274 = _
  decide +kernel
theorem d0_277 (L : Nat) (xs : Nat → Int32) : decode (ax_code (mgT L xs) 0) 277 = .ok (.istore 6, 2) := by
  show decode code 277 = _
  decide +kernel
theorem d0_279 (L : Nat) (xs : Nat → Int32) : decode (ax_code (mgT L xs) 0) 279 = .ok (.aload_n 2, 1) := by
  show decode code 279 = _
  decide +kernel
theorem d0_280 (L : Nat) (xs : Nat → Int32) : decode (ax_code (mgT L xs) 0) 280 = .ok (.invokevirtual 49, 3) := by
  show decode code 280 = _
  decide +kernel
theorem d0_283 (L : Nat) (xs : Nat → Int32) : decode (ax_code (mgT L xs) 0) 283 = .ok (.iload 5, 2) := by
  show decode code 283 = _
  decide +kernel
theorem d0_285 (L : Nat) (xs : Nat → Int32) : decode (ax_code (mgT L xs) 0) 285 = .ok (.if_icmp .eq 5, 3) := by
  show decode code 285 = _
  decide +kernel
theorem d0_290 (L : Nat) (xs : Nat → Int32) : decode (ax_code (mgT L xs) 0) 290 = .ok (.iload 5, 2) := by
  show decode code 290 = _
  decide +kernel
theorem d0_292 (L : Nat) (xs : Nat → Int32) : decode (ax_code (mgT L xs) 0) 292 = .ok (.ifCond .ne 15, 3) := by
  show decode code 292 = _
  decide +kernel
theorem d0_307 (L : Nat) (xs : Nat → Int32) : decode (ax_code (mgT L xs) 0) 307 = .ok (.goto 134, 3) := by
  show decode code 307 = _
  decide +kernel
theorem d0_310 (L : Nat) (xs : Nat → Int32) : decode (ax_code (mgT L xs) 0) 310 = .ok (.aload_n 1, 1) := by
  show decode code 310 = _
  decide +kernel
theorem d0_311 (L : Nat) (xs : Nat → Int32) : decode (ax_code (mgT L xs) 0) 311 = .ok (.aload_n 0, 1) := by
  show decode code 311 = _
  decide +kernel
theorem d0_312 (L : Nat) (xs : Nat → Int32) : decode (ax_code (mgT L xs) 0) 312 = .ok (.iload 4, 2) := by
  show decode code 312 = _
  decide +kernel
theorem d0_314 (L : Nat) (xs : Nat → Int32) : decode (ax_code (mgT L xs) 0) 314 = .ok (.iconst 1, 1) := by
  show decode code 314 = _
  decide +kernel
theorem d0_315 (L : Nat) (xs : Nat → Int32) : decode (ax_code (mgT L xs) 0) 315 = .ok (.iadd, 1) := by
  show decode code 315 = _
  decide +kernel
theorem d0_316 (L : Nat) (xs : Nat → Int32) : decode (ax_code (mgT L xs) 0) 316 = .ok (.iaload, 1) := by
  show decode code 316 = _
  decide +kernel
theorem d0_317 (L : Nat) (xs : Nat → Int32) : decode (ax_code (mgT L xs) 0) 317 = .ok (.invokevirtual 60, 3) := by
  show decode code 317 = _
  decide +kernel
theorem d0_320 (L : Nat) (xs : Nat → Int32) : decode (ax_code (mgT L xs) 0) 320 = .ok (.aload_n 2, 1) := by
  show decode code 320 = _
  decide +kernel
theorem d0_321 (L : Nat) (xs : Nat → Int32) : decode (ax_code (mgT L xs) 0) 321 = .ok (.aload_n 0, 1) := by
  show decode code 321 = _
  decide +kernel
theorem d0_322 (L : Nat) (xs : Nat → Int32) : decode (ax_code (mgT L xs) 0) 322 = .ok (.iload 4, 2) := by
  show decode code 322 = _
  decide +kernel
theorem d0_324 (L : Nat) (xs : Nat → Int32) : decode (ax_code (mgT L xs) 0) 324 = .ok (.iconst 1, 1) := by
  show decode code 324 = _
  decide +kernel
theorem d0_325 (L : Nat) (xs : Nat → Int32) : decode (ax_code (mgT L xs) 0) 325 = .ok (.iadd, 1) := by
  show decode code 325 = _
  decide +kernel
theorem d0_326 (L : Nat) (xs : Nat → Int32) : decode (ax_code (mgT L xs) 0) 326 = .ok (.iaload, 1) := by
  show decode code 326 = _
  decide +kernel
theorem d0_327 (L : Nat) (xs : Nat → Int32) : decode (ax_code (mgT L xs) 0) 327 = .ok (.invokevirtual 63, 3) := by
  show decode code 327 = _
  decide +kernel
theorem d0_330 (L : Nat) (xs : Nat → Int32) : decode (ax_code (mgT L xs) 0) 330 = .ok (.if_icmp .eq 111, 3) := by
  show decode code 330 = _
  decide +kernel
theorem d0_335 (L : Nat) (xs : Nat → Int32) : decode (ax_code (mgT L xs) 0) 335 = .ok (.aload_n 1, 1) := by
  show decode code 335 = _
  decide +kernel
theorem d0_336 (L : Nat) (xs : Nat → Int32) : decode (ax_code (mgT L xs) 0) 336 = .ok (.aload_n 0, 1) := by
  show decode code 336 = _
  decide +kernel
theorem d0_337 (L : Nat) (xs : Nat → Int32) : decode (ax_code (mgT L xs) 0) 337 = .ok (.iload 4, 2) := by
  show decode code 337 = _
  decide +kernel
theorem d0_339 (L : Nat) (xs : Nat → Int32) : decode (ax_code (mgT L xs) 0) 339 = .ok (.iconst 1, 1) := by
  show decode code 339 = _
  decide +kernel
theorem d0_340 (L : Nat) (xs : Nat → Int32) : decode (ax_code (mgT L xs) 0) 340 = .ok (.iadd, 1) := by
  show decode code 340 = _
  decide +kernel
theorem d0_341 (L : Nat) (xs : Nat → Int32) : decode (ax_code (mgT L xs) 0) 341 = .ok (.iaload, 1) := by
  show decode code 341 = _
  decide +kernel
theorem d0_342 (L : Nat) (xs : Nat → Int32) : decode (ax_code (mgT L xs) 0) 342 = .ok (.invokevirtual 64, 3) := by
  show decode code 342 = _
  decide +kernel
theorem d0_345 (L : Nat) (xs : Nat → Int32) : decode (ax_code (mgT L xs) 0) 345 = .ok (.aload_n 2, 1) := by
  show decode code 345 = _
  decide +kernel
theorem d0_346 (L : Nat) (xs : Nat → Int32) : decode (ax_code (mgT L xs) 0) 346 = .ok (.aload_n 0, 1) := by
  show decode code 346 = _
  decide +kernel
theorem d0_347 (L : Nat) (xs : Nat → Int32) : decode (ax_code (mgT L xs) 0) 347 = .ok (.iload 4, 2) := by
  show decode code 347 = _
  decide +kernel
theorem d0_349 (L : Nat) (xs : Nat → Int32) : decode (ax_code (mgT L xs) 0) 349 = .ok (.iconst 1, 1) := by
  show decode code 349 = _
  decide +kernel
theorem d0_350 (L : Nat) (xs : Nat → Int32) : decode (ax_code (mgT L xs) 0) 350 = .ok (.iadd, 1) := by
  show decode code 350 = _
  decide +kernel
theorem d0_351 (L : Nat) (xs : Nat → Int32) : decode (ax_code (mgT L xs) 0) 351 = .ok (.iaload, 1) := by
  show decode code 351 = _
  decide +kernel
theorem d0_352 (L : Nat) (xs : Nat → Int32) : decode (ax_code (mgT L xs) 0) 352 = .ok (.invokevirtual 67, 3) := by
  show decode code 352 = _
  decide +kernel
theorem d0_355 (L : Nat) (xs : Nat → Int32) : decode (ax_code (mgT L xs) 0) 355 = .ok (.if_icmp .eq 86, 3) := by
  show decode code 355 = _
  decide +kernel
theorem d0_360 (L : Nat) (xs : Nat → Int32) : decode (ax_code (mgT L xs) 0) 360 = .ok (.aload_n 1, 1) := by
  show decode code 360 = _
  decide +kernel
theorem d0_361 (L : Nat) (xs : Nat → Int32) : decode (ax_code (mgT L xs) 0) 361 = .ok (.aload_n 0, 1) := by
  show decode code 361 = _
  decide +kernel
theorem d0_362 (L : Nat) (xs : Nat → Int32) : decode (ax_code (mgT L xs) 0) 362 = .ok (.iload 4, 2) := by
  show decode code 362 = _
  decide +kernel
theorem d0_364 (L : Nat) (xs : Nat → Int32) : decode (ax_code (mgT L xs) 0) 364 = .ok (.iconst 1, 1) := by
  show decode code 364 = _
  decide +kernel
theorem d0_365 (L : Nat) (xs : Nat → Int32) : decode (ax_code (mgT L xs) 0) 365 = .ok (.iadd, 1) := by
  show decode code 365 = _
  decide +kernel
theorem d0_366 (L : Nat) (xs : Nat → Int32) : decode (ax_code (mgT L xs) 0) 366 = .ok (.iaload, 1) := by
  show decode code 366 = _
  decide +kernel
theorem d0_367 (L : Nat) (xs : Nat → Int32) : decode (ax_code (mgT L xs) 0) 367 = .ok (.aload_n 3, 1) := by
  show decode code 367 = _
  decide +kernel
theorem d0_368 (L : Nat) (xs : Nat → Int32) : decode (ax_code (mgT L xs) 0) 368 = .ok (.invokestatic 68, 3) := by
  show decode code 368 = _
  decide +kernel
theorem d0_371 (L : Nat) (xs : Nat → Int32) : decode (ax_code (mgT L xs) 0) 371 = .ok (.istore 5, 2) := by
  show decode code 371 = _
  decide +kernel
theorem d0_373 (L : Nat) (xs : Nat → Int32) : decode (ax_code (mgT L xs) 0) 373 = .ok (.aload_n 2, 1) := by
  show decode code 373 = _
  decide +kernel
theorem d0_374 (L : Nat) (xs : Nat → Int32) : decode (ax_code (mgT L xs) 0) 374 = .ok (.aload_n 0, 1) := by
  show decode code 374 = _
  decide +kernel
theorem d0_375 (L : Nat) (xs : Nat → Int32) : decode (ax_code (mgT L xs) 0) 375 = .ok (.iload 4, 2) := by
  show decode code 375 = _
  decide +kernel
theorem d0_377 (L : Nat) (xs : Nat → Int32) : decode (ax_code (mgT L xs) 0) 377 = .ok (.iconst 1, 1) := by
  show decode code 377 = _
  decide +kernel
theorem d0_378 (L : Nat) (xs : Nat → Int32) : decode (ax_code (mgT L xs) 0) 378 = .ok (.iadd, 1) := by
  show decode code 378 = _
  decide +kernel
theorem d0_379 (L : Nat) (xs : Nat → Int32) : decode (ax_code (mgT L xs) 0) 379 = .ok (.iaload, 1) := by
  show decode code 379 = _
  decide +kernel
theorem d0_380 (L : Nat) (xs : Nat → Int32) : decode (ax_code (mgT L xs) 0) 380 = .ok (.invokevirtual 70, 3) := by
  show decode code 380 = _
  decide +kernel
theorem d0_383 (L : Nat) (xs : Nat → Int32) : decode (ax_code (mgT L xs) 0) 383 = .ok (.istore 6, 2) := by
  show decode code 383 = _
  decide +kernel
theorem d0_385 (L : Nat) (xs : Nat → Int32) : decode (ax_code (mgT L xs) 0) 385 = .ok (.aload_n 2, 1) := by
  show decode code 385 = _
  decide +kernel
theorem d0_386 (L : Nat) (xs : Nat → Int32) : decode (ax_code (mgT L xs) 0) 386 = .ok (.invokevirtual 49, 3) := by
  show decode code 386 = _
  decide +kernel
theorem d0_389 (L : Nat) (xs : Nat → Int32) : decode (ax_code (mgT L xs) 0) 389 = .ok (.iload 5, 2) := by
  show decode code 389 = _
  decide +kernel
theorem d0_391 (L : Nat) (xs : Nat → Int32) : decode (ax_code (mgT L xs) 0) 391 = .ok (.if_icmp .eq 5, 3) := by
  show decode code 391 = _
  decide +kernel
theorem d0_396 (L : Nat) (xs : Nat → Int32) : decode (ax_code (mgT L xs) 0) 396 = .ok (.iload 5, 2) := by
  show decode code 396 = _
  decide +kernel
theorem d0_398 (L : Nat) (xs : Nat → Int32) : decode (ax_code (mgT L xs) 0) 398 = .ok (.ifCond .ne 15, 3) := by
  show decode code 398 = _
  decide +kernel
theorem d0_413 (L : Nat) (xs : Nat → Int32) : decode (ax_code (mgT L xs) 0) 413 = .ok (.goto 28, 3) := by
  show decode code 413 = _
  decide +kernel
theorem d0_416 (L : Nat) (xs : Nat → Int32) : decode (ax_code (mgT L xs) 0) 416 = .ok (.aload_n 1, 1) := by
  show decode code 416 = _
  decide +kernel
theorem d0_417 (L : Nat) (xs : Nat → Int32) : decode (ax_code (mgT L xs) 0) 417 = .ok (.aload_n 0, 1) := by
  show decode code 417 = _
  decide +kernel
theorem d0_418 (L : Nat) (xs : Nat → Int32) : decode (ax_code (mgT L xs) 0) 418 = .ok (.iload 4, 2) := by
  show decode code 418 = _
  decide +kernel
theorem d0_420 (L : Nat) (xs : Nat → Int32) : decode (ax_code (mgT L xs) 0) 420 = .ok (.iconst 1, 1) := by
  show decode code 420 = _
  decide +kernel
theorem d0_421 (L : Nat) (xs : Nat → Int32) : decode (ax_code (mgT L xs) 0) 421 = .ok (.iadd, 1) := by
  show decode code 421 = _
  decide +kernel
theorem d0_422 (L : Nat) (xs : Nat → Int32) : decode (ax_code (mgT L xs) 0) 422 = .ok (.iaload, 1) := by
  show decode code 422 = _
  decide +kernel
theorem d0_423 (L : Nat) (xs : Nat → Int32) : decode (ax_code (mgT L xs) 0) 423 = .ok (.invokevirtual 71, 3) := by
  show decode code 423 = _
  decide +kernel
theorem d0_426 (L : Nat) (xs : Nat → Int32) : decode (ax_code (mgT L xs) 0) 426 = .ok (.aload_n 2, 1) := by
  show decode code 426 = _
  decide +kernel
theorem d0_427 (L : Nat) (xs : Nat → Int32) : decode (ax_code (mgT L xs) 0) 427 = .ok (.aload_n 0, 1) := by
  show decode code 427 = _
  decide +kernel
theorem d0_428 (L : Nat) (xs : Nat → Int32) : decode (ax_code (mgT L xs) 0) 428 = .ok (.iload 4, 2) := by
  show decode code 428 = _
  decide +kernel
theorem d0_430 (L : Nat) (xs : Nat → Int32) : decode (ax_code (mgT L xs) 0) 430 = .ok (.iconst 1, 1) := by
  show decode code 430 = _
  decide +kernel
theorem d0_431 (L : Nat) (xs : Nat → Int32) : decode (ax_code (mgT L xs) 0) 431 = .ok (.iadd, 1) := by
  show decode code 431 = _
  decide +kernel
theorem d0_432 (L : Nat) (xs : Nat → Int32) : decode (ax_code (mgT L xs) 0) 432 = .ok (.iaload, 1) := by
  show decode code 432 = _
  decide +kernel
theorem d0_433 (L : Nat) (xs : Nat → Int32) : decode (ax_code (mgT L xs) 0) 433 = .ok (.invokevirtual 74, 3) := by
  show decode code 433 = _
  decide +kernel
theorem d0_436 (L : Nat) (xs : Nat → Int32) : decode (ax_code (mgT L xs) 0) 436 = .ok (.if_icmp .eq 5, 3) := by
  show decode code 436 = _
  decide +kernel
theorem d0_441 (L : Nat) (xs : Nat → Int32) : decode (ax_code (mgT L xs) 0) 441 = .ok (.iinc 4 3, 3) := by
  show decode code 441 = _
  decide +kernel
theorem d0_444 (L : Nat) (xs : Nat → Int32) : decode (ax_code (mgT L xs) 0) 444 = .ok (.goto (-421), 3) := by
  show decode code 444 = _
  decide +kernel
theorem d0_447 (L : Nat) (xs : Nat → Int32) : decode (ax_code (mgT L xs) 0) 447 = .ok (.iconst 1, 1) := by
  show decode code 447 = _
  decide +kernel
theorem d0_448 (L : Nat) (xs : Nat → Int32) : decode (ax_code (mgT L xs) 0) 448 = .ok (.ireturn, 1) := by
  show decode code 448 = _
  decide +kernel
theorem d1_0 (L : Nat) (xs : Nat → Int32) : decode (ax_code (mgT L xs) 1) 0 = .ok (.aload_n 2, 1) := by
  show decode method_3_code 0 = _
  decide +kernel
theorem d1_1 (L : Nat) (xs : Nat → Int32) : decode (ax_code (mgT L xs) 1) 1 = .ok (.iconst 0, 1) := by
  show decode method_3_code 1 = _
  decide +kernel
theorem d1_2 (L : Nat) (xs : Nat → Int32) : decode (ax_code (mgT L xs) 1) 2 = .ok (.aload_n 0, 1) := by
  show decode method_3_code 2 = _
  decide +kernel
theorem d1_3 (L : Nat) (xs : Nat → Int32) : decode (ax_code (mgT L xs) 1) 3 = .ok (.iload_n 1, 1) := by
  show decode method_3_code 3 = _
  decide +kernel
theorem d1_4 (L : Nat) (xs : Nat → Int32) : decode (ax_code (mgT L xs) 1) 4 = .ok (.invokevirtual 7, 3) := by
  show decode method_3_code 4 = _
  decide +kernel
theorem d1_12 (L : Nat) (xs : Nat → Int32) : decode (ax_code (mgT L xs) 1) 12 = .ok (.astore_n 3, 1) := by
  show decode method_3_code 12 = _
  decide +kernel
theorem d1_13 (L : Nat) (xs : Nat → Int32) : decode (ax_code (mgT L xs) 1) 13 = .ok (.iconst 1, 1) := by
  show decode method_3_code 13 = _
  decide +kernel
theorem d1_14 (L : Nat) (xs : Nat → Int32) : decode (ax_code (mgT L xs) 1) 14 = .ok (.ireturn, 1) := by
  show decode method_3_code 14 = _
  decide +kernel
theorem d2_0 (L : Nat) (xs : Nat → Int32) : decode (ax_code (mgT L xs) 2) 0 = .ok (.aload_n 2, 1) := by
  show decode method_4_code 0 = _
  decide +kernel
theorem d2_1 (L : Nat) (xs : Nat → Int32) : decode (ax_code (mgT L xs) 2) 1 = .ok (.iconst 0, 1) := by
  show decode method_4_code 1 = _
  decide +kernel
theorem d2_2 (L : Nat) (xs : Nat → Int32) : decode (ax_code (mgT L xs) 2) 2 = .ok (.aload_n 0, 1) := by
  show decode method_4_code 2 = _
  decide +kernel
theorem d2_3 (L : Nat) (xs : Nat → Int32) : decode (ax_code (mgT L xs) 2) 3 = .ok (.iload_n 1, 1) := by
  show decode method_4_code 3 = _
  decide +kernel
theorem d2_4 (L : Nat) (xs : Nat → Int32) : decode (ax_code (mgT L xs) 2) 4 = .ok (.invokevirtual 17, 3) := by
  show decode method_4_code 4 = _
  decide +kernel
theorem d2_12 (L : Nat) (xs : Nat → Int32) : decode (ax_code (mgT L xs) 2) 12 = .ok (.astore_n 3, 1) := by
  show decode method_4_code 12 = _
  decide +kernel
theorem d2_13 (L : Nat) (xs : Nat → Int32) : decode (ax_code (mgT L xs) 2) 13 = .ok (.iconst 1, 1) := by
  show decode method_4_code 13 = _
  decide +kernel
theorem d2_14 (L : Nat) (xs : Nat → Int32) : decode (ax_code (mgT L xs) 2) 14 = .ok (.ireturn, 1) := by
  show decode method_4_code 14 = _
  decide +kernel
theorem d3_0 (L : Nat) (xs : Nat → Int32) : decode (ax_code (mgT L xs) 3) 0 = .ok (.aload_n 2, 1) := by
  show decode method_5_code 0 = _
  decide +kernel
theorem d3_1 (L : Nat) (xs : Nat → Int32) : decode (ax_code (mgT L xs) 3) 1 = .ok (.iconst 0, 1) := by
  show decode method_5_code 1 = _
  decide +kernel
theorem d3_2 (L : Nat) (xs : Nat → Int32) : decode (ax_code (mgT L xs) 3) 2 = .ok (.aload_n 0, 1) := by
  show decode method_5_code 2 = _
  decide +kernel
theorem d3_3 (L : Nat) (xs : Nat → Int32) : decode (ax_code (mgT L xs) 3) 3 = .ok (.iload_n 1, 1) := by
  show decode method_5_code 3 = _
  decide +kernel
theorem d3_4 (L : Nat) (xs : Nat → Int32) : decode (ax_code (mgT L xs) 3) 4 = .ok (.invokevirtual 20, 3) := by
  show decode method_5_code 4 = _
  decide +kernel
theorem d3_12 (L : Nat) (xs : Nat → Int32) : decode (ax_code (mgT L xs) 3) 12 = .ok (.astore_n 3, 1) := by
  show decode method_5_code 12 = _
  decide +kernel
theorem d3_13 (L : Nat) (xs : Nat → Int32) : decode (ax_code (mgT L xs) 3) 13 = .ok (.iconst 1, 1) := by
  show decode method_5_code 13 = _
  decide +kernel
theorem d3_14 (L : Nat) (xs : Nat → Int32) : decode (ax_code (mgT L xs) 3) 14 = .ok (.ireturn, 1) := by
  show decode method_5_code 14 = _
  decide +kernel
theorem d13_0 (L : Nat) (xs : Nat → Int32) : decode (ax_code (mgT L xs) 13) 0 = .ok (.iconst 0, 1) := by
  show decode prog_1_method_2_code 0 = _
  decide +kernel
theorem d13_1 (L : Nat) (xs : Nat → Int32) : decode (ax_code (mgT L xs) 13) 1 = .ok (.istore_n 3, 1) := by
  show decode prog_1_method_2_code 1 = _
  decide +kernel
theorem d13_2 (L : Nat) (xs : Nat → Int32) : decode (ax_code (mgT L xs) 13) 2 = .ok (.bipush 56, 2) := by
  show decode prog_1_method_2_code 2 = _
  decide +kernel
theorem d13_4 (L : Nat) (xs : Nat → Int32) : decode (ax_code (mgT L xs) 13) 4 = .ok (.istore 4, 2) := by
  show decode prog_1_method_2_code 4 = _
  decide +kernel
theorem d13_6 (L : Nat) (xs : Nat → Int32) : decode (ax_code (mgT L xs) 13) 6 = .ok (.iload 4, 2) := by
  show decode prog_1_method_2_code 6 = _
  decide +kernel
theorem d13_8 (L : Nat) (xs : Nat → Int32) : decode (ax_code (mgT L xs) 13) 8 = .ok (.ifCond .lt 41, 3) := by
  show decode prog_1_method_2_code 8 = _
  decide +kernel
theorem d13_11 (L : Nat) (xs : Nat → Int32) : decode (ax_code (mgT L xs) 13) 11 = .ok (.lload_n 1, 1) := by
  show decode prog_1_method_2_code 11 = _
  decide +kernel
theorem d13_12 (L : Nat) (xs : Nat → Int32) : decode (ax_code (mgT L xs) 13) 12 = .ok (.iload 4, 2) := by
  show decode prog_1_method_2_code 12 = _
  decide +kernel
theorem d13_14 (L : Nat) (xs : Nat → Int32) : decode (ax_code (mgT L xs) 13) 14 = .ok (.invokestatic 43, 3) := by
  show decode prog_1_method_2_code 14 = _
  decide +kernel
theorem d13_17 (L : Nat) (xs : Nat → Int32) : decode (ax_code (mgT L xs) 13) 17 = .ok (.istore 5, 2) := by
  show decode prog_1_method_2_code 17 = _
  decide +kernel
theorem d13_19 (L : Nat) (xs : Nat → Int32) : decode (ax_code (mgT L xs) 13) 19 = .ok (.iload 5, 2) := by
  show decode prog_1_method_2_code 19 = _
  decide +kernel
theorem d13_21 (L : Nat) (xs : Nat → Int32) : decode (ax_code (mgT L xs) 13) 21 = .ok (.ifCond .eq 22, 3) := by
  show decode prog_1_method_2_code 21 = _
  decide +kernel
theorem d13_24 (L : Nat) (xs : Nat → Int32) : decode (ax_code (mgT L xs) 13) 24 = .ok (.iload 5, 2) := by
  show decode prog_1_method_2_code 24 = _
  decide +kernel
theorem d13_26 (L : Nat) (xs : Nat → Int32) : decode (ax_code (mgT L xs) 13) 26 = .ok (.bipush 32, 2) := by
  show decode prog_1_method_2_code 26 = _
  decide +kernel
theorem d13_28 (L : Nat) (xs : Nat → Int32) : decode (ax_code (mgT L xs) 13) 28 = .ok (.if_icmp .lt 10, 3) := by
  show decode prog_1_method_2_code 28 = _
  decide +kernel
theorem d13_31 (L : Nat) (xs : Nat → Int32) : decode (ax_code (mgT L xs) 13) 31 = .ok (.iload 5, 2) := by
  show decode prog_1_method_2_code 31 = _
  decide +kernel
theorem d13_33 (L : Nat) (xs : Nat → Int32) : decode (ax_code (mgT L xs) 13) 33 = .ok (.bipush 126, 2) := by
  show decode prog_1_method_2_code 33 = _
  decide +kernel
theorem d13_35 (L : Nat) (xs : Nat → Int32) : decode (ax_code (mgT L xs) 13) 35 = .ok (.if_icmp .le 5, 3) := by
  show decode prog_1_method_2_code 35 = _
  decide +kernel
theorem d13_38 (L : Nat) (xs : Nat → Int32) : decode (ax_code (mgT L xs) 13) 38 = .ok (.iconst 0, 1) := by
  show decode prog_1_method_2_code 38 = _
  decide +kernel
theorem d13_39 (L : Nat) (xs : Nat → Int32) : decode (ax_code (mgT L xs) 13) 39 = .ok (.ireturn, 1) := by
  show decode prog_1_method_2_code 39 = _
  decide +kernel
theorem d13_40 (L : Nat) (xs : Nat → Int32) : decode (ax_code (mgT L xs) 13) 40 = .ok (.iinc 3 1, 3) := by
  show decode prog_1_method_2_code 40 = _
  decide +kernel
theorem d13_43 (L : Nat) (xs : Nat → Int32) : decode (ax_code (mgT L xs) 13) 43 = .ok (.iinc 4 (-8), 3) := by
  show decode prog_1_method_2_code 43 = _
  decide +kernel
theorem d13_46 (L : Nat) (xs : Nat → Int32) : decode (ax_code (mgT L xs) 13) 46 = .ok (.goto (-40), 3) := by
  show decode prog_1_method_2_code 46 = _
  decide +kernel
theorem d13_49 (L : Nat) (xs : Nat → Int32) : decode (ax_code (mgT L xs) 13) 49 = .ok (.aload_n 0, 1) := by
  show decode prog_1_method_2_code 49 = _
  decide +kernel
theorem d13_50 (L : Nat) (xs : Nat → Int32) : decode (ax_code (mgT L xs) 13) 50 = .ok (.getfield 14, 3) := by
  show decode prog_1_method_2_code 50 = _
  decide +kernel
theorem d13_53 (L : Nat) (xs : Nat → Int32) : decode (ax_code (mgT L xs) 13) 53 = .ok (.invokevirtual 47, 3) := by
  show decode prog_1_method_2_code 53 = _
  decide +kernel
theorem d13_56 (L : Nat) (xs : Nat → Int32) : decode (ax_code (mgT L xs) 13) 56 = .ok (.iload_n 3, 1) := by
  show decode prog_1_method_2_code 56 = _
  decide +kernel
theorem d13_57 (L : Nat) (xs : Nat → Int32) : decode (ax_code (mgT L xs) 13) 57 = .ok (.iadd, 1) := by
  show decode prog_1_method_2_code 57 = _
  decide +kernel
theorem d13_58 (L : Nat) (xs : Nat → Int32) : decode (ax_code (mgT L xs) 13) 58 = .ok (.bipush 100, 2) := by
  show decode prog_1_method_2_code 58 = _
  decide +kernel
theorem d13_60 (L : Nat) (xs : Nat → Int32) : decode (ax_code (mgT L xs) 13) 60 = .ok (.if_icmp .le 5, 3) := by
  show decode prog_1_method_2_code 60 = _
  decide +kernel
theorem d13_63 (L : Nat) (xs : Nat → Int32) : decode (ax_code (mgT L xs) 13) 63 = .ok (.iconst 0, 1) := by
  show decode prog_1_method_2_code 63 = _
  decide +kernel
theorem d13_64 (L : Nat) (xs : Nat → Int32) : decode (ax_code (mgT L xs) 13) 64 = .ok (.ireturn, 1) := by
  show decode prog_1_method_2_code 64 = _
  decide +kernel
theorem d13_65 (L : Nat) (xs : Nat → Int32) : decode (ax_code (mgT L xs) 13) 65 = .ok (.bipush 56, 2) := by
  show decode prog_1_method_2_code 65 = _
  decide +kernel
theorem d13_67 (L : Nat) (xs : Nat → Int32) : decode (ax_code (mgT L xs) 13) 67 = .ok (.istore 4, 2) := by
  show decode prog_1_method_2_code 67 = _
  decide +kernel
theorem d13_69 (L : Nat) (xs : Nat → Int32) : decode (ax_code (mgT L xs) 13) 69 = .ok (.iload 4, 2) := by
  show decode prog_1_method_2_code 69 = _
  decide +kernel
theorem d13_71 (L : Nat) (xs : Nat → Int32) : decode (ax_code (mgT L xs) 13) 71 = .ok (.ifCond .lt 32, 3) := by
  show decode prog_1_method_2_code 71 = _
  decide +kernel
theorem d13_74 (L : Nat) (xs : Nat → Int32) : decode (ax_code (mgT L xs) 13) 74 = .ok (.lload_n 1, 1) := by
  show decode prog_1_method_2_code 74 = _
  decide +kernel
theorem d13_75 (L : Nat) (xs : Nat → Int32) : decode (ax_code (mgT L xs) 13) 75 = .ok (.iload 4, 2) := by
  show decode prog_1_method_2_code 75 = _
  decide +kernel
theorem d13_77 (L : Nat) (xs : Nat → Int32) : decode (ax_code (mgT L xs) 13) 77 = .ok (.invokestatic 43, 3) := by
  show decode prog_1_method_2_code 77 = _
  decide +kernel
theorem d13_80 (L : Nat) (xs : Nat → Int32) : decode (ax_code (mgT L xs) 13) 80 = .ok (.istore 5, 2) := by
  show decode prog_1_method_2_code 80 = _
  decide +kernel
theorem d13_82 (L : Nat) (xs : Nat → Int32) : decode (ax_code (mgT L xs) 13) 82 = .ok (.iload 5, 2) := by
  show decode prog_1_method_2_code 82 = _
  decide +kernel
theorem d13_84 (L : Nat) (xs : Nat → Int32) : decode (ax_code (mgT L xs) 13) 84 = .ok (.ifCond .eq 13, 3) := by
  show decode prog_1_method_2_code 84 = _
  decide +kernel
theorem d13_87 (L : Nat) (xs : Nat → Int32) : decode (ax_code (mgT L xs) 13) 87 = .ok (.aload_n 0, 1) := by
  show decode prog_1_method_2_code 87 = _
  decide +kernel
theorem d13_88 (L : Nat) (xs : Nat → Int32) : decode (ax_code (mgT L xs) 13) 88 = .ok (.getfield 14, 3) := by
  show decode prog_1_method_2_code 88 = _
  decide +kernel
theorem d13_91 (L : Nat) (xs : Nat → Int32) : decode (ax_code (mgT L xs) 13) 91 = .ok (.iload 5, 2) := by
  show decode prog_1_method_2_code 91 = _
  decide +kernel
theorem d13_93 (L : Nat) (xs : Nat → Int32) : decode (ax_code (mgT L xs) 13) 93 = .ok (.i2c, 1) := by
  show decode prog_1_method_2_code 93 = _
  decide +kernel
theorem d13_94 (L : Nat) (xs : Nat → Int32) : decode (ax_code (mgT L xs) 13) 94 = .ok (.invokevirtual 51, 3) := by
  show decode prog_1_method_2_code 94 = _
  decide +kernel
theorem d13_97 (L : Nat) (xs : Nat → Int32) : decode (ax_code (mgT L xs) 13) 97 = .ok (.iinc 4 (-8), 3) := by
  show decode prog_1_method_2_code 97 = _
  decide +kernel
theorem d13_100 (L : Nat) (xs : Nat → Int32) : decode (ax_code (mgT L xs) 13) 100 = .ok (.goto (-31), 3) := by
  show decode prog_1_method_2_code 100 = _
  decide +kernel
theorem d13_103 (L : Nat) (xs : Nat → Int32) : decode (ax_code (mgT L xs) 13) 103 = .ok (.iconst 1, 1) := by
  show decode prog_1_method_2_code 103 = _
  decide +kernel
theorem d13_104 (L : Nat) (xs : Nat → Int32) : decode (ax_code (mgT L xs) 13) 104 = .ok (.ireturn, 1) := by
  show decode prog_1_method_2_code 104 = _
  decide +kernel
theorem d14_0 (L : Nat) (xs : Nat → Int32) : decode (ax_code (mgT L xs) 14) 0 = .ok (.lload_n 0, 1) := by
  show decode prog_1_method_12_code 0 = _
  decide +kernel
theorem d14_1 (L : Nat) (xs : Nat → Int32) : decode (ax_code (mgT L xs) 14) 1 = .ok (.iload_n 2, 1) := by
  show decode prog_1_method_12_code 1 = _
  decide +kernel
theorem d14_2 (L : Nat) (xs : Nat → Int32) : decode (ax_code (mgT L xs) 14) 2 = .ok (.lushr, 1) := by
  show decode prog_1_method_12_code 2 = _
  decide +kernel
theorem d14_3 (L : Nat) (xs : Nat → Int32) : decode (ax_code (mgT L xs) 14) 3 = .ok (.l2i, 1) := by
  show decode prog_1_method_12_code 3 = _
  decide +kernel
theorem d14_4 (L : Nat) (xs : Nat → Int32) : decode (ax_code (mgT L xs) 14) 4 = .ok (.sipush 255, 3) := by
  show decode prog_1_method_12_code 4 = _
  decide +kernel
theorem d14_7 (L : Nat) (xs : Nat → Int32) : decode (ax_code (mgT L xs) 14) 7 = .ok (.iand, 1) := by
  show decode prog_1_method_12_code 7 = _
  decide +kernel
theorem d14_8 (L : Nat) (xs : Nat → Int32) : decode (ax_code (mgT L xs) 14) 8 = .ok (.ireturn, 1) := by
  show decode prog_1_method_12_code 8 = _
  decide +kernel
theorem d15_0 (L : Nat) (xs : Nat → Int32) : decode (ax_code (mgT L xs) 15) 0 = .ok (.aload_n 0, 1) := by
  show decode prog_9_method_2_code 0 = _
  decide +kernel
theorem d15_1 (L : Nat) (xs : Nat → Int32) : decode (ax_code (mgT L xs) 15) 1 = .ok (.getfield 15, 3) := by
  show decode prog_9_method_2_code 1 = _
  decide +kernel
theorem d15_4 (L : Nat) (xs : Nat → Int32) : decode (ax_code (mgT L xs) 15) 4 = .ok (.ireturn, 1) := by
  show decode prog_9_method_2_code 4 = _
  decide +kernel
theorem d16_0 (L : Nat) (xs : Nat → Int32) : decode (ax_code (mgT L xs) 16) 0 = .ok (.aload_n 0, 1) := by
  show decode prog_9_method_5_code 0 = _
  decide +kernel
theorem d16_1 (L : Nat) (xs : Nat → Int32) : decode (ax_code (mgT L xs) 16) 1 = .ok (.getfield 15, 3) := by
  show decode prog_9_method_5_code 1 = _
  decide +kernel
theorem d16_4 (L : Nat) (xs : Nat → Int32) : decode (ax_code (mgT L xs) 16) 4 = .ok (.aload_n 0, 1) := by
  show decode prog_9_method_5_code 4 = _
  decide +kernel
theorem d16_5 (L : Nat) (xs : Nat → Int32) : decode (ax_code (mgT L xs) 16) 5 = .ok (.getfield 9, 3) := by
  show decode prog_9_method_5_code 5 = _
  decide +kernel
theorem d16_8 (L : Nat) (xs : Nat → Int32) : decode (ax_code (mgT L xs) 16) 8 = .ok (.arraylength, 1) := by
  show decode prog_9_method_5_code 8 = _
  decide +kernel
theorem d16_9 (L : Nat) (xs : Nat → Int32) : decode (ax_code (mgT L xs) 16) 9 = .ok (.if_icmp .ge 23, 3) := by
  show decode prog_9_method_5_code 9 = _
  decide +kernel
theorem d16_12 (L : Nat) (xs : Nat → Int32) : decode (ax_code (mgT L xs) 16) 12 = .ok (.aload_n 0, 1) := by
  show decode prog_9_method_5_code 12 = _
  decide +kernel
theorem d16_13 (L : Nat) (xs : Nat → Int32) : decode (ax_code (mgT L xs) 16) 13 = .ok (.getfield 9, 3) := by
  show decode prog_9_method_5_code 13 = _
  decide +kernel
theorem d16_16 (L : Nat) (xs : Nat → Int32) : decode (ax_code (mgT L xs) 16) 16 = .ok (.aload_n 0, 1) := by
  show decode prog_9_method_5_code 16 = _
  decide +kernel
theorem d16_17 (L : Nat) (xs : Nat → Int32) : decode (ax_code (mgT L xs) 16) 17 = .ok (.getfield 15, 3) := by
  show decode prog_9_method_5_code 17 = _
  decide +kernel
theorem d16_20 (L : Nat) (xs : Nat → Int32) : decode (ax_code (mgT L xs) 16) 20 = .ok (.iload_n 1, 1) := by
  show decode prog_9_method_5_code 20 = _
  decide +kernel
theorem d16_21 (L : Nat) (xs : Nat → Int32) : decode (ax_code (mgT L xs) 16) 21 = .ok (.castore, 1) := by
  show decode prog_9_method_5_code 21 = _
  decide +kernel
theorem d16_22 (L : Nat) (xs : Nat → Int32) : decode (ax_code (mgT L xs) 16) 22 = .ok (.aload_n 0, 1) := by
  show decode prog_9_method_5_code 22 = _
  decide +kernel
theorem d16_23 (L : Nat) (xs : Nat → Int32) : decode (ax_code (mgT L xs) 16) 23 = .ok (.dup, 1) := by
  show decode prog_9_method_5_code 23 = _
  decide +kernel
theorem d16_24 (L : Nat) (xs : Nat → Int32) : decode (ax_code (mgT L xs) 16) 24 = .ok (.getfield 15, 3) := by
  show decode prog_9_method_5_code 24 = _
  decide +kernel
theorem d16_27 (L : Nat) (xs : Nat → Int32) : decode (ax_code (mgT L xs) 16) 27 = .ok (.iconst 1, 1) := by
  show decode prog_9_method_5_code 27 = _
  decide +kernel
theorem d16_28 (L : Nat) (xs : Nat → Int32) : decode (ax_code (mgT L xs) 16) 28 = .ok (.iadd, 1) := by
  show decode prog_9_method_5_code 28 = _
  decide +kernel
theorem d16_29 (L : Nat) (xs : Nat → Int32) : decode (ax_code (mgT L xs) 16) 29 = .ok (.putfield 15, 3) := by
  show decode prog_9_method_5_code 29 = _
  decide +kernel
theorem d16_32 (L : Nat) (xs : Nat → Int32) : decode (ax_code (mgT L xs) 16) 32 = .ok (.return_, 1) := by
  show decode prog_9_method_5_code 32 = _
  decide +kernel
theorem d17_0 (L : Nat) (xs : Nat → Int32) : decode (ax_code (mgT L xs) 17) 0 = .ok (.aload_n 0, 1) := by
  show decode prog_1_method_3_code 0 = _
  decide +kernel
theorem d17_1 (L : Nat) (xs : Nat → Int32) : decode (ax_code (mgT L xs) 17) 1 = .ok (.getfield 14, 3) := by
  show decode prog_1_method_3_code 1 = _
  decide +kernel
theorem d17_4 (L : Nat) (xs : Nat → Int32) : decode (ax_code (mgT L xs) 17) 4 = .ok (.invokevirtual 55, 3) := by
  show decode prog_1_method_3_code 4 = _
  decide +kernel
theorem d17_7 (L : Nat) (xs : Nat → Int32) : decode (ax_code (mgT L xs) 17) 7 = .ok (.return_, 1) := by
  show decode prog_1_method_3_code 7 = _
  decide +kernel
theorem d18_0 (L : Nat) (xs : Nat → Int32) : decode (ax_code (mgT L xs) 18) 0 = .ok (.aload_n 0, 1) := by
  show decode prog_9_method_4_code 0 = _
  decide +kernel
theorem d18_1 (L : Nat) (xs : Nat → Int32) : decode (ax_code (mgT L xs) 18) 1 = .ok (.iconst 0, 1) := by
  show decode prog_9_method_4_code 1 = _
  decide +kernel
theorem d18_2 (L : Nat) (xs : Nat → Int32) : decode (ax_code (mgT L xs) 18) 2 = .ok (.putfield 15, 3) := by
  show decode prog_9_method_4_code 2 = _
  decide +kernel
theorem d18_5 (L : Nat) (xs : Nat → Int32) : decode (ax_code (mgT L xs) 18) 5 = .ok (.return_, 1) := by
  show decode prog_9_method_4_code 5 = _
  decide +kernel
theorem d19_0 (L : Nat) (xs : Nat → Int32) : decode (ax_code (mgT L xs) 19) 0 = .ok (.aload_n 0, 1) := by
  show decode prog_1_method_4_code 0 = _
  decide +kernel
theorem d19_1 (L : Nat) (xs : Nat → Int32) : decode (ax_code (mgT L xs) 19) 1 = .ok (.getfield 14, 3) := by
  show decode prog_1_method_4_code 1 = _
  decide +kernel
theorem d19_4 (L : Nat) (xs : Nat → Int32) : decode (ax_code (mgT L xs) 19) 4 = .ok (.invokevirtual 47, 3) := by
  show decode prog_1_method_4_code 4 = _
  decide +kernel
theorem d19_7 (L : Nat) (xs : Nat → Int32) : decode (ax_code (mgT L xs) 19) 7 = .ok (.ireturn, 1) := by
  show decode prog_1_method_4_code 7 = _
  decide +kernel
theorem d20_0 (L : Nat) (xs : Nat → Int32) : decode (ax_code (mgT L xs) 20) 0 = .ok (.aload_n 0, 1) := by
  show decode prog_1_method_6_code 0 = _
  decide +kernel
theorem d20_1 (L : Nat) (xs : Nat → Int32) : decode (ax_code (mgT L xs) 20) 1 = .ok (.getfield 21, 3) := by
  show decode prog_1_method_6_code 1 = _
  decide +kernel
theorem d20_4 (L : Nat) (xs : Nat → Int32) : decode (ax_code (mgT L xs) 20) 4 = .ok (.iload_n 1, 1) := by
  show decode prog_1_method_6_code 4 = _
  decide +kernel
theorem d20_5 (L : Nat) (xs : Nat → Int32) : decode (ax_code (mgT L xs) 20) 5 = .ok (.invokevirtual 75, 3) := by
  show decode prog_1_method_6_code 5 = _
  decide +kernel
theorem d20_8 (L : Nat) (xs : Nat → Int32) : decode (ax_code (mgT L xs) 20) 8 = .ok (.ireturn, 1) := by
  show decode prog_1_method_6_code 8 = _
  decide +kernel
theorem d21_0 (L : Nat) (xs : Nat → Int32) : decode (ax_code (mgT L xs) 21) 0 = .ok (.iload_n 1, 1) := by
  show decode prog_7_method_7_code 0 = _
  decide +kernel
theorem d21_1 (L : Nat) (xs : Nat → Int32) : decode (ax_code (mgT L xs) 21) 1 = .ok (.ifCond .lt 11, 3) := by
  show decode prog_7_method_7_code 1 = _
  decide +kernel
theorem d21_4 (L : Nat) (xs : Nat → Int32) : decode (ax_code (mgT L xs) 21) 4 = .ok (.iload_n 1, 1) := by
  show decode prog_7_method_7_code 4 = _
  decide +kernel
theorem d21_5 (L : Nat) (xs : Nat → Int32) : decode (ax_code (mgT L xs) 21) 5 = .ok (.aload_n 0, 1) := by
  show decode prog_7_method_7_code 5 = _
  decide +kernel
theorem d21_6 (L : Nat) (xs : Nat → Int32) : decode (ax_code (mgT L xs) 21) 6 = .ok (.getfield 27, 3) := by
  show decode prog_7_method_7_code 6 = _
  decide +kernel
theorem d21_9 (L : Nat) (xs : Nat → Int32) : decode (ax_code (mgT L xs) 21) 9 = .ok (.if_icmp .lt 5, 3) := by
  show decode prog_7_method_7_code 9 = _
  decide +kernel
theorem d21_12 (L : Nat) (xs : Nat → Int32) : decode (ax_code (mgT L xs) 21) 12 = .ok (.iconst 0, 1) := by
  show decode prog_7_method_7_code 12 = _
  decide +kernel
theorem d21_13 (L : Nat) (xs : Nat → Int32) : decode (ax_code (mgT L xs) 21) 13 = .ok (.ireturn, 1) := by
  show decode prog_7_method_7_code 13 = _
  decide +kernel
theorem d22_0 (L : Nat) (xs : Nat → Int32) : decode (ax_code (mgT L xs) 22) 0 = .ok (.aload_n 0, 1) := by
  show decode prog_1_method_8_code 0 = _
  decide +kernel
theorem d22_1 (L : Nat) (xs : Nat → Int32) : decode (ax_code (mgT L xs) 22) 1 = .ok (.getfield 30, 3) := by
  show decode prog_1_method_8_code 1 = _
  decide +kernel
theorem d22_4 (L : Nat) (xs : Nat → Int32) : decode (ax_code (mgT L xs) 22) 4 = .ok (.invokevirtual 92, 3) := by
  show decode prog_1_method_8_code 4 = _
  decide +kernel
theorem d22_7 (L : Nat) (xs : Nat → Int32) : decode (ax_code (mgT L xs) 22) 7 = .ok (.ifCond .ne 5, 3) := by
  show decode prog_1_method_8_code 7 = _
  decide +kernel
theorem d22_10 (L : Nat) (xs : Nat → Int32) : decode (ax_code (mgT L xs) 22) 10 = .ok (.iconst (-1), 1) := by
  show decode prog_1_method_8_code 10 = _
  decide +kernel
theorem d22_11 (L : Nat) (xs : Nat → Int32) : decode (ax_code (mgT L xs) 22) 11 = .ok (.ireturn, 1) := by
  show decode prog_1_method_8_code 11 = _
  decide +kernel
theorem d23_0 (L : Nat) (xs : Nat → Int32) : decode (ax_code (mgT L xs) 23) 0 = .ok (.aload_n 0, 1) := by
  show decode prog_2_method_2_code 0 = _
  decide +kernel
theorem d23_1 (L : Nat) (xs : Nat → Int32) : decode (ax_code (mgT L xs) 23) 1 = .ok (.getfield 29, 3) := by
  show decode prog_2_method_2_code 1 = _
  decide +kernel
theorem d23_4 (L : Nat) (xs : Nat → Int32) : decode (ax_code (mgT L xs) 23) 4 = .ok (.iconst (-1), 1) := by
  show decode prog_2_method_2_code 4 = _
  decide +kernel
theorem d23_5 (L : Nat) (xs : Nat → Int32) : decode (ax_code (mgT L xs) 23) 5 = .ok (.if_icmp .eq 7, 3) := by
  show decode prog_2_method_2_code 5 = _
  decide +kernel
theorem d23_12 (L : Nat) (xs : Nat → Int32) : decode (ax_code (mgT L xs) 23) 12 = .ok (.iconst 0, 1) := by
  show decode prog_2_method_2_code 12 = _
  decide +kernel
theorem d23_13 (L : Nat) (xs : Nat → Int32) : decode (ax_code (mgT L xs) 23) 13 = .ok (.ireturn, 1) := by
  show decode prog_2_method_2_code 13 = _
  decide +kernel
theorem d29_0 (L : Nat) (xs : Nat → Int32) : decode (ax_code (mgT L xs) 29) 0 = .ok (.aload_n 0, 1) := by
  show decode prog_1_method_9_code 0 = _
  decide +kernel
theorem d29_1 (L : Nat) (xs : Nat → Int32) : decode (ax_code (mgT L xs) 29) 1 = .ok (.getfield 21, 3) := by
  show decode prog_1_method_9_code 1 = _
  decide +kernel
theorem d29_4 (L : Nat) (xs : Nat → Int32) : decode (ax_code (mgT L xs) 29) 4 = .ok (.invokevirtual 110, 3) := by
  show decode prog_1_method_9_code 4 = _
  decide +kernel
theorem d29_7 (L : Nat) (xs : Nat → Int32) : decode (ax_code (mgT L xs) 29) 7 = .ok (.astore_n 2, 1) := by
  show decode prog_1_method_9_code 7 = _
  decide +kernel
theorem d29_8 (L : Nat) (xs : Nat → Int32) : decode (ax_code (mgT L xs) 29) 8 = .ok (.aload_n 2, 1) := by
  show decode prog_1_method_9_code 8 = _
  decide +kernel
theorem d29_9 (L : Nat) (xs : Nat → Int32) : decode (ax_code (mgT L xs) 29) 9 = .ok (.invokevirtual 47, 3) := by
  show decode prog_1_method_9_code 9 = _
  decide +kernel
theorem d29_12 (L : Nat) (xs : Nat → Int32) : decode (ax_code (mgT L xs) 29) 12 = .ok (.ifCond .ne 5, 3) := by
  show decode prog_1_method_9_code 12 = _
  decide +kernel
theorem d29_15 (L : Nat) (xs : Nat → Int32) : decode (ax_code (mgT L xs) 29) 15 = .ok (.iconst (-1), 1) := by
  show decode prog_1_method_9_code 15 = _
  decide +kernel
theorem d29_16 (L : Nat) (xs : Nat → Int32) : decode (ax_code (mgT L xs) 29) 16 = .ok (.ireturn, 1) := by
  show decode prog_1_method_9_code 16 = _
  decide +kernel
theorem d30_0 (L : Nat) (xs : Nat → Int32) : decode (ax_code (mgT L xs) 30) 0 = .ok (.aload_n 0, 1) := by
  show decode prog_7_method_4_code 0 = _
  decide +kernel
theorem d30_1 (L : Nat) (xs : Nat → Int32) : decode (ax_code (mgT L xs) 30) 1 = .ok (.getfield 22, 3) := by
  show decode prog_7_method_4_code 1 = _
  decide +kernel
theorem d30_4 (L : Nat) (xs : Nat → Int32) : decode (ax_code (mgT L xs) 30) 4 = .ok (.areturn, 1) := by
  show decode prog_7_method_4_code 4 = _
  decide +kernel
theorem d32_0 (L : Nat) (xs : Nat → Int32) : decode (ax_code (mgT L xs) 32) 0 = .ok (.iload_n 1, 1) := by
  show decode prog_1_method_11_code 0 = _
  decide +kernel
theorem d32_1 (L : Nat) (xs : Nat → Int32) : decode (ax_code (mgT L xs) 32) 1 = .ok (.iconst (-1), 1) := by
  show decode prog_1_method_11_code 1 = _
  decide +kernel
theorem d32_2 (L : Nat) (xs : Nat → Int32) : decode (ax_code (mgT L xs) 32) 2 = .ok (.if_icmp .ne 11, 3) := by
  show decode prog_1_method_11_code 2 = _
  decide +kernel
theorem d32_5 (L : Nat) (xs : Nat → Int32) : decode (ax_code (mgT L xs) 32) 5 = .ok (.aload_n 0, 1) := by
  show decode prog_1_method_11_code 5 = _
  decide +kernel
theorem d32_6 (L : Nat) (xs : Nat → Int32) : decode (ax_code (mgT L xs) 32) 6 = .ok (.getfield 21, 3) := by
  show decode prog_1_method_11_code 6 = _
  decide +kernel
theorem d32_9 (L : Nat) (xs : Nat → Int32) : decode (ax_code (mgT L xs) 32) 9 = .ok (.invokevirtual 65, 3) := by
  show decode prog_1_method_11_code 9 = _
  decide +kernel
theorem d32_12 (L : Nat) (xs : Nat → Int32) : decode (ax_code (mgT L xs) 32) 12 = .ok (.ireturn, 1) := by
  show decode prog_1_method_11_code 12 = _
  decide +kernel
theorem d32_13 (L : Nat) (xs : Nat → Int32) : decode (ax_code (mgT L xs) 32) 13 = .ok (.aload_n 0, 1) := by
  show decode prog_1_method_11_code 13 = _
  decide +kernel
theorem d32_14 (L : Nat) (xs : Nat → Int32) : decode (ax_code (mgT L xs) 32) 14 = .ok (.getfield 21, 3) := by
  show decode prog_1_method_11_code 14 = _
  decide +kernel
theorem d32_17 (L : Nat) (xs : Nat → Int32) : decode (ax_code (mgT L xs) 32) 17 = .ok (.iload_n 1, 1) := by
  show decode prog_1_method_11_code 17 = _
  decide +kernel
theorem d32_18 (L : Nat) (xs : Nat → Int32) : decode (ax_code (mgT L xs) 32) 18 = .ok (.invokevirtual 122, 3) := by
  show decode prog_1_method_11_code 18 = _
  decide +kernel
theorem d32_21 (L : Nat) (xs : Nat → Int32) : decode (ax_code (mgT L xs) 32) 21 = .ok (.astore_n 2, 1) := by
  show decode prog_1_method_11_code 21 = _
  decide +kernel
theorem d32_22 (L : Nat) (xs : Nat → Int32) : decode (ax_code (mgT L xs) 32) 22 = .ok (.aload_n 2, 1) := by
  show decode prog_1_method_11_code 22 = _
  decide +kernel
theorem d32_23 (L : Nat) (xs : Nat → Int32) : decode (ax_code (mgT L xs) 32) 23 = .ok (.ifnonnull 7, 3) := by
  show decode prog_1_method_11_code 23 = _
  decide +kernel
theorem d32_26 (L : Nat) (xs : Nat → Int32) : decode (ax_code (mgT L xs) 32) 26 = .ok (.iconst (-1), 1) := by
  show decode prog_1_method_11_code 26 = _
  decide +kernel
theorem d32_27 (L : Nat) (xs : Nat → Int32) : decode (ax_code (mgT L xs) 32) 27 = .ok (.goto 7, 3) := by
  show decode prog_1_method_11_code 27 = _
  decide +kernel
theorem d32_34 (L : Nat) (xs : Nat → Int32) : decode (ax_code (mgT L xs) 32) 34 = .ok (.ireturn, 1) := by
  show decode prog_1_method_11_code 34 = _
  decide +kernel
theorem d33_0 (L : Nat) (xs : Nat → Int32) : decode (ax_code (mgT L xs) 33) 0 = .ok (.aload_n 0, 1) := by
  show decode prog_7_method_2_code 0 = _
  decide +kernel
theorem d33_1 (L : Nat) (xs : Nat → Int32) : decode (ax_code (mgT L xs) 33) 1 = .ok (.getfield 27, 3) := by
  show decode prog_7_method_2_code 1 = _
  decide +kernel
theorem d33_4 (L : Nat) (xs : Nat → Int32) : decode (ax_code (mgT L xs) 33) 4 = .ok (.ireturn, 1) := by
  show decode prog_7_method_2_code 4 = _
  decide +kernel
theorem d34_0 (L : Nat) (xs : Nat → Int32) : decode (ax_code (mgT L xs) 34) 0 = .ok (.iload_n 1, 1) := by
  show decode prog_7_method_3_code 0 = _
  decide +kernel
theorem d34_1 (L : Nat) (xs : Nat → Int32) : decode (ax_code (mgT L xs) 34) 1 = .ok (.ifCond .lt 20, 3) := by
  show decode prog_7_method_3_code 1 = _
  decide +kernel
theorem d34_4 (L : Nat) (xs : Nat → Int32) : decode (ax_code (mgT L xs) 34) 4 = .ok (.iload_n 1, 1) := by
  show decode prog_7_method_3_code 4 = _
  decide +kernel
theorem d34_5 (L : Nat) (xs : Nat → Int32) : decode (ax_code (mgT L xs) 34) 5 = .ok (.aload_n 0, 1) := by
  show decode prog_7_method_3_code 5 = _
  decide +kernel
theorem d34_6 (L : Nat) (xs : Nat → Int32) : decode (ax_code (mgT L xs) 34) 6 = .ok (.getfield 27, 3) := by
  show decode prog_7_method_3_code 6 = _
  decide +kernel
theorem d34_9 (L : Nat) (xs : Nat → Int32) : decode (ax_code (mgT L xs) 34) 9 = .ok (.if_icmp .ge 12, 3) := by
  show decode prog_7_method_3_code 9 = _
  decide +kernel
theorem d34_21 (L : Nat) (xs : Nat → Int32) : decode (ax_code (mgT L xs) 34) 21 = .ok (.aconst_null, 1) := by
  show decode prog_7_method_3_code 21 = _
  decide +kernel
theorem d34_22 (L : Nat) (xs : Nat → Int32) : decode (ax_code (mgT L xs) 34) 22 = .ok (.areturn, 1) := by
  show decode prog_7_method_3_code 22 = _
  decide +kernel
theorem d35_0 (L : Nat) (xs : Nat → Int32) : decode (ax_code (mgT L xs) 35) 0 = .ok (.aload_n 0, 1) := by
  show decode prog_1_method_5_code 0 = _
  decide +kernel
theorem d35_1 (L : Nat) (xs : Nat → Int32) : decode (ax_code (mgT L xs) 35) 1 = .ok (.iload_n 1, 1) := by
  show decode prog_1_method_5_code 1 = _
  decide +kernel
theorem d35_2 (L : Nat) (xs : Nat → Int32) : decode (ax_code (mgT L xs) 35) 2 = .ok (.invokevirtual 58, 3) := by
  show decode prog_1_method_5_code 2 = _
  decide +kernel
theorem d35_5 (L : Nat) (xs : Nat → Int32) : decode (ax_code (mgT L xs) 35) 5 = .ok (.ifCond .ne 11, 3) := by
  show decode prog_1_method_5_code 5 = _
  decide +kernel
theorem d35_8 (L : Nat) (xs : Nat → Int32) : decode (ax_code (mgT L xs) 35) 8 = .ok (.new 62, 3) := by
  show decode prog_1_method_5_code 8 = _
  decide +kernel
theorem d35_11 (L : Nat) (xs : Nat → Int32) : decode (ax_code (mgT L xs) 35) 11 = .ok (.dup, 1) := by
  show decode prog_1_method_5_code 11 = _
  decide +kernel
theorem d35_12 (L : Nat) (xs : Nat → Int32) : decode (ax_code (mgT L xs) 35) 12 = .ok (.invokespecial 64, 3) := by
  show decode prog_1_method_5_code 12 = _
  decide +kernel
theorem d35_15 (L : Nat) (xs : Nat → Int32) : decode (ax_code (mgT L xs) 35) 15 = .ok (.athrow, 1) := by
  show decode prog_1_method_5_code 15 = _
  decide +kernel
theorem d36_0 (L : Nat) (xs : Nat → Int32) : decode (ax_code (mgT L xs) 36) 0 = .ok (.aload_n 0, 1) := by
  show decode prog_1_method_13_code 0 = _
  decide +kernel
theorem d36_1 (L : Nat) (xs : Nat → Int32) : decode (ax_code (mgT L xs) 36) 1 = .ok (.getfield 14, 3) := by
  show decode prog_1_method_13_code 1 = _
  decide +kernel
theorem d36_4 (L : Nat) (xs : Nat → Int32) : decode (ax_code (mgT L xs) 36) 4 = .ok (.bipush 32, 2) := by
  show decode prog_1_method_13_code 4 = _
  decide +kernel
theorem d36_6 (L : Nat) (xs : Nat → Int32) : decode (ax_code (mgT L xs) 36) 6 = .ok (.iconst 0, 1) := by
  show decode prog_1_method_13_code 6 = _
  decide +kernel
theorem d36_7 (L : Nat) (xs : Nat → Int32) : decode (ax_code (mgT L xs) 36) 7 = .ok (.aload_n 0, 1) := by
  show decode prog_1_method_13_code 7 = _
  decide +kernel
theorem d36_8 (L : Nat) (xs : Nat → Int32) : decode (ax_code (mgT L xs) 36) 8 = .ok (.getfield 14, 3) := by
  show decode prog_1_method_13_code 8 = _
  decide +kernel
theorem d36_11 (L : Nat) (xs : Nat → Int32) : decode (ax_code (mgT L xs) 36) 11 = .ok (.invokevirtual 47, 3) := by
  show decode prog_1_method_13_code 11 = _
  decide +kernel
theorem d36_14 (L : Nat) (xs : Nat → Int32) : decode (ax_code (mgT L xs) 36) 14 = .ok (.invokevirtual 131, 3) := by
  show decode prog_1_method_13_code 14 = _
  decide +kernel
theorem d36_17 (L : Nat) (xs : Nat → Int32) : decode (ax_code (mgT L xs) 36) 17 = .ok (.istore_n 2, 1) := by
  show decode prog_1_method_13_code 17 = _
  decide +kernel
theorem d36_18 (L : Nat) (xs : Nat → Int32) : decode (ax_code (mgT L xs) 36) 18 = .ok (.aload_n 0, 1) := by
  show decode prog_1_method_13_code 18 = _
  decide +kernel
theorem d36_19 (L : Nat) (xs : Nat → Int32) : decode (ax_code (mgT L xs) 36) 19 = .ok (.getfield 14, 3) := by
  show decode prog_1_method_13_code 19 = _
  decide +kernel
theorem d36_22 (L : Nat) (xs : Nat → Int32) : decode (ax_code (mgT L xs) 36) 22 = .ok (.iconst 0, 1) := by
  show decode prog_1_method_13_code 22 = _
  decide +kernel
theorem d36_23 (L : Nat) (xs : Nat → Int32) : decode (ax_code (mgT L xs) 36) 23 = .ok (.iload_n 2, 1) := by
  show decode prog_1_method_13_code 23 = _
  decide +kernel
theorem d36_24 (L : Nat) (xs : Nat → Int32) : decode (ax_code (mgT L xs) 36) 24 = .ok (.invokevirtual 135, 3) := by
  show decode prog_1_method_13_code 24 = _
  decide +kernel
theorem d36_27 (L : Nat) (xs : Nat → Int32) : decode (ax_code (mgT L xs) 36) 27 = .ok (.ifCond .ne 5, 3) := by
  show decode prog_1_method_13_code 27 = _
  decide +kernel
theorem d36_30 (L : Nat) (xs : Nat → Int32) : decode (ax_code (mgT L xs) 36) 30 = .ok (.iconst 0, 1) := by
  show decode prog_1_method_13_code 30 = _
  decide +kernel
theorem d36_31 (L : Nat) (xs : Nat → Int32) : decode (ax_code (mgT L xs) 36) 31 = .ok (.ireturn, 1) := by
  show decode prog_1_method_13_code 31 = _
  decide +kernel
theorem d37_0 (L : Nat) (xs : Nat → Int32) : decode (ax_code (mgT L xs) 37) 0 = .ok (.iload_n 2, 1) := by
  show decode prog_9_method_17_code 0 = _
  decide +kernel
theorem d37_1 (L : Nat) (xs : Nat → Int32) : decode (ax_code (mgT L xs) 37) 1 = .ok (.istore 4, 2) := by
  show decode prog_9_method_17_code 1 = _
  decide +kernel
theorem d37_3 (L : Nat) (xs : Nat → Int32) : decode (ax_code (mgT L xs) 37) 3 = .ok (.iload 4, 2) := by
  show decode prog_9_method_17_code 3 = _
  decide +kernel
theorem d37_5 (L : Nat) (xs : Nat → Int32) : decode (ax_code (mgT L xs) 37) 5 = .ok (.iload_n 3, 1) := by
  show decode prog_9_method_17_code 5 = _
  decide +kernel
theorem d37_6 (L : Nat) (xs : Nat → Int32) : decode (ax_code (mgT L xs) 37) 6 = .ok (.if_icmp .ge 22, 3) := by
  show decode prog_9_method_17_code 6 = _
  decide +kernel
theorem d37_28 (L : Nat) (xs : Nat → Int32) : decode (ax_code (mgT L xs) 37) 28 = .ok (.iload_n 3, 1) := by
  show decode prog_9_method_17_code 28 = _
  decide +kernel
theorem d37_29 (L : Nat) (xs : Nat → Int32) : decode (ax_code (mgT L xs) 37) 29 = .ok (.ireturn, 1) := by
  show decode prog_9_method_17_code 29 = _
  decide +kernel
theorem d38_0 (L : Nat) (xs : Nat → Int32) : decode (ax_code (mgT L xs) 38) 0 = .ok (.iload_n 2, 1) := by
  show decode prog_9_method_19_code 0 = _
  decide +kernel
theorem d38_1 (L : Nat) (xs : Nat → Int32) : decode (ax_code (mgT L xs) 38) 1 = .ok (.iload_n 1, 1) := by
  show decode prog_9_method_19_code 1 = _
  decide +kernel
theorem d38_2 (L : Nat) (xs : Nat → Int32) : decode (ax_code (mgT L xs) 38) 2 = .ok (.isub, 1) := by
  show decode prog_9_method_19_code 2 = _
  decide +kernel
theorem d38_3 (L : Nat) (xs : Nat → Int32) : decode (ax_code (mgT L xs) 38) 3 = .ok (.bipush 48, 2) := by
  show decode prog_9_method_19_code 3 = _
  decide +kernel
theorem d38_5 (L : Nat) (xs : Nat → Int32) : decode (ax_code (mgT L xs) 38) 5 = .ok (.if_icmp .le 5, 3) := by
  show decode prog_9_method_19_code 5 = _
  decide +kernel
theorem d38_10 (L : Nat) (xs : Nat → Int32) : decode (ax_code (mgT L xs) 38) 10 = .ok (.iconst 0, 1) := by
  show decode prog_9_method_19_code 10 = _
  decide +kernel
theorem d38_11 (L : Nat) (xs : Nat → Int32) : decode (ax_code (mgT L xs) 38) 11 = .ok (.istore_n 3, 1) := by
  show decode prog_9_method_19_code 11 = _
  decide +kernel
theorem d38_12 (L : Nat) (xs : Nat → Int32) : decode (ax_code (mgT L xs) 38) 12 = .ok (.iload_n 1, 1) := by
  show decode prog_9_method_19_code 12 = _
  decide +kernel
theorem d38_13 (L : Nat) (xs : Nat → Int32) : decode (ax_code (mgT L xs) 38) 13 = .ok (.istore 4, 2) := by
  show decode prog_9_method_19_code 13 = _
  decide +kernel
theorem d38_15 (L : Nat) (xs : Nat → Int32) : decode (ax_code (mgT L xs) 38) 15 = .ok (.iload 4, 2) := by
  show decode prog_9_method_19_code 15 = _
  decide +kernel
theorem d38_17 (L : Nat) (xs : Nat → Int32) : decode (ax_code (mgT L xs) 38) 17 = .ok (.iload_n 2, 1) := by
  show decode prog_9_method_19_code 17 = _
  decide +kernel
theorem d38_18 (L : Nat) (xs : Nat → Int32) : decode (ax_code (mgT L xs) 38) 18 = .ok (.if_icmp .ge 54, 3) := by
  show decode prog_9_method_19_code 18 = _
  decide +kernel
theorem d38_72 (L : Nat) (xs : Nat → Int32) : decode (ax_code (mgT L xs) 38) 72 = .ok (.iload_n 3, 1) := by
  show decode prog_9_method_19_code 72 = _
  decide +kernel
theorem d38_73 (L : Nat) (xs : Nat → Int32) : decode (ax_code (mgT L xs) 38) 73 = .ok (.ifCond .le 7, 3) := by
  show decode prog_9_method_19_code 73 = _
  decide +kernel
theorem d38_80 (L : Nat) (xs : Nat → Int32) : decode (ax_code (mgT L xs) 38) 80 = .ok (.iconst 0, 1) := by
  show decode prog_9_method_19_code 80 = _
  decide +kernel
theorem d38_81 (L : Nat) (xs : Nat → Int32) : decode (ax_code (mgT L xs) 38) 81 = .ok (.ireturn, 1) := by
  show decode prog_9_method_19_code 81 = _
  decide +kernel
theorem d45_0 (L : Nat) (xs : Nat → Int32) : decode (ax_code (mgT L xs) 45) 0 = .ok (.aload_n 0, 1) := by
  show decode prog_1_method_7_code 0 = _
  decide +kernel
theorem d45_1 (L : Nat) (xs : Nat → Int32) : decode (ax_code (mgT L xs) 45) 1 = .ok (.getfield 14, 3) := by
  show decode prog_1_method_7_code 1 = _
  decide +kernel
theorem d45_4 (L : Nat) (xs : Nat → Int32) : decode (ax_code (mgT L xs) 45) 4 = .ok (.invokevirtual 78, 3) := by
  show decode prog_1_method_7_code 4 = _
  decide +kernel
theorem d45_7 (L : Nat) (xs : Nat → Int32) : decode (ax_code (mgT L xs) 45) 7 = .ok (.ifCond .ne 11, 3) := by
  show decode prog_1_method_7_code 7 = _
  decide +kernel
theorem d45_10 (L : Nat) (xs : Nat → Int32) : decode (ax_code (mgT L xs) 45) 10 = .ok (.new 62, 3) := by
  show decode prog_1_method_7_code 10 = _
  decide +kernel
theorem d45_13 (L : Nat) (xs : Nat → Int32) : decode (ax_code (mgT L xs) 45) 13 = .ok (.dup, 1) := by
  show decode prog_1_method_7_code 13 = _
  decide +kernel
theorem d45_14 (L : Nat) (xs : Nat → Int32) : decode (ax_code (mgT L xs) 45) 14 = .ok (.invokespecial 64, 3) := by
  show decode prog_1_method_7_code 14 = _
  decide +kernel
theorem d45_17 (L : Nat) (xs : Nat → Int32) : decode (ax_code (mgT L xs) 45) 17 = .ok (.athrow, 1) := by
  show decode prog_1_method_7_code 17 = _
  decide +kernel
theorem d46_0 (L : Nat) (xs : Nat → Int32) : decode (ax_code (mgT L xs) 46) 0 = .ok (.aload_n 0, 1) := by
  show decode prog_9_method_18_code 0 = _
  decide +kernel
theorem d46_1 (L : Nat) (xs : Nat → Int32) : decode (ax_code (mgT L xs) 46) 1 = .ok (.iconst 0, 1) := by
  show decode prog_9_method_18_code 1 = _
  decide +kernel
theorem d46_2 (L : Nat) (xs : Nat → Int32) : decode (ax_code (mgT L xs) 46) 2 = .ok (.aload_n 0, 1) := by
  show decode prog_9_method_18_code 2 = _
  decide +kernel
theorem d46_3 (L : Nat) (xs : Nat → Int32) : decode (ax_code (mgT L xs) 46) 3 = .ok (.getfield 15, 3) := by
  show decode prog_9_method_18_code 3 = _
  decide +kernel
theorem d46_6 (L : Nat) (xs : Nat → Int32) : decode (ax_code (mgT L xs) 46) 6 = .ok (.invokevirtual 44, 3) := by
  show decode prog_9_method_18_code 6 = _
  decide +kernel
theorem d46_9 (L : Nat) (xs : Nat → Int32) : decode (ax_code (mgT L xs) 46) 9 = .ok (.ireturn, 1) := by
  show decode prog_9_method_18_code 9 = _
  decide +kernel
theorem d86_0 (L : Nat) (xs : Nat → Int32) : decode (ax_code (mgT L xs) 86) 0 = .ok (.aload_n 0, 1) := by
  show decode prog_1_method_10_code 0 = _
  decide +kernel
theorem d86_1 (L : Nat) (xs : Nat → Int32) : decode (ax_code (mgT L xs) 86) 1 = .ok (.getfield 14, 3) := by
  show decode prog_1_method_10_code 1 = _
  decide +kernel
theorem d86_4 (L : Nat) (xs : Nat → Int32) : decode (ax_code (mgT L xs) 86) 4 = .ok (.invokevirtual 78, 3) := by
  show decode prog_1_method_10_code 4 = _
  decide +kernel
theorem d86_7 (L : Nat) (xs : Nat → Int32) : decode (ax_code (mgT L xs) 86) 7 = .ok (.ifCond .eq 13, 3) := by
  show decode prog_1_method_10_code 7 = _
  decide +kernel
theorem d86_20 (L : Nat) (xs : Nat → Int32) : decode (ax_code (mgT L xs) 86) 20 = .ok (.new 62, 3) := by
  show decode prog_1_method_10_code 20 = _
  decide +kernel
theorem d86_23 (L : Nat) (xs : Nat → Int32) : decode (ax_code (mgT L xs) 86) 23 = .ok (.dup, 1) := by
  show decode prog_1_method_10_code 23 = _
  decide +kernel
theorem d86_24 (L : Nat) (xs : Nat → Int32) : decode (ax_code (mgT L xs) 86) 24 = .ok (.invokespecial 64, 3) := by
  show decode prog_1_method_10_code 24 = _
  decide +kernel
theorem d86_27 (L : Nat) (xs : Nat → Int32) : decode (ax_code (mgT L xs) 86) 27 = .ok (.athrow, 1) := by
  show decode prog_1_method_10_code 27 = _
  decide +kernel
theorem d105_0 (L : Nat) (xs : Nat → Int32) : decode (ax_code (mgT L xs) 105) 0 = .ok (.aload_n 0, 1) := by
  show decode prog_11_method_2_code 0 = _
  decide +kernel
theorem d105_1 (L : Nat) (xs : Nat → Int32) : decode (ax_code (mgT L xs) 105) 1 = .ok (.getfield 82, 3) := by
  show decode prog_11_method_2_code 1 = _
  decide +kernel
theorem d105_4 (L : Nat) (xs : Nat → Int32) : decode (ax_code (mgT L xs) 105) 4 = .ok (.ireturn, 1) := by
  show decode prog_11_method_2_code 4 = _
  decide +kernel
theorem d106_0 (L : Nat) (xs : Nat → Int32) : decode (ax_code (mgT L xs) 106) 0 = .ok (.aload_n 0, 1) := by
  show decode prog_11_method_3_code 0 = _
  decide +kernel
theorem d106_1 (L : Nat) (xs : Nat → Int32) : decode (ax_code (mgT L xs) 106) 1 = .ok (.iconst 0, 1) := by
  show decode prog_11_method_3_code 1 = _
  decide +kernel
theorem d106_2 (L : Nat) (xs : Nat → Int32) : decode (ax_code (mgT L xs) 106) 2 = .ok (.putfield 82, 3) := by
  show decode prog_11_method_3_code 2 = _
  decide +kernel
theorem d106_5 (L : Nat) (xs : Nat → Int32) : decode (ax_code (mgT L xs) 106) 5 = .ok (.aload_n 0, 1) := by
  show decode prog_11_method_3_code 5 = _
  decide +kernel
theorem d106_6 (L : Nat) (xs : Nat → Int32) : decode (ax_code (mgT L xs) 106) 6 = .ok (.getfield 86, 3) := by
  show decode prog_11_method_3_code 6 = _
  decide +kernel
theorem d106_9 (L : Nat) (xs : Nat → Int32) : decode (ax_code (mgT L xs) 106) 9 = .ok (.istore_n 3, 1) := by
  show decode prog_11_method_3_code 9 = _
  decide +kernel
theorem d106_10 (L : Nat) (xs : Nat → Int32) : decode (ax_code (mgT L xs) 106) 10 = .ok (.bipush 7, 2) := by
  show decode prog_11_method_3_code 10 = _
  decide +kernel
theorem d106_12 (L : Nat) (xs : Nat → Int32) : decode (ax_code (mgT L xs) 106) 12 = .ok (.istore 4, 2) := by
  show decode prog_11_method_3_code 12 = _
  decide +kernel
theorem d106_14 (L : Nat) (xs : Nat → Int32) : decode (ax_code (mgT L xs) 106) 14 = .ok (.iload 4, 2) := by
  show decode prog_11_method_3_code 14 = _
  decide +kernel
theorem d106_16 (L : Nat) (xs : Nat → Int32) : decode (ax_code (mgT L xs) 106) 16 = .ok (.ifCond .lt 66, 3) := by
  show decode prog_11_method_3_code 16 = _
  decide +kernel
theorem d106_19 (L : Nat) (xs : Nat → Int32) : decode (ax_code (mgT L xs) 106) 19 = .ok (.lload_n 1, 1) := by
  show decode prog_11_method_3_code 19 = _
  decide +kernel
theorem d106_20 (L : Nat) (xs : Nat → Int32) : decode (ax_code (mgT L xs) 106) 20 = .ok (.bipush 8, 2) := by
  show decode prog_11_method_3_code 20 = _
  decide +kernel
theorem d106_22 (L : Nat) (xs : Nat → Int32) : decode (ax_code (mgT L xs) 106) 22 = .ok (.iload 4, 2) := by
  show decode prog_11_method_3_code 22 = _
  decide +kernel
theorem d106_24 (L : Nat) (xs : Nat → Int32) : decode (ax_code (mgT L xs) 106) 24 = .ok (.imul, 1) := by
  show decode prog_11_method_3_code 24 = _
  decide +kernel
theorem d106_25 (L : Nat) (xs : Nat → Int32) : decode (ax_code (mgT L xs) 106) 25 = .ok (.lshr, 1) := by
  show decode prog_11_method_3_code 25 = _
  decide +kernel
theorem d106_26 (L : Nat) (xs : Nat → Int32) : decode (ax_code (mgT L xs) 106) 26 = .ok (.l2i, 1) := by
  show decode prog_11_method_3_code 26 = _
  decide +kernel
theorem d106_27 (L : Nat) (xs : Nat → Int32) : decode (ax_code (mgT L xs) 106) 27 = .ok (.sipush 255, 3) := by
  show decode prog_11_method_3_code 27 = _
  decide +kernel
theorem d106_30 (L : Nat) (xs : Nat → Int32) : decode (ax_code (mgT L xs) 106) 30 = .ok (.iand, 1) := by
  show decode prog_11_method_3_code 30 = _
  decide +kernel
theorem d106_31 (L : Nat) (xs : Nat → Int32) : decode (ax_code (mgT L xs) 106) 31 = .ok (.istore 5, 2) := by
  show decode prog_11_method_3_code 31 = _
  decide +kernel
theorem d106_33 (L : Nat) (xs : Nat → Int32) : decode (ax_code (mgT L xs) 106) 33 = .ok (.iload 5, 2) := by
  show decode prog_11_method_3_code 33 = _
  decide +kernel
theorem d106_35 (L : Nat) (xs : Nat → Int32) : decode (ax_code (mgT L xs) 106) 35 = .ok (.ifCond .eq 25, 3) := by
  show decode prog_11_method_3_code 35 = _
  decide +kernel
theorem d106_38 (L : Nat) (xs : Nat → Int32) : decode (ax_code (mgT L xs) 106) 38 = .ok (.iload 5, 2) := by
  show decode prog_11_method_3_code 38 = _
  decide +kernel
theorem d106_40 (L : Nat) (xs : Nat → Int32) : decode (ax_code (mgT L xs) 106) 40 = .ok (.bipush 32, 2) := by
  show decode prog_11_method_3_code 40 = _
  decide +kernel
theorem d106_42 (L : Nat) (xs : Nat → Int32) : decode (ax_code (mgT L xs) 106) 42 = .ok (.if_icmp .lt 16, 3) := by
  show decode prog_11_method_3_code 42 = _
  decide +kernel
theorem d106_45 (L : Nat) (xs : Nat → Int32) : decode (ax_code (mgT L xs) 106) 45 = .ok (.iload 5, 2) := by
  show decode prog_11_method_3_code 45 = _
  decide +kernel
theorem d106_47 (L : Nat) (xs : Nat → Int32) : decode (ax_code (mgT L xs) 106) 47 = .ok (.bipush 126, 2) := by
  show decode prog_11_method_3_code 47 = _
  decide +kernel
theorem d106_49 (L : Nat) (xs : Nat → Int32) : decode (ax_code (mgT L xs) 106) 49 = .ok (.if_icmp .gt 9, 3) := by
  show decode prog_11_method_3_code 49 = _
  decide +kernel
theorem d106_52 (L : Nat) (xs : Nat → Int32) : decode (ax_code (mgT L xs) 106) 52 = .ok (.iload_n 3, 1) := by
  show decode prog_11_method_3_code 52 = _
  decide +kernel
theorem d106_53 (L : Nat) (xs : Nat → Int32) : decode (ax_code (mgT L xs) 106) 53 = .ok (.bipush 100, 2) := by
  show decode prog_11_method_3_code 53 = _
  decide +kernel
theorem d106_55 (L : Nat) (xs : Nat → Int32) : decode (ax_code (mgT L xs) 106) 55 = .ok (.if_icmp .ne 5, 3) := by
  show decode prog_11_method_3_code 55 = _
  decide +kernel
theorem d106_58 (L : Nat) (xs : Nat → Int32) : decode (ax_code (mgT L xs) 106) 58 = .ok (.iconst 0, 1) := by
  show decode prog_11_method_3_code 58 = _
  decide +kernel
theorem d106_59 (L : Nat) (xs : Nat → Int32) : decode (ax_code (mgT L xs) 106) 59 = .ok (.ireturn, 1) := by
  show decode prog_11_method_3_code 59 = _
  decide +kernel
theorem d106_60 (L : Nat) (xs : Nat → Int32) : decode (ax_code (mgT L xs) 106) 60 = .ok (.iload 5, 2) := by
  show decode prog_11_method_3_code 60 = _
  decide +kernel
theorem d106_62 (L : Nat) (xs : Nat → Int32) : decode (ax_code (mgT L xs) 106) 62 = .ok (.ifCond .eq 14, 3) := by
  show decode prog_11_method_3_code 62 = _
  decide +kernel
theorem d106_65 (L : Nat) (xs : Nat → Int32) : decode (ax_code (mgT L xs) 106) 65 = .ok (.aload_n 0, 1) := by
  show decode prog_11_method_3_code 65 = _
  decide +kernel
theorem d106_66 (L : Nat) (xs : Nat → Int32) : decode (ax_code (mgT L xs) 106) 66 = .ok (.getfield 7, 3) := by
  show decode prog_11_method_3_code 66 = _
  decide +kernel
theorem d106_69 (L : Nat) (xs : Nat → Int32) : decode (ax_code (mgT L xs) 106) 69 = .ok (.iload_n 3, 1) := by
  show decode prog_11_method_3_code 69 = _
  decide +kernel
theorem d106_70 (L : Nat) (xs : Nat → Int32) : decode (ax_code (mgT L xs) 106) 70 = .ok (.iload 5, 2) := by
  show decode prog_11_method_3_code 70 = _
  decide +kernel
theorem d106_72 (L : Nat) (xs : Nat → Int32) : decode (ax_code (mgT L xs) 106) 72 = .ok (.iastore, 1) := by
  show decode prog_11_method_3_code 72 = _
  decide +kernel
theorem d106_73 (L : Nat) (xs : Nat → Int32) : decode (ax_code (mgT L xs) 106) 73 = .ok (.iinc 3 1, 3) := by
  show decode prog_11_method_3_code 73 = _
  decide +kernel
theorem d106_76 (L : Nat) (xs : Nat → Int32) : decode (ax_code (mgT L xs) 106) 76 = .ok (.iinc 4 (-1), 3) := by
  show decode prog_11_method_3_code 76 = _
  decide +kernel
theorem d106_79 (L : Nat) (xs : Nat → Int32) : decode (ax_code (mgT L xs) 106) 79 = .ok (.goto (-65), 3) := by
  show decode prog_11_method_3_code 79 = _
  decide +kernel
theorem d106_82 (L : Nat) (xs : Nat → Int32) : decode (ax_code (mgT L xs) 106) 82 = .ok (.aload_n 0, 1) := by
  show decode prog_11_method_3_code 82 = _
  decide +kernel
theorem d106_83 (L : Nat) (xs : Nat → Int32) : decode (ax_code (mgT L xs) 106) 83 = .ok (.iload_n 3, 1) := by
  show decode prog_11_method_3_code 83 = _
  decide +kernel
theorem d106_84 (L : Nat) (xs : Nat → Int32) : decode (ax_code (mgT L xs) 106) 84 = .ok (.putfield 86, 3) := by
  show decode prog_11_method_3_code 84 = _
  decide +kernel
theorem d106_87 (L : Nat) (xs : Nat → Int32) : decode (ax_code (mgT L xs) 106) 87 = .ok (.iconst 1, 1) := by
  show decode prog_11_method_3_code 87 = _
  decide +kernel
theorem d106_88 (L : Nat) (xs : Nat → Int32) : decode (ax_code (mgT L xs) 106) 88 = .ok (.ireturn, 1) := by
  show decode prog_11_method_3_code 88 = _
  decide +kernel
theorem d107_0 (L : Nat) (xs : Nat → Int32) : decode (ax_code (mgT L xs) 107) 0 = .ok (.aload_n 0, 1) := by
  show decode prog_11_method_4_code 0 = _
  decide +kernel
theorem d107_1 (L : Nat) (xs : Nat → Int32) : decode (ax_code (mgT L xs) 107) 1 = .ok (.iconst 0, 1) := by
  show decode prog_11_method_4_code 1 = _
  decide +kernel
theorem d107_2 (L : Nat) (xs : Nat → Int32) : decode (ax_code (mgT L xs) 107) 2 = .ok (.putfield 82, 3) := by
  show decode prog_11_method_4_code 2 = _
  decide +kernel
theorem d107_5 (L : Nat) (xs : Nat → Int32) : decode (ax_code (mgT L xs) 107) 5 = .ok (.aload_n 0, 1) := by
  show decode prog_11_method_4_code 5 = _
  decide +kernel
theorem d107_6 (L : Nat) (xs : Nat → Int32) : decode (ax_code (mgT L xs) 107) 6 = .ok (.iconst 0, 1) := by
  show decode prog_11_method_4_code 6 = _
  decide +kernel
theorem d107_7 (L : Nat) (xs : Nat → Int32) : decode (ax_code (mgT L xs) 107) 7 = .ok (.putfield 86, 3) := by
  show decode prog_11_method_4_code 7 = _
  decide +kernel
theorem d107_10 (L : Nat) (xs : Nat → Int32) : decode (ax_code (mgT L xs) 107) 10 = .ok (.return_, 1) := by
  show decode prog_11_method_4_code 10 = _
  decide +kernel
theorem d108_0 (L : Nat) (xs : Nat → Int32) : decode (ax_code (mgT L xs) 108) 0 = .ok (.aload_n 0, 1) := by
  show decode prog_11_method_5_code 0 = _
  decide +kernel
theorem d108_1 (L : Nat) (xs : Nat → Int32) : decode (ax_code (mgT L xs) 108) 1 = .ok (.iconst 0, 1) := by
  show decode prog_11_method_5_code 1 = _
  decide +kernel
theorem d108_2 (L : Nat) (xs : Nat → Int32) : decode (ax_code (mgT L xs) 108) 2 = .ok (.putfield 82, 3) := by
  show decode prog_11_method_5_code 2 = _
  decide +kernel
theorem d108_5 (L : Nat) (xs : Nat → Int32) : decode (ax_code (mgT L xs) 108) 5 = .ok (.aload_n 0, 1) := by
  show decode prog_11_method_5_code 5 = _
  decide +kernel
theorem d108_6 (L : Nat) (xs : Nat → Int32) : decode (ax_code (mgT L xs) 108) 6 = .ok (.getfield 86, 3) := by
  show decode prog_11_method_5_code 6 = _
  decide +kernel
theorem d108_9 (L : Nat) (xs : Nat → Int32) : decode (ax_code (mgT L xs) 108) 9 = .ok (.ireturn, 1) := by
  show decode prog_11_method_5_code 9 = _
  decide +kernel
theorem d109_0 (L : Nat) (xs : Nat → Int32) : decode (ax_code (mgT L xs) 109) 0 = .ok (.aload_n 0, 1) := by
  show decode prog_11_method_11_code 0 = _
  decide +kernel
theorem d109_1 (L : Nat) (xs : Nat → Int32) : decode (ax_code (mgT L xs) 109) 1 = .ok (.iload_n 1, 1) := by
  show decode prog_11_method_11_code 1 = _
  decide +kernel
theorem d109_2 (L : Nat) (xs : Nat → Int32) : decode (ax_code (mgT L xs) 109) 2 = .ok (.ifCond .lt 8, 3) := by
  show decode prog_11_method_11_code 2 = _
  decide +kernel
theorem d109_5 (L : Nat) (xs : Nat → Int32) : decode (ax_code (mgT L xs) 109) 5 = .ok (.iload_n 1, 1) := by
  show decode prog_11_method_11_code 5 = _
  decide +kernel
theorem d109_6 (L : Nat) (xs : Nat → Int32) : decode (ax_code (mgT L xs) 109) 6 = .ok (.iconst 4, 1) := by
  show decode prog_11_method_11_code 6 = _
  decide +kernel
theorem d109_7 (L : Nat) (xs : Nat → Int32) : decode (ax_code (mgT L xs) 109) 7 = .ok (.if_icmp .le 7, 3) := by
  show decode prog_11_method_11_code 7 = _
  decide +kernel
theorem d109_10 (L : Nat) (xs : Nat → Int32) : decode (ax_code (mgT L xs) 109) 10 = .ok (.iconst 1, 1) := by
  show decode prog_11_method_11_code 10 = _
  decide +kernel
theorem d109_11 (L : Nat) (xs : Nat → Int32) : decode (ax_code (mgT L xs) 109) 11 = .ok (.goto 4, 3) := by
  show decode prog_11_method_11_code 11 = _
  decide +kernel
theorem d109_14 (L : Nat) (xs : Nat → Int32) : decode (ax_code (mgT L xs) 109) 14 = .ok (.iconst 0, 1) := by
  show decode prog_11_method_11_code 14 = _
  decide +kernel
theorem d109_15 (L : Nat) (xs : Nat → Int32) : decode (ax_code (mgT L xs) 109) 15 = .ok (.putfield 82, 3) := by
  show decode prog_11_method_11_code 15 = _
  decide +kernel
theorem d109_18 (L : Nat) (xs : Nat → Int32) : decode (ax_code (mgT L xs) 109) 18 = .ok (.aload_n 0, 1) := by
  show decode prog_11_method_11_code 18 = _
  decide +kernel
theorem d109_19 (L : Nat) (xs : Nat → Int32) : decode (ax_code (mgT L xs) 109) 19 = .ok (.getfield 82, 3) := by
  show decode prog_11_method_11_code 19 = _
  decide +kernel
theorem d109_22 (L : Nat) (xs : Nat → Int32) : decode (ax_code (mgT L xs) 109) 22 = .ok (.ifCond .le 5, 3) := by
  show decode prog_11_method_11_code 22 = _
  decide +kernel
theorem d109_25 (L : Nat) (xs : Nat → Int32) : decode (ax_code (mgT L xs) 109) 25 = .ok (.iconst 0, 1) := by
  show decode prog_11_method_11_code 25 = _
  decide +kernel
theorem d109_26 (L : Nat) (xs : Nat → Int32) : decode (ax_code (mgT L xs) 109) 26 = .ok (.ireturn, 1) := by
  show decode prog_11_method_11_code 26 = _
  decide +kernel
theorem d109_27 (L : Nat) (xs : Nat → Int32) : decode (ax_code (mgT L xs) 109) 27 = .ok (.iconst 0, 1) := by
  show decode prog_11_method_11_code 27 = _
  decide +kernel
theorem d109_28 (L : Nat) (xs : Nat → Int32) : decode (ax_code (mgT L xs) 109) 28 = .ok (.istore_n 2, 1) := by
  show decode prog_11_method_11_code 28 = _
  decide +kernel
theorem d109_29 (L : Nat) (xs : Nat → Int32) : decode (ax_code (mgT L xs) 109) 29 = .ok (.iload_n 2, 1) := by
  show decode prog_11_method_11_code 29 = _
  decide +kernel
theorem d109_30 (L : Nat) (xs : Nat → Int32) : decode (ax_code (mgT L xs) 109) 30 = .ok (.aload_n 0, 1) := by
  show decode prog_11_method_11_code 30 = _
  decide +kernel
theorem d109_31 (L : Nat) (xs : Nat → Int32) : decode (ax_code (mgT L xs) 109) 31 = .ok (.getfield 86, 3) := by
  show decode prog_11_method_11_code 31 = _
  decide +kernel
theorem d109_34 (L : Nat) (xs : Nat → Int32) : decode (ax_code (mgT L xs) 109) 34 = .ok (.if_icmp .ge 32, 3) := by
  show decode prog_11_method_11_code 34 = _
  decide +kernel
theorem d109_66 (L : Nat) (xs : Nat → Int32) : decode (ax_code (mgT L xs) 109) 66 = .ok (.aload_n 0, 1) := by
  show decode prog_11_method_11_code 66 = _
  decide +kernel
theorem d109_67 (L : Nat) (xs : Nat → Int32) : decode (ax_code (mgT L xs) 109) 67 = .ok (.getfield 7, 3) := by
  show decode prog_11_method_11_code 67 = _
  decide +kernel
theorem d109_70 (L : Nat) (xs : Nat → Int32) : decode (ax_code (mgT L xs) 109) 70 = .ok (.iconst 0, 1) := by
  show decode prog_11_method_11_code 70 = _
  decide +kernel
theorem d109_71 (L : Nat) (xs : Nat → Int32) : decode (ax_code (mgT L xs) 109) 71 = .ok (.iload_n 2, 1) := by
  show decode prog_11_method_11_code 71 = _
  decide +kernel
theorem d109_72 (L : Nat) (xs : Nat → Int32) : decode (ax_code (mgT L xs) 109) 72 = .ok (.invokestatic 103, 3) := by
  show decode prog_11_method_11_code 72 = _
  decide +kernel
theorem d109_75 (L : Nat) (xs : Nat → Int32) : decode (ax_code (mgT L xs) 109) 75 = .ok (.ifCond .eq 33, 3) := by
  show decode prog_11_method_11_code 75 = _
  decide +kernel
theorem d109_108 (L : Nat) (xs : Nat → Int32) : decode (ax_code (mgT L xs) 109) 108 = .ok (.iconst 0, 1) := by
  show decode prog_11_method_11_code 108 = _
  decide +kernel
theorem d109_109 (L : Nat) (xs : Nat → Int32) : decode (ax_code (mgT L xs) 109) 109 = .ok (.istore_n 3, 1) := by
  show decode prog_11_method_11_code 109 = _
  decide +kernel
theorem d109_110 (L : Nat) (xs : Nat → Int32) : decode (ax_code (mgT L xs) 109) 110 = .ok (.iconst 0, 1) := by
  show decode prog_11_method_11_code 110 = _
  decide +kernel
theorem d109_111 (L : Nat) (xs : Nat → Int32) : decode (ax_code (mgT L xs) 109) 111 = .ok (.istore 4, 2) := by
  show decode prog_11_method_11_code 111 = _
  decide +kernel
theorem d109_113 (L : Nat) (xs : Nat → Int32) : decode (ax_code (mgT L xs) 109) 113 = .ok (.iload_n 3, 1) := by
  show decode prog_11_method_11_code 113 = _
  decide +kernel
theorem d109_114 (L : Nat) (xs : Nat → Int32) : decode (ax_code (mgT L xs) 109) 114 = .ok (.ifCond .eq 44, 3) := by
  show decode prog_11_method_11_code 114 = _
  decide +kernel
theorem d109_158 (L : Nat) (xs : Nat → Int32) : decode (ax_code (mgT L xs) 109) 158 = .ok (.iload_n 3, 1) := by
  show decode prog_11_method_11_code 158 = _
  decide +kernel
theorem d109_159 (L : Nat) (xs : Nat → Int32) : decode (ax_code (mgT L xs) 109) 159 = .ok (.ifCond .eq 23, 3) := by
  show decode prog_11_method_11_code 159 = _
  decide +kernel
theorem d109_182 (L : Nat) (xs : Nat → Int32) : decode (ax_code (mgT L xs) 109) 182 = .ok (.aload_n 0, 1) := by
  show decode prog_11_method_11_code 182 = _
  decide +kernel
theorem d109_183 (L : Nat) (xs : Nat → Int32) : decode (ax_code (mgT L xs) 109) 183 = .ok (.iload_n 3, 1) := by
  show decode prog_11_method_11_code 183 = _
  decide +kernel
theorem d109_184 (L : Nat) (xs : Nat → Int32) : decode (ax_code (mgT L xs) 109) 184 = .ok (.ifCond .ne 7, 3) := by
  show decode prog_11_method_11_code 184 = _
  decide +kernel
theorem d109_187 (L : Nat) (xs : Nat → Int32) : decode (ax_code (mgT L xs) 109) 187 = .ok (.iconst 1, 1) := by
  show decode prog_11_method_11_code 187 = _
  decide +kernel
theorem d109_188 (L : Nat) (xs : Nat → Int32) : decode (ax_code (mgT L xs) 109) 188 = .ok (.goto 17, 3) := by
  show decode prog_11_method_11_code 188 = _
  decide +kernel
theorem d109_205 (L : Nat) (xs : Nat → Int32) : decode (ax_code (mgT L xs) 109) 205 = .ok (.putfield 82, 3) := by
  show decode prog_11_method_11_code 205 = _
  decide +kernel
theorem d109_208 (L : Nat) (xs : Nat → Int32) : decode (ax_code (mgT L xs) 109) 208 = .ok (.aload_n 0, 1) := by
  show decode prog_11_method_11_code 208 = _
  decide +kernel
theorem d109_209 (L : Nat) (xs : Nat → Int32) : decode (ax_code (mgT L xs) 109) 209 = .ok (.getfield 82, 3) := by
  show decode prog_11_method_11_code 209 = _
  decide +kernel
theorem d109_212 (L : Nat) (xs : Nat → Int32) : decode (ax_code (mgT L xs) 109) 212 = .ok (.ifCond .le 5, 3) := by
  show decode prog_11_method_11_code 212 = _
  decide +kernel
theorem d109_215 (L : Nat) (xs : Nat → Int32) : decode (ax_code (mgT L xs) 109) 215 = .ok (.iconst 0, 1) := by
  show decode prog_11_method_11_code 215 = _
  decide +kernel
theorem d109_216 (L : Nat) (xs : Nat → Int32) : decode (ax_code (mgT L xs) 109) 216 = .ok (.ireturn, 1) := by
  show decode prog_11_method_11_code 216 = _
  decide +kernel
theorem d110_0 (L : Nat) (xs : Nat → Int32) : decode (ax_code (mgT L xs) 110) 0 = .ok (.iload_n 2, 1) := by
  show decode prog_11_method_8_code 0 = _
  decide +kernel
theorem d110_1 (L : Nat) (xs : Nat → Int32) : decode (ax_code (mgT L xs) 110) 1 = .ok (.iload_n 1, 1) := by
  show decode prog_11_method_8_code 1 = _
  decide +kernel
theorem d110_2 (L : Nat) (xs : Nat → Int32) : decode (ax_code (mgT L xs) 110) 2 = .ok (.isub, 1) := by
  show decode prog_11_method_8_code 2 = _
  decide +kernel
theorem d110_3 (L : Nat) (xs : Nat → Int32) : decode (ax_code (mgT L xs) 110) 3 = .ok (.iconst 1, 1) := by
  show decode prog_11_method_8_code 3 = _
  decide +kernel
theorem d110_4 (L : Nat) (xs : Nat → Int32) : decode (ax_code (mgT L xs) 110) 4 = .ok (.if_icmp .lt 11, 3) := by
  show decode prog_11_method_8_code 4 = _
  decide +kernel
theorem d110_15 (L : Nat) (xs : Nat → Int32) : decode (ax_code (mgT L xs) 110) 15 = .ok (.iconst 0, 1) := by
  show decode prog_11_method_8_code 15 = _
  decide +kernel
theorem d110_16 (L : Nat) (xs : Nat → Int32) : decode (ax_code (mgT L xs) 110) 16 = .ok (.ireturn, 1) := by
  show decode prog_11_method_8_code 16 = _
  decide +kernel
theorem d115_0 (L : Nat) (xs : Nat → Int32) : decode (ax_code (mgT L xs) 115) 0 = .ok (.aload_n 0, 1) := by
  show decode prog_11_method_12_code 0 = _
  decide +kernel
theorem d115_1 (L : Nat) (xs : Nat → Int32) : decode (ax_code (mgT L xs) 115) 1 = .ok (.iconst 0, 1) := by
  show decode prog_11_method_12_code 1 = _
  decide +kernel
theorem d115_2 (L : Nat) (xs : Nat → Int32) : decode (ax_code (mgT L xs) 115) 2 = .ok (.putfield 82, 3) := by
  show decode prog_11_method_12_code 2 = _
  decide +kernel
theorem d115_5 (L : Nat) (xs : Nat → Int32) : decode (ax_code (mgT L xs) 115) 5 = .ok (.iload_n 1, 1) := by
  show decode prog_11_method_12_code 5 = _
  decide +kernel
theorem d115_6 (L : Nat) (xs : Nat → Int32) : decode (ax_code (mgT L xs) 115) 6 = .ok (.ifCond .lt 11, 3) := by
  show decode prog_11_method_12_code 6 = _
  decide +kernel
theorem d115_9 (L : Nat) (xs : Nat → Int32) : decode (ax_code (mgT L xs) 115) 9 = .ok (.iload_n 1, 1) := by
  show decode prog_11_method_12_code 9 = _
  decide +kernel
theorem d115_10 (L : Nat) (xs : Nat → Int32) : decode (ax_code (mgT L xs) 115) 10 = .ok (.aload_n 0, 1) := by
  show decode prog_11_method_12_code 10 = _
  decide +kernel
theorem d115_11 (L : Nat) (xs : Nat → Int32) : decode (ax_code (mgT L xs) 115) 11 = .ok (.getfield 111, 3) := by
  show decode prog_11_method_12_code 11 = _
  decide +kernel
theorem d115_14 (L : Nat) (xs : Nat → Int32) : decode (ax_code (mgT L xs) 115) 14 = .ok (.if_icmp .lt 5, 3) := by
  show decode prog_11_method_12_code 14 = _
  decide +kernel
theorem d115_17 (L : Nat) (xs : Nat → Int32) : decode (ax_code (mgT L xs) 115) 17 = .ok (.iconst 0, 1) := by
  show decode prog_11_method_12_code 17 = _
  decide +kernel
theorem d115_18 (L : Nat) (xs : Nat → Int32) : decode (ax_code (mgT L xs) 115) 18 = .ok (.ireturn, 1) := by
  show decode prog_11_method_12_code 18 = _
  decide +kernel
theorem d116_0 (L : Nat) (xs : Nat → Int32) : decode (ax_code (mgT L xs) 116) 0 = .ok (.aload_n 0, 1) := by
  show decode prog_11_method_49_code 0 = _
  decide +kernel
theorem d116_1 (L : Nat) (xs : Nat → Int32) : decode (ax_code (mgT L xs) 116) 1 = .ok (.aload_n 0, 1) := by
  show decode prog_11_method_49_code 1 = _
  decide +kernel
theorem d116_2 (L : Nat) (xs : Nat → Int32) : decode (ax_code (mgT L xs) 116) 2 = .ok (.getfield 7, 3) := by
  show decode prog_11_method_49_code 2 = _
  decide +kernel
theorem d116_5 (L : Nat) (xs : Nat → Int32) : decode (ax_code (mgT L xs) 116) 5 = .ok (.iconst 0, 1) := by
  show decode prog_11_method_49_code 5 = _
  decide +kernel
theorem d116_6 (L : Nat) (xs : Nat → Int32) : decode (ax_code (mgT L xs) 116) 6 = .ok (.aload_n 0, 1) := by
  show decode prog_11_method_49_code 6 = _
  decide +kernel
theorem d116_7 (L : Nat) (xs : Nat → Int32) : decode (ax_code (mgT L xs) 116) 7 = .ok (.getfield 86, 3) := by
  show decode prog_11_method_49_code 7 = _
  decide +kernel
theorem d116_10 (L : Nat) (xs : Nat → Int32) : decode (ax_code (mgT L xs) 116) 10 = .ok (.invokestatic 103, 3) := by
  show decode prog_11_method_49_code 10 = _
  decide +kernel
theorem d116_13 (L : Nat) (xs : Nat → Int32) : decode (ax_code (mgT L xs) 116) 13 = .ok (.ifCond .eq 7, 3) := by
  show decode prog_11_method_49_code 13 = _
  decide +kernel
theorem d116_20 (L : Nat) (xs : Nat → Int32) : decode (ax_code (mgT L xs) 116) 20 = .ok (.iconst 1, 1) := by
  show decode prog_11_method_49_code 20 = _
  decide +kernel
theorem d116_21 (L : Nat) (xs : Nat → Int32) : decode (ax_code (mgT L xs) 116) 21 = .ok (.putfield 82, 3) := by
  show decode prog_11_method_49_code 21 = _
  decide +kernel
theorem d116_24 (L : Nat) (xs : Nat → Int32) : decode (ax_code (mgT L xs) 116) 24 = .ok (.aload_n 0, 1) := by
  show decode prog_11_method_49_code 24 = _
  decide +kernel
theorem d116_25 (L : Nat) (xs : Nat → Int32) : decode (ax_code (mgT L xs) 116) 25 = .ok (.getfield 82, 3) := by
  show decode prog_11_method_49_code 25 = _
  decide +kernel
theorem d116_28 (L : Nat) (xs : Nat → Int32) : decode (ax_code (mgT L xs) 116) 28 = .ok (.ifCond .le 5, 3) := by
  show decode prog_11_method_49_code 28 = _
  decide +kernel
theorem d116_31 (L : Nat) (xs : Nat → Int32) : decode (ax_code (mgT L xs) 116) 31 = .ok (.iconst 0, 1) := by
  show decode prog_11_method_49_code 31 = _
  decide +kernel
theorem d116_32 (L : Nat) (xs : Nat → Int32) : decode (ax_code (mgT L xs) 116) 32 = .ok (.ireturn, 1) := by
  show decode prog_11_method_49_code 32 = _
  decide +kernel
theorem d153_0 (L : Nat) (xs : Nat → Int32) : decode (ax_code (mgT L xs) 153) 0 = .ok (.aload_n 0, 1) := by
  show decode prog_11_method_50_code 0 = _
  decide +kernel
theorem d153_1 (L : Nat) (xs : Nat → Int32) : decode (ax_code (mgT L xs) 153) 1 = .ok (.iconst 0, 1) := by
  show decode prog_11_method_50_code 1 = _
  decide +kernel
theorem d153_2 (L : Nat) (xs : Nat → Int32) : decode (ax_code (mgT L xs) 153) 2 = .ok (.putfield 82, 3) := by
  show decode prog_11_method_50_code 2 = _
  decide +kernel
theorem d153_5 (L : Nat) (xs : Nat → Int32) : decode (ax_code (mgT L xs) 153) 5 = .ok (.aload_n 0, 1) := by
  show decode prog_11_method_50_code 5 = _
  decide +kernel
theorem d153_6 (L : Nat) (xs : Nat → Int32) : decode (ax_code (mgT L xs) 153) 6 = .ok (.getfield 280, 3) := by
  show decode prog_11_method_50_code 6 = _
  decide +kernel
theorem d153_9 (L : Nat) (xs : Nat → Int32) : decode (ax_code (mgT L xs) 153) 9 = .ok (.ifCond .ne 5, 3) := by
  show decode prog_11_method_50_code 9 = _
  decide +kernel
theorem d153_12 (L : Nat) (xs : Nat → Int32) : decode (ax_code (mgT L xs) 153) 12 = .ok (.iconst (-1), 1) := by
  show decode prog_11_method_50_code 12 = _
  decide +kernel
theorem d153_13 (L : Nat) (xs : Nat → Int32) : decode (ax_code (mgT L xs) 153) 13 = .ok (.ireturn, 1) := by
  show decode prog_11_method_50_code 13 = _
  decide +kernel
theorem d154_0 (L : Nat) (xs : Nat → Int32) : decode (ax_code (mgT L xs) 154) 0 = .ok (.aload_n 0, 1) := by
  show decode prog_11_method_51_code 0 = _
  decide +kernel
theorem d154_1 (L : Nat) (xs : Nat → Int32) : decode (ax_code (mgT L xs) 154) 1 = .ok (.iconst 0, 1) := by
  show decode prog_11_method_51_code 1 = _
  decide +kernel
theorem d154_2 (L : Nat) (xs : Nat → Int32) : decode (ax_code (mgT L xs) 154) 2 = .ok (.putfield 82, 3) := by
  show decode prog_11_method_51_code 2 = _
  decide +kernel
theorem d154_5 (L : Nat) (xs : Nat → Int32) : decode (ax_code (mgT L xs) 154) 5 = .ok (.aload_n 0, 1) := by
  show decode prog_11_method_51_code 5 = _
  decide +kernel
theorem d154_6 (L : Nat) (xs : Nat → Int32) : decode (ax_code (mgT L xs) 154) 6 = .ok (.getfield 117, 3) := by
  show decode prog_11_method_51_code 6 = _
  decide +kernel
theorem d154_9 (L : Nat) (xs : Nat → Int32) : decode (ax_code (mgT L xs) 154) 9 = .ok (.ifCond .ne 7, 3) := by
  show decode prog_11_method_51_code 9 = _
  decide +kernel
theorem d154_12 (L : Nat) (xs : Nat → Int32) : decode (ax_code (mgT L xs) 154) 12 = .ok (.iconst (-1), 1) := by
  show decode prog_11_method_51_code 12 = _
  decide +kernel
theorem d154_13 (L : Nat) (xs : Nat → Int32) : decode (ax_code (mgT L xs) 154) 13 = .ok (.goto 37, 3) := by
  show decode prog_11_method_51_code 13 = _
  decide +kernel
theorem d154_50 (L : Nat) (xs : Nat → Int32) : decode (ax_code (mgT L xs) 154) 50 = .ok (.ireturn, 1) := by
  show decode prog_11_method_51_code 50 = _
  decide +kernel
theorem d155_0 (L : Nat) (xs : Nat → Int32) : decode (ax_code (mgT L xs) 155) 0 = .ok (.aload_n 0, 1) := by
  show decode prog_11_method_59_code 0 = _
  decide +kernel
theorem d155_1 (L : Nat) (xs : Nat → Int32) : decode (ax_code (mgT L xs) 155) 1 = .ok (.aload_n 0, 1) := by
  show decode prog_11_method_59_code 1 = _
  decide +kernel
theorem d155_2 (L : Nat) (xs : Nat → Int32) : decode (ax_code (mgT L xs) 155) 2 = .ok (.getfield 7, 3) := by
  show decode prog_11_method_59_code 2 = _
  decide +kernel
theorem d155_5 (L : Nat) (xs : Nat → Int32) : decode (ax_code (mgT L xs) 155) 5 = .ok (.iconst 0, 1) := by
  show decode prog_11_method_59_code 5 = _
  decide +kernel
theorem d155_6 (L : Nat) (xs : Nat → Int32) : decode (ax_code (mgT L xs) 155) 6 = .ok (.aload_n 0, 1) := by
  show decode prog_11_method_59_code 6 = _
  decide +kernel
theorem d155_7 (L : Nat) (xs : Nat → Int32) : decode (ax_code (mgT L xs) 155) 7 = .ok (.getfield 86, 3) := by
  show decode prog_11_method_59_code 7 = _
  decide +kernel
theorem d155_10 (L : Nat) (xs : Nat → Int32) : decode (ax_code (mgT L xs) 155) 10 = .ok (.invokestatic 103, 3) := by
  show decode prog_11_method_59_code 10 = _
  decide +kernel
theorem d155_13 (L : Nat) (xs : Nat → Int32) : decode (ax_code (mgT L xs) 155) 13 = .ok (.ifCond .eq 13, 3) := by
  show decode prog_11_method_59_code 13 = _
  decide +kernel
theorem d155_26 (L : Nat) (xs : Nat → Int32) : decode (ax_code (mgT L xs) 155) 26 = .ok (.iconst 1, 1) := by
  show decode prog_11_method_59_code 26 = _
  decide +kernel
theorem d155_27 (L : Nat) (xs : Nat → Int32) : decode (ax_code (mgT L xs) 155) 27 = .ok (.goto 15, 3) := by
  show decode prog_11_method_59_code 27 = _
  decide +kernel
theorem d155_42 (L : Nat) (xs : Nat → Int32) : decode (ax_code (mgT L xs) 155) 42 = .ok (.putfield 82, 3) := by
  show decode prog_11_method_59_code 42 = _
  decide +kernel
theorem d155_45 (L : Nat) (xs : Nat → Int32) : decode (ax_code (mgT L xs) 155) 45 = .ok (.aload_n 0, 1) := by
  show decode prog_11_method_59_code 45 = _
  decide +kernel
theorem d155_46 (L : Nat) (xs : Nat → Int32) : decode (ax_code (mgT L xs) 155) 46 = .ok (.getfield 82, 3) := by
  show decode prog_11_method_59_code 46 = _
  decide +kernel
theorem d155_49 (L : Nat) (xs : Nat → Int32) : decode (ax_code (mgT L xs) 155) 49 = .ok (.ifCond .le 5, 3) := by
  show decode prog_11_method_59_code 49 = _
  decide +kernel
theorem d155_52 (L : Nat) (xs : Nat → Int32) : decode (ax_code (mgT L xs) 155) 52 = .ok (.iconst 0, 1) := by
  show decode prog_11_method_59_code 52 = _
  decide +kernel
theorem d155_53 (L : Nat) (xs : Nat → Int32) : decode (ax_code (mgT L xs) 155) 53 = .ok (.ireturn, 1) := by
  show decode prog_11_method_59_code 53 = _
  decide +kernel
theorem d163_0 (L : Nat) (xs : Nat → Int32) : decode (ax_code (mgT L xs) 163) 0 = .ok (.aload_n 0, 1) := by
  show decode prog_11_method_60_code 0 = _
  decide +kernel
theorem d163_1 (L : Nat) (xs : Nat → Int32) : decode (ax_code (mgT L xs) 163) 1 = .ok (.iconst 0, 1) := by
  show decode prog_11_method_60_code 1 = _
  decide +kernel
theorem d163_2 (L : Nat) (xs : Nat → Int32) : decode (ax_code (mgT L xs) 163) 2 = .ok (.putfield 82, 3) := by
  show decode prog_11_method_60_code 2 = _
  decide +kernel
theorem d163_5 (L : Nat) (xs : Nat → Int32) : decode (ax_code (mgT L xs) 163) 5 = .ok (.iload_n 1, 1) := by
  show decode prog_11_method_60_code 5 = _
  decide +kernel
theorem d163_6 (L : Nat) (xs : Nat → Int32) : decode (ax_code (mgT L xs) 163) 6 = .ok (.iconst (-1), 1) := by
  show decode prog_11_method_60_code 6 = _
  decide +kernel
theorem d163_7 (L : Nat) (xs : Nat → Int32) : decode (ax_code (mgT L xs) 163) 7 = .ok (.if_icmp .ne 10, 3) := by
  show decode prog_11_method_60_code 7 = _
  decide +kernel
theorem d163_10 (L : Nat) (xs : Nat → Int32) : decode (ax_code (mgT L xs) 163) 10 = .ok (.aload_n 0, 1) := by
  show decode prog_11_method_60_code 10 = _
  decide +kernel
theorem d163_11 (L : Nat) (xs : Nat → Int32) : decode (ax_code (mgT L xs) 163) 11 = .ok (.getfield 111, 3) := by
  show decode prog_11_method_60_code 11 = _
  decide +kernel
theorem d163_14 (L : Nat) (xs : Nat → Int32) : decode (ax_code (mgT L xs) 163) 14 = .ok (.goto 25, 3) := by
  show decode prog_11_method_60_code 14 = _
  decide +kernel
theorem d163_17 (L : Nat) (xs : Nat → Int32) : decode (ax_code (mgT L xs) 163) 17 = .ok (.iload_n 1, 1) := by
  show decode prog_11_method_60_code 17 = _
  decide +kernel
theorem d163_18 (L : Nat) (xs : Nat → Int32) : decode (ax_code (mgT L xs) 163) 18 = .ok (.ifCond .lt 11, 3) := by
  show decode prog_11_method_60_code 18 = _
  decide +kernel
theorem d163_21 (L : Nat) (xs : Nat → Int32) : decode (ax_code (mgT L xs) 163) 21 = .ok (.iload_n 1, 1) := by
  show decode prog_11_method_60_code 21 = _
  decide +kernel
theorem d163_22 (L : Nat) (xs : Nat → Int32) : decode (ax_code (mgT L xs) 163) 22 = .ok (.aload_n 0, 1) := by
  show decode prog_11_method_60_code 22 = _
  decide +kernel
theorem d163_23 (L : Nat) (xs : Nat → Int32) : decode (ax_code (mgT L xs) 163) 23 = .ok (.getfield 111, 3) := by
  show decode prog_11_method_60_code 23 = _
  decide +kernel
theorem d163_26 (L : Nat) (xs : Nat → Int32) : decode (ax_code (mgT L xs) 163) 26 = .ok (.if_icmp .lt 7, 3) := by
  show decode prog_11_method_60_code 26 = _
  decide +kernel
theorem d163_29 (L : Nat) (xs : Nat → Int32) : decode (ax_code (mgT L xs) 163) 29 = .ok (.iconst (-1), 1) := by
  show decode prog_11_method_60_code 29 = _
  decide +kernel
theorem d163_30 (L : Nat) (xs : Nat → Int32) : decode (ax_code (mgT L xs) 163) 30 = .ok (.goto 9, 3) := by
  show decode prog_11_method_60_code 30 = _
  decide +kernel
theorem d163_39 (L : Nat) (xs : Nat → Int32) : decode (ax_code (mgT L xs) 163) 39 = .ok (.ireturn, 1) := by
  show decode prog_11_method_60_code 39 = _
  decide +kernel
