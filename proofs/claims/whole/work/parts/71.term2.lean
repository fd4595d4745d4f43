/-! terms: a mechanism, behind its sign -/
theorem d66_21 (L : Nat) (xs : Nat → Int32) : decode (ax_code (mgT L xs) 66) 21 = .ok (.aload_n 1, 1) := by
  show decode prog_8_method_7_code 21 = _
  decide +kernel
theorem d66_22 (L : Nat) (xs : Nat → Int32) : decode (ax_code (mgT L xs) 66) 22 = .ok (.bipush 47, 2) := by
  show decode prog_8_method_7_code 22 = _
  decide +kernel
theorem d66_24 (L : Nat) (xs : Nat → Int32) : decode (ax_code (mgT L xs) 66) 24 = .ok (.iload 4, 2) := by
  show decode prog_8_method_7_code 24 = _
  decide +kernel
theorem d66_26 (L : Nat) (xs : Nat → Int32) : decode (ax_code (mgT L xs) 66) 26 = .ok (.iload_n 3, 1) := by
  show decode prog_8_method_7_code 26 = _
  decide +kernel
theorem d66_27 (L : Nat) (xs : Nat → Int32) : decode (ax_code (mgT L xs) 66) 27 = .ok (.invokevirtual 62, 3) := by
  show decode prog_8_method_7_code 27 = _
  decide +kernel
theorem d66_30 (L : Nat) (xs : Nat → Int32) : decode (ax_code (mgT L xs) 66) 30 = .ok (.istore 5, 2) := by
  show decode prog_8_method_7_code 30 = _
  decide +kernel
theorem d66_32 (L : Nat) (xs : Nat → Int32) : decode (ax_code (mgT L xs) 66) 32 = .ok (.aload_n 1, 1) := by
  show decode prog_8_method_7_code 32 = _
  decide +kernel
theorem d66_33 (L : Nat) (xs : Nat → Int32) : decode (ax_code (mgT L xs) 66) 33 = .ok (.bipush 58, 2) := by
  show decode prog_8_method_7_code 33 = _
  decide +kernel
theorem d66_35 (L : Nat) (xs : Nat → Int32) : decode (ax_code (mgT L xs) 66) 35 = .ok (.iload 4, 2) := by
  show decode prog_8_method_7_code 35 = _
  decide +kernel
theorem d66_37 (L : Nat) (xs : Nat → Int32) : decode (ax_code (mgT L xs) 66) 37 = .ok (.iload 5, 2) := by
  show decode prog_8_method_7_code 37 = _
  decide +kernel
theorem d66_39 (L : Nat) (xs : Nat → Int32) : decode (ax_code (mgT L xs) 66) 39 = .ok (.invokevirtual 62, 3) := by
  show decode prog_8_method_7_code 39 = _
  decide +kernel
theorem d66_42 (L : Nat) (xs : Nat → Int32) : decode (ax_code (mgT L xs) 66) 42 = .ok (.istore 6, 2) := by
  show decode prog_8_method_7_code 42 = _
  decide +kernel
theorem d66_44 (L : Nat) (xs : Nat → Int32) : decode (ax_code (mgT L xs) 66) 44 = .ok (.iload 6, 2) := by
  show decode prog_8_method_7_code 44 = _
  decide +kernel
theorem d66_46 (L : Nat) (xs : Nat → Int32) : decode (ax_code (mgT L xs) 66) 46 = .ok (.iload 5, 2) := by
  show decode prog_8_method_7_code 46 = _
  decide +kernel
theorem d66_48 (L : Nat) (xs : Nat → Int32) : decode (ax_code (mgT L xs) 66) 48 = .ok (.if_icmp .ge 7, 3) := by
  show decode prog_8_method_7_code 48 = _
  decide +kernel
theorem d66_51 (L : Nat) (xs : Nat → Int32) : decode (ax_code (mgT L xs) 66) 51 = .ok (.iconst 1, 1) := by
  show decode prog_8_method_7_code 51 = _
  decide +kernel
theorem d66_52 (L : Nat) (xs : Nat → Int32) : decode (ax_code (mgT L xs) 66) 52 = .ok (.goto 4, 3) := by
  show decode prog_8_method_7_code 52 = _
  decide +kernel
theorem d66_55 (L : Nat) (xs : Nat → Int32) : decode (ax_code (mgT L xs) 66) 55 = .ok (.iconst 0, 1) := by
  show decode prog_8_method_7_code 55 = _
  decide +kernel
theorem d66_56 (L : Nat) (xs : Nat → Int32) : decode (ax_code (mgT L xs) 66) 56 = .ok (.istore 7, 2) := by
  show decode prog_8_method_7_code 56 = _
  decide +kernel
theorem d66_58 (L : Nat) (xs : Nat → Int32) : decode (ax_code (mgT L xs) 66) 58 = .ok (.iload 5, 2) := by
  show decode prog_8_method_7_code 58 = _
  decide +kernel
theorem d66_60 (L : Nat) (xs : Nat → Int32) : decode (ax_code (mgT L xs) 66) 60 = .ok (.iload_n 3, 1) := by
  show decode prog_8_method_7_code 60 = _
  decide +kernel
theorem d66_61 (L : Nat) (xs : Nat → Int32) : decode (ax_code (mgT L xs) 66) 61 = .ok (.if_icmp .ge 7, 3) := by
  show decode prog_8_method_7_code 61 = _
  decide +kernel
theorem d66_64 (L : Nat) (xs : Nat → Int32) : decode (ax_code (mgT L xs) 66) 64 = .ok (.iconst 1, 1) := by
  show decode prog_8_method_7_code 64 = _
  decide +kernel
theorem d66_65 (L : Nat) (xs : Nat → Int32) : decode (ax_code (mgT L xs) 66) 65 = .ok (.goto 4, 3) := by
  show decode prog_8_method_7_code 65 = _
  decide +kernel
theorem d66_68 (L : Nat) (xs : Nat → Int32) : decode (ax_code (mgT L xs) 66) 68 = .ok (.iconst 0, 1) := by
  show decode prog_8_method_7_code 68 = _
  decide +kernel
theorem d66_69 (L : Nat) (xs : Nat → Int32) : decode (ax_code (mgT L xs) 66) 69 = .ok (.istore 8, 2) := by
  show decode prog_8_method_7_code 69 = _
  decide +kernel
theorem d66_71 (L : Nat) (xs : Nat → Int32) : decode (ax_code (mgT L xs) 66) 71 = .ok (.aload_n 0, 1) := by
  show decode prog_8_method_7_code 71 = _
  decide +kernel
theorem d66_72 (L : Nat) (xs : Nat → Int32) : decode (ax_code (mgT L xs) 66) 72 = .ok (.aload_n 1, 1) := by
  show decode prog_8_method_7_code 72 = _
  decide +kernel
theorem d66_73 (L : Nat) (xs : Nat → Int32) : decode (ax_code (mgT L xs) 66) 73 = .ok (.iload 4, 2) := by
  show decode prog_8_method_7_code 73 = _
  decide +kernel
theorem d66_75 (L : Nat) (xs : Nat → Int32) : decode (ax_code (mgT L xs) 66) 75 = .ok (.iload 6, 2) := by
  show decode prog_8_method_7_code 75 = _
  decide +kernel
theorem d66_77 (L : Nat) (xs : Nat → Int32) : decode (ax_code (mgT L xs) 66) 77 = .ok (.invokestatic 66, 3) := by
  show decode prog_8_method_7_code 77 = _
  decide +kernel
theorem d66_80 (L : Nat) (xs : Nat → Int32) : decode (ax_code (mgT L xs) 66) 80 = .ok (.putfield 9, 3) := by
  show decode prog_8_method_7_code 80 = _
  decide +kernel
theorem d66_83 (L : Nat) (xs : Nat → Int32) : decode (ax_code (mgT L xs) 66) 83 = .ok (.aload_n 0, 1) := by
  show decode prog_8_method_7_code 83 = _
  decide +kernel
theorem d66_84 (L : Nat) (xs : Nat → Int32) : decode (ax_code (mgT L xs) 66) 84 = .ok (.iload 7, 2) := by
  show decode prog_8_method_7_code 84 = _
  decide +kernel
theorem d66_86 (L : Nat) (xs : Nat → Int32) : decode (ax_code (mgT L xs) 66) 86 = .ok (.ifCond .eq 10, 3) := by
  show decode prog_8_method_7_code 86 = _
  decide +kernel
theorem d66_89 (L : Nat) (xs : Nat → Int32) : decode (ax_code (mgT L xs) 66) 89 = .ok (.iload 6, 2) := by
  show decode prog_8_method_7_code 89 = _
  decide +kernel
theorem d66_91 (L : Nat) (xs : Nat → Int32) : decode (ax_code (mgT L xs) 66) 91 = .ok (.iconst 1, 1) := by
  show decode prog_8_method_7_code 91 = _
  decide +kernel
theorem d66_92 (L : Nat) (xs : Nat → Int32) : decode (ax_code (mgT L xs) 66) 92 = .ok (.iadd, 1) := by
  show decode prog_8_method_7_code 92 = _
  decide +kernel
theorem d66_93 (L : Nat) (xs : Nat → Int32) : decode (ax_code (mgT L xs) 66) 93 = .ok (.goto 5, 3) := by
  show decode prog_8_method_7_code 93 = _
  decide +kernel
theorem d66_96 (L : Nat) (xs : Nat → Int32) : decode (ax_code (mgT L xs) 66) 96 = .ok (.iload 5, 2) := by
  show decode prog_8_method_7_code 96 = _
  decide +kernel
theorem d66_98 (L : Nat) (xs : Nat → Int32) : decode (ax_code (mgT L xs) 66) 98 = .ok (.putfield 15, 3) := by
  show decode prog_8_method_7_code 98 = _
  decide +kernel
theorem d66_101 (L : Nat) (xs : Nat → Int32) : decode (ax_code (mgT L xs) 66) 101 = .ok (.aload_n 0, 1) := by
  show decode prog_8_method_7_code 101 = _
  decide +kernel
theorem d66_102 (L : Nat) (xs : Nat → Int32) : decode (ax_code (mgT L xs) 66) 102 = .ok (.iload 5, 2) := by
  show decode prog_8_method_7_code 102 = _
  decide +kernel
theorem d66_104 (L : Nat) (xs : Nat → Int32) : decode (ax_code (mgT L xs) 66) 104 = .ok (.putfield 18, 3) := by
  show decode prog_8_method_7_code 104 = _
  decide +kernel
theorem d66_107 (L : Nat) (xs : Nat → Int32) : decode (ax_code (mgT L xs) 66) 107 = .ok (.aload_n 0, 1) := by
  show decode prog_8_method_7_code 107 = _
  decide +kernel
theorem d66_108 (L : Nat) (xs : Nat → Int32) : decode (ax_code (mgT L xs) 66) 108 = .ok (.iload 8, 2) := by
  show decode prog_8_method_7_code 108 = _
  decide +kernel
theorem d66_110 (L : Nat) (xs : Nat → Int32) : decode (ax_code (mgT L xs) 66) 110 = .ok (.ifCond .eq 17, 3) := by
  show decode prog_8_method_7_code 110 = _
  decide +kernel
theorem d66_113 (L : Nat) (xs : Nat → Int32) : decode (ax_code (mgT L xs) 66) 113 = .ok (.aload_n 1, 1) := by
  show decode prog_8_method_7_code 113 = _
  decide +kernel
theorem d66_114 (L : Nat) (xs : Nat → Int32) : decode (ax_code (mgT L xs) 66) 114 = .ok (.iload 5, 2) := by
  show decode prog_8_method_7_code 114 = _
  decide +kernel
theorem d66_116 (L : Nat) (xs : Nat → Int32) : decode (ax_code (mgT L xs) 66) 116 = .ok (.iconst 1, 1) := by
  show decode prog_8_method_7_code 116 = _
  decide +kernel
theorem d66_117 (L : Nat) (xs : Nat → Int32) : decode (ax_code (mgT L xs) 66) 117 = .ok (.iadd, 1) := by
  show decode prog_8_method_7_code 117 = _
  decide +kernel
theorem d66_118 (L : Nat) (xs : Nat → Int32) : decode (ax_code (mgT L xs) 66) 118 = .ok (.iload_n 3, 1) := by
  show decode prog_8_method_7_code 118 = _
  decide +kernel
theorem d66_119 (L : Nat) (xs : Nat → Int32) : decode (ax_code (mgT L xs) 66) 119 = .ok (.bipush 32, 2) := by
  show decode prog_8_method_7_code 119 = _
  decide +kernel
theorem d66_121 (L : Nat) (xs : Nat → Int32) : decode (ax_code (mgT L xs) 66) 121 = .ok (.invokevirtual 69, 3) := by
  show decode prog_8_method_7_code 121 = _
  decide +kernel
theorem d66_124 (L : Nat) (xs : Nat → Int32) : decode (ax_code (mgT L xs) 66) 124 = .ok (.goto 5, 3) := by
  show decode prog_8_method_7_code 124 = _
  decide +kernel
theorem d66_127 (L : Nat) (xs : Nat → Int32) : decode (ax_code (mgT L xs) 66) 127 = .ok (.bipush 32, 2) := by
  show decode prog_8_method_7_code 127 = _
  decide +kernel
theorem d66_129 (L : Nat) (xs : Nat → Int32) : decode (ax_code (mgT L xs) 66) 129 = .ok (.putfield 73, 3) := by
  show decode prog_8_method_7_code 129 = _
  decide +kernel
theorem d66_132 (L : Nat) (xs : Nat → Int32) : decode (ax_code (mgT L xs) 66) 132 = .ok (.aload_n 0, 1) := by
  show decode prog_8_method_7_code 132 = _
  decide +kernel
theorem d66_133 (L : Nat) (xs : Nat → Int32) : decode (ax_code (mgT L xs) 66) 133 = .ok (.getfield 73, 3) := by
  show decode prog_8_method_7_code 133 = _
  decide +kernel
theorem d66_136 (L : Nat) (xs : Nat → Int32) : decode (ax_code (mgT L xs) 66) 136 = .ok (.iconst (-1), 1) := by
  show decode prog_8_method_7_code 136 = _
  decide +kernel
theorem d66_137 (L : Nat) (xs : Nat → Int32) : decode (ax_code (mgT L xs) 66) 137 = .ok (.if_icmp .ne 5, 3) := by
  show decode prog_8_method_7_code 137 = _
  decide +kernel
theorem d66_140 (L : Nat) (xs : Nat → Int32) : decode (ax_code (mgT L xs) 66) 140 = .ok (.iconst 0, 1) := by
  show decode prog_8_method_7_code 140 = _
  decide +kernel
theorem d66_141 (L : Nat) (xs : Nat → Int32) : decode (ax_code (mgT L xs) 66) 141 = .ok (.ireturn, 1) := by
  show decode prog_8_method_7_code 141 = _
  decide +kernel
theorem d66_142 (L : Nat) (xs : Nat → Int32) : decode (ax_code (mgT L xs) 66) 142 = .ok (.aload_n 0, 1) := by
  show decode prog_8_method_7_code 142 = _
  decide +kernel
theorem d66_143 (L : Nat) (xs : Nat → Int32) : decode (ax_code (mgT L xs) 66) 143 = .ok (.getfield 9, 3) := by
  show decode prog_8_method_7_code 143 = _
  decide +kernel
theorem d66_146 (L : Nat) (xs : Nat → Int32) : decode (ax_code (mgT L xs) 66) 146 = .ok (.tableswitch 123 0 5 #[38, 54, 80, 80, 106, 54], 38) := by
  show decode prog_8_method_7_code 146 = _
  decide +kernel
theorem d66_184 (L : Nat) (xs : Nat → Int32) : decode (ax_code (mgT L xs) 66) 184 = .ok (.iload 7, 2) := by
  show decode prog_8_method_7_code 184 = _
  decide +kernel
theorem d66_186 (L : Nat) (xs : Nat → Int32) : decode (ax_code (mgT L xs) 66) 186 = .ok (.ifCond .ne 12, 3) := by
  show decode prog_8_method_7_code 186 = _
  decide +kernel
theorem d66_189 (L : Nat) (xs : Nat → Int32) : decode (ax_code (mgT L xs) 66) 189 = .ok (.iload 8, 2) := by
  show decode prog_8_method_7_code 189 = _
  decide +kernel
theorem d66_191 (L : Nat) (xs : Nat → Int32) : decode (ax_code (mgT L xs) 66) 191 = .ok (.ifCond .ne 7, 3) := by
  show decode prog_8_method_7_code 191 = _
  decide +kernel
theorem d66_194 (L : Nat) (xs : Nat → Int32) : decode (ax_code (mgT L xs) 66) 194 = .ok (.iconst 1, 1) := by
  show decode prog_8_method_7_code 194 = _
  decide +kernel
theorem d66_195 (L : Nat) (xs : Nat → Int32) : decode (ax_code (mgT L xs) 66) 195 = .ok (.goto 4, 3) := by
  show decode prog_8_method_7_code 195 = _
  decide +kernel
theorem d66_198 (L : Nat) (xs : Nat → Int32) : decode (ax_code (mgT L xs) 66) 198 = .ok (.iconst 0, 1) := by
  show decode prog_8_method_7_code 198 = _
  decide +kernel
theorem d66_199 (L : Nat) (xs : Nat → Int32) : decode (ax_code (mgT L xs) 66) 199 = .ok (.ireturn, 1) := by
  show decode prog_8_method_7_code 199 = _
  decide +kernel
theorem d66_200 (L : Nat) (xs : Nat → Int32) : decode (ax_code (mgT L xs) 66) 200 = .ok (.iload 8, 2) := by
  show decode prog_8_method_7_code 200 = _
  decide +kernel
theorem d66_202 (L : Nat) (xs : Nat → Int32) : decode (ax_code (mgT L xs) 66) 202 = .ok (.ifCond .ne 22, 3) := by
  show decode prog_8_method_7_code 202 = _
  decide +kernel
theorem d66_205 (L : Nat) (xs : Nat → Int32) : decode (ax_code (mgT L xs) 66) 205 = .ok (.aload_n 1, 1) := by
  show decode prog_8_method_7_code 205 = _
  decide +kernel
theorem d66_206 (L : Nat) (xs : Nat → Int32) : decode (ax_code (mgT L xs) 66) 206 = .ok (.aload_n 0, 1) := by
  show decode prog_8_method_7_code 206 = _
  decide +kernel
theorem d66_207 (L : Nat) (xs : Nat → Int32) : decode (ax_code (mgT L xs) 66) 207 = .ok (.getfield 15, 3) := by
  show decode prog_8_method_7_code 207 = _
  decide +kernel
theorem d66_210 (L : Nat) (xs : Nat → Int32) : decode (ax_code (mgT L xs) 66) 210 = .ok (.aload_n 0, 1) := by
  show decode prog_8_method_7_code 210 = _
  decide +kernel
theorem d66_211 (L : Nat) (xs : Nat → Int32) : decode (ax_code (mgT L xs) 66) 211 = .ok (.getfield 18, 3) := by
  show decode prog_8_method_7_code 211 = _
  decide +kernel
theorem d66_214 (L : Nat) (xs : Nat → Int32) : decode (ax_code (mgT L xs) 66) 214 = .ok (.invokestatic 56, 3) := by
  show decode prog_8_method_7_code 214 = _
  decide +kernel
theorem d66_217 (L : Nat) (xs : Nat → Int32) : decode (ax_code (mgT L xs) 66) 217 = .ok (.ifCond .eq 7, 3) := by
  show decode prog_8_method_7_code 217 = _
  decide +kernel
theorem d66_220 (L : Nat) (xs : Nat → Int32) : decode (ax_code (mgT L xs) 66) 220 = .ok (.iconst 1, 1) := by
  show decode prog_8_method_7_code 220 = _
  decide +kernel
theorem d66_221 (L : Nat) (xs : Nat → Int32) : decode (ax_code (mgT L xs) 66) 221 = .ok (.goto 4, 3) := by
  show decode prog_8_method_7_code 221 = _
  decide +kernel
theorem d66_224 (L : Nat) (xs : Nat → Int32) : decode (ax_code (mgT L xs) 66) 224 = .ok (.iconst 0, 1) := by
  show decode prog_8_method_7_code 224 = _
  decide +kernel
theorem d66_225 (L : Nat) (xs : Nat → Int32) : decode (ax_code (mgT L xs) 66) 225 = .ok (.ireturn, 1) := by
  show decode prog_8_method_7_code 225 = _
  decide +kernel
theorem d66_226 (L : Nat) (xs : Nat → Int32) : decode (ax_code (mgT L xs) 66) 226 = .ok (.iload 7, 2) := by
  show decode prog_8_method_7_code 226 = _
  decide +kernel
theorem d66_228 (L : Nat) (xs : Nat → Int32) : decode (ax_code (mgT L xs) 66) 228 = .ok (.ifCond .eq 18, 3) := by
  show decode prog_8_method_7_code 228 = _
  decide +kernel
theorem d66_231 (L : Nat) (xs : Nat → Int32) : decode (ax_code (mgT L xs) 66) 231 = .ok (.aload_n 1, 1) := by
  show decode prog_8_method_7_code 231 = _
  decide +kernel
theorem d66_232 (L : Nat) (xs : Nat → Int32) : decode (ax_code (mgT L xs) 66) 232 = .ok (.aload_n 0, 1) := by
  show decode prog_8_method_7_code 232 = _
  decide +kernel
theorem d66_233 (L : Nat) (xs : Nat → Int32) : decode (ax_code (mgT L xs) 66) 233 = .ok (.getfield 15, 3) := by
  show decode prog_8_method_7_code 233 = _
  decide +kernel
theorem d66_236 (L : Nat) (xs : Nat → Int32) : decode (ax_code (mgT L xs) 66) 236 = .ok (.aload_n 0, 1) := by
  show decode prog_8_method_7_code 236 = _
  decide +kernel
theorem d66_237 (L : Nat) (xs : Nat → Int32) : decode (ax_code (mgT L xs) 66) 237 = .ok (.getfield 18, 3) := by
  show decode prog_8_method_7_code 237 = _
  decide +kernel
theorem d66_240 (L : Nat) (xs : Nat → Int32) : decode (ax_code (mgT L xs) 66) 240 = .ok (.invokestatic 56, 3) := by
  show decode prog_8_method_7_code 240 = _
  decide +kernel
theorem d66_243 (L : Nat) (xs : Nat → Int32) : decode (ax_code (mgT L xs) 66) 243 = .ok (.ifCond .eq 7, 3) := by
  show decode prog_8_method_7_code 243 = _
  decide +kernel
theorem d66_246 (L : Nat) (xs : Nat → Int32) : decode (ax_code (mgT L xs) 66) 246 = .ok (.iconst 1, 1) := by
  show decode prog_8_method_7_code 246 = _
  decide +kernel
theorem d66_247 (L : Nat) (xs : Nat → Int32) : decode (ax_code (mgT L xs) 66) 247 = .ok (.goto 4, 3) := by
  show decode prog_8_method_7_code 247 = _
  decide +kernel
theorem d66_250 (L : Nat) (xs : Nat → Int32) : decode (ax_code (mgT L xs) 66) 250 = .ok (.iconst 0, 1) := by
  show decode prog_8_method_7_code 250 = _
  decide +kernel
theorem d66_251 (L : Nat) (xs : Nat → Int32) : decode (ax_code (mgT L xs) 66) 251 = .ok (.ireturn, 1) := by
  show decode prog_8_method_7_code 251 = _
  decide +kernel
theorem d66_252 (L : Nat) (xs : Nat → Int32) : decode (ax_code (mgT L xs) 66) 252 = .ok (.aload_n 0, 1) := by
  show decode prog_8_method_7_code 252 = _
  decide +kernel
theorem d66_253 (L : Nat) (xs : Nat → Int32) : decode (ax_code (mgT L xs) 66) 253 = .ok (.aload_n 1, 1) := by
  show decode prog_8_method_7_code 253 = _
  decide +kernel
theorem d66_254 (L : Nat) (xs : Nat → Int32) : decode (ax_code (mgT L xs) 66) 254 = .ok (.aload_n 0, 1) := by
  show decode prog_8_method_7_code 254 = _
  decide +kernel
theorem d66_255 (L : Nat) (xs : Nat → Int32) : decode (ax_code (mgT L xs) 66) 255 = .ok (.getfield 15, 3) := by
  show decode prog_8_method_7_code 255 = _
  decide +kernel
theorem d66_258 (L : Nat) (xs : Nat → Int32) : decode (ax_code (mgT L xs) 66) 258 = .ok (.aload_n 0, 1) := by
  show decode prog_8_method_7_code 258 = _
  decide +kernel
theorem d66_259 (L : Nat) (xs : Nat → Int32) : decode (ax_code (mgT L xs) 66) 259 = .ok (.getfield 18, 3) := by
  show decode prog_8_method_7_code 259 = _
  decide +kernel
theorem d66_262 (L : Nat) (xs : Nat → Int32) : decode (ax_code (mgT L xs) 66) 262 = .ok (.invokevirtual 76, 3) := by
  show decode prog_8_method_7_code 262 = _
  decide +kernel
theorem d66_265 (L : Nat) (xs : Nat → Int32) : decode (ax_code (mgT L xs) 66) 265 = .ok (.invokevirtual 80, 3) := by
  show decode prog_8_method_7_code 265 = _
  decide +kernel
theorem d66_268 (L : Nat) (xs : Nat → Int32) : decode (ax_code (mgT L xs) 66) 268 = .ok (.ireturn, 1) := by
  show decode prog_8_method_7_code 268 = _
  decide +kernel
theorem d66_269 (L : Nat) (xs : Nat → Int32) : decode (ax_code (mgT L xs) 66) 269 = .ok (.iconst 0, 1) := by
  show decode prog_8_method_7_code 269 = _
  decide +kernel
theorem d66_270 (L : Nat) (xs : Nat → Int32) : decode (ax_code (mgT L xs) 66) 270 = .ok (.ireturn, 1) := by
  show decode prog_8_method_7_code 270 = _
  decide +kernel
def mg_M (s : mg_s) (r : Nat) (f : Nat → Int32) : mg_s := (fun b => if b = r then f else s.1 b, s.2)
theorem mg_M_own (s : mg_s) (r : Nat) (f : Nat → Int32) : (mg_M s r f).1 r = f := if_pos rfl
theorem mg_M_oth {s : mg_s} {r b : Nat} {f : Nat → Int32} (h : ¬ b = r) : (mg_M s r f).1 b = s.1 b := if_neg h
theorem mg_I_M (s : mg_s) (r k : Nat) (x : Int32) : mg_I s r k x = mg_M s r (upd (s.1 r) k x) := by
  refine mg_T_ext ?_ rfl rfl
  funext b
  show (if b = r then upd (s.1 b) k x else s.1 b) = (if b = r then upd (s.1 r) k x else s.1 b)
  by_cases e : b = r
  · subst e; rfl
  · rw [if_neg e, if_neg e]
theorem mg_M_M (s : mg_s) (r : Nat) (f g : Nat → Int32) : mg_M (mg_M s r f) r g = mg_M s r g := by
  refine mg_T_ext ?_ rfl rfl
  funext b
  show (if b = r then g else if b = r then f else s.1 b) = (if b = r then g else s.1 b)
  by_cases e : b = r
  · rw [if_pos e, if_pos e]
  · rw [if_neg e, if_neg e, if_neg e]
theorem mg_M_I (s : mg_s) (r k : Nat) (x : Int32) (f : Nat → Int32) : mg_I (mg_M s r f) r k x = mg_M s r (upd f k x) := by rw [mg_I_M, mg_M_own, mg_M_M]
theorem hold_M {s : mg_s} {r a : Nat} {f : Nat → Int32} {l : List Nat} (h : hold s a l) (ha : ¬ a = r) : hold (mg_M s r f) a l := hold_of h (mg_M_oth ha) rfl
/-- kind, result, target from, to, bits, address -/
abbrev tmT : Type := Nat × Nat × Nat × Nat × Nat × Nat
def isTerm (s : mg_s) (r : Nat) (T : tmT) : Prop := s.1 r 0 = nI T.1 ∧ (T.1 < 6 → s.1 r 1 = nI T.2.1) ∧ s.1 r 2 = nI T.2.2.1 ∧ s.1 r 3 = nI T.2.2.2.1 ∧ (T.1 < 6 → s.1 r 4 = nI T.2.2.2.2.1) ∧ (T.1 = 4 → s.1 r 5 = nI T.2.2.2.2.2)
def t_sl (g : Nat → Nat) (st to : Nat) : Nat := f_find g 47 st (to - st)
def t_co (g : Nat → Nat) (st to : Nat) : Nat := f_find g 58 st (t_sl g st to - st)
def t_tf (g : Nat → Nat) (st to : Nat) : Nat := if t_co g st to < t_sl g st to then t_co g st to + 1 else t_sl g st to
def t_bits (g : Nat → Nat) (st to : Nat) : Option Nat := if t_sl g st to < to then t_num g (t_sl g st to + 1) to 32 else some 32
def t_rk (g : Nat → Nat) (st to res k b : Nat) : Option tmT :=
  if k = 0 then (if ¬ t_co g st to < t_sl g st to ∧ ¬ t_sl g st to < to then some (0, res, t_tf g st to, t_sl g st to, b, 0) else none)
  else if k = 1 ∨ k = 5 then (if ¬ t_sl g st to < to ∧ t_tgt g (t_tf g st to) (t_sl g st to) = true then some (k, res, t_tf g st to, t_sl g st to, b, 0) else none)
  else if k = 2 ∨ k = 3 then (if ¬ t_co g st to < t_sl g st to ∨ t_tgt g (t_tf g st to) (t_sl g st to) = true then some (k, res, t_tf g st to, t_sl g st to, b, 0) else none)
  else (f_addr g (t_sl g st to) (t_sl g st to + 1 - t_tf g st to) 0 0 (t_tf g st to) (t_tf g st to)).map (fun v => (4, res, t_tf g st to, t_sl g st to, b, v))
def t_rest (g : Nat → Nat) (st to res : Nat) : Option tmT := (t_kind g st (t_co g st to)).bind (fun k => (t_bits g st to).bind (fun b => t_rk g st to res k b))
theorem t_rest_nb {g : Nat → Nat} {st to res : Nat} (h : t_bits g st to = none) : t_rest g st to res = none := by
  unfold t_rest
  rw [h]
  cases t_kind g st (t_co g st to) <;> rfl
theorem t_rest_nk {g : Nat → Nat} {st to res : Nat} (h : t_kind g st (t_co g st to) = none) : t_rest g st to res = none := by
  unfold t_rest
  rw [h]
  rfl
theorem t_rest_k {g : Nat → Nat} {st to res k b : Nat} (h : t_kind g st (t_co g st to) = some k) (hb : t_bits g st to = some b) : t_rest g st to res = t_rk g st to res k b := by
  unfold t_rest
  rw [h, hb]
  rfl
/-- what a reading leaves -/
def tm_post (s : mg_s) (r : Nat) (X : Option tmT) (v : Option Value) (s' : mg_s) : Prop := v = some (.int (nI (bI X.isSome))) ∧ (∃ f, mg_M s r f = s') ∧ ∀ T, X = some T → isTerm s' r T
theorem tm_post_n {s : mg_s} {r : Nat} {X : Option tmT} {f : Nat → Int32} (h : X = none) : tm_post s r X (some (.int 0)) (mg_M s r f) := by
  subst h
  exact ⟨rfl, ⟨f, rfl⟩, fun T h => by cases h⟩
theorem tm_post_s {s : mg_s} {r : Nat} {X : Option tmT} {f : Nat → Int32} {T : tmT} (h : X = some T) (h0 : f 0 = nI T.1) (h1 : T.1 < 6 → f 1 = nI T.2.1) (h2 : f 2 = nI T.2.2.1) (h3 : f 3 = nI T.2.2.2.1) (h4 : T.1 < 6 → f 4 = nI T.2.2.2.2.1) (h5 : T.1 = 4 → f 5 = nI T.2.2.2.2.2) : tm_post s r X (some (.int 1)) (mg_M s r f) := by
  subst h
  refine ⟨rfl, ⟨f, rfl⟩, fun T' h => ?_⟩
  cases h
  unfold isTerm
  rw [mg_M_own]
  exact ⟨h0, h1, h2, h3, h4, h5⟩
theorem t_sl_le {g : Nat → Nat} {st to : Nat} (h : st ≤ to) : st ≤ t_co g st to ∧ t_co g st to ≤ t_sl g st to ∧ t_sl g st to ≤ to := by
  have h1 := f_find_s (g := g) (c := 47) (to - st) st
  have h2 := f_find_s (g := g) (c := 58) (t_sl g st to - st) st
  unfold t_co t_sl at *
  omega
theorem t_kind_le {g : Nat → Nat} {i j k : Nat} (h : t_kind g i j = some k) : k ≤ 5 := by
  unfold t_kind at h
  (repeat' split at h) <;> (try cases h) <;> omega
section TM2
variable {L : Nat} {xs : Nat → Int32} {d a r : Nat} {s : mg_s} {l : List Nat}
theorem tm_adr {o : Option Nat} (Hr : isM r) (ho : ∀ v, o = some v → v < 2 ^ 32) : ca L xs (d + 1) 69 [.ref r, .long (oL o)] s (fun v' s' => v' = some (.int (nI (bI o.isSome))) ∧ mg_I s r 5 (oL o).toInt32 = s') := by
  cases o with
  | none => exact tm_adrn Hr
  | some v => exact tm_adrs (ho v rfl) Hr
theorem ts_num {fr to most : Nat} {o : Option Nat} (H : isT a) (hl : hold s a l) (hto : to < 2 ^ 30) (hmo : most < 2 ^ 30) (hf : fr ≤ to) (ho : t_num (gl l) fr to most = o) : ca L xs (d + 2) 41 [.ref a, .int (nI fr), .int (nI to), .int (nI most)] s (fun v s' => v = some (.int (oI o)) ∧ s = s') := by
  have h := tx_number (L := L) (xs := xs) (d := d) H hl.1 hto hmo hf
  rw [hold_at hl, ho] at h
  exact h
theorem tm_rest_n {fr to st res : Nat} (H : isT a) (hl : hold s a l) (Hr : isM r) (hra : ¬ a = r) (hto : to < 2 ^ 29) (hst : st ≤ to) (hr1 : s.1 r 1 = nI res) (hb : t_bits (gl l) st to = none) : wp L xs (d + 4) 66 21 [some (.ref r), some (.ref a), some (.int (nI fr)), some (.int (nI to)), some (.int (nI st)), none, none, none, none] [] s (tm_post s r (t_rest (gl l) st to res)) := by
  obtain ⟨hs1, hs2, hs3⟩ := t_sl_le (g := gl l) hst
  have hq0 := bI_lt (t_tgt (gl l) (t_co (gl l) st to + 1) (t_sl (gl l) st to))
  have hq1 := bI_lt (t_tgt (gl l) (t_sl (gl l) st to) (t_sl (gl l) st to))
  refine wg_aload_n (d66_21 L xs) rfl ?_
  refine wg_bipush (d66_22 L xs) (x := 47) (by decide) ?_
  refine wg_iload (d66_24 L xs) rfl ?_
  refine wg_iload_n (d66_26 L xs) rfl ?_
  refine wg_invv (d66_27 L xs) (kd := 7) (mj := 37) (n := 3) rfl (Or.inl rfl) (ys := [.int (nI to), .int (nI st), .int 47]) (r := []) rfl rfl H.1 (tx_c H) rfl (Nat.le_of_ble_eq_true rfl) (ts_find (c := 47) (fr := st) (to := to) H hl (by decide) (by omega) (by omega) rfl) ?_
  rintro _ _ ⟨rfl, rfl⟩
  refine wg_istore (d66_30 L xs) (ls' := [some (.ref r), some (.ref a), some (.int (nI fr)), some (.int (nI to)), some (.int (nI st)), some (.int (nI (t_sl (gl l) st to))), none, none, none]) (Nat.le_of_ble_eq_true rfl) rfl ?_
  refine wg_aload_n (d66_32 L xs) rfl ?_
  refine wg_bipush (d66_33 L xs) (x := 58) (by decide) ?_
  refine wg_iload (d66_35 L xs) rfl ?_
  refine wg_iload (d66_37 L xs) rfl ?_
  refine wg_invv (d66_39 L xs) (kd := 7) (mj := 37) (n := 3) rfl (Or.inl rfl) (ys := [.int (nI (t_sl (gl l) st to)), .int (nI st), .int 58]) (r := []) rfl rfl H.1 (tx_c H) rfl (Nat.le_of_ble_eq_true rfl) (ts_find (c := 58) (fr := st) (to := t_sl (gl l) st to) H hl (by decide) (by omega) (by omega) rfl) ?_
  rintro _ _ ⟨rfl, rfl⟩
  refine wg_istore (d66_42 L xs) (ls' := [some (.ref r), some (.ref a), some (.int (nI fr)), some (.int (nI to)), some (.int (nI st)), some (.int (nI (t_sl (gl l) st to))), some (.int (nI (t_co (gl l) st to))), none, none]) (Nat.le_of_ble_eq_true rfl) rfl ?_
  refine wg_iload (d66_44 L xs) rfl ?_
  refine wg_iload (d66_46 L xs) rfl ?_
  refine wn_icmp_ge (d66_48 L xs) (x := t_co (gl l) st to) (y := t_sl (gl l) st to) (by omega) (by omega) (t := 55) (by decide) (fun h1 => ?_) (fun h1 => ?_)
  · refine wg_iconst (d66_55 L xs) (x := 0) (by decide) ?_
    refine wg_istore (d66_56 L xs) (ls' := [some (.ref r), some (.ref a), some (.int (nI fr)), some (.int (nI to)), some (.int (nI st)), some (.int (nI (t_sl (gl l) st to))), some (.int (nI (t_co (gl l) st to))), some (.int 0), none]) (Nat.le_of_ble_eq_true rfl) rfl ?_
    refine wg_iload (d66_58 L xs) rfl ?_
    refine wg_iload_n (d66_60 L xs) rfl ?_
    refine wn_icmp_ge (d66_61 L xs) (x := t_sl (gl l) st to) (y := to) (by omega) (by omega) (t := 68) (by decide) (fun h2 => by have h9 := hb; unfold t_bits at h9; rw [if_neg (by omega)] at h9; cases h9) (fun h2 => ?_)
    refine wg_iconst (d66_64 L xs) (x := 1) (by decide) ?_
    refine wg_goto (d66_65 L xs) (t := 69) (by decide) ?_
    refine wg_istore (d66_69 L xs) (ls' := [some (.ref r), some (.ref a), some (.int (nI fr)), some (.int (nI to)), some (.int (nI st)), some (.int (nI (t_sl (gl l) st to))), some (.int (nI (t_co (gl l) st to))), some (.int 0), some (.int 1)]) (Nat.le_of_ble_eq_true rfl) rfl ?_
    refine wg_aload_n (d66_71 L xs) rfl ?_
    refine wg_aload_n (d66_72 L xs) rfl ?_
    refine wg_iload (d66_73 L xs) rfl ?_
    refine wg_iload (d66_75 L xs) rfl ?_
    refine wg_invs (d66_77 L xs) (kd := 6) (mj := 68) (n := 3) rfl (Or.inl rfl) (ys := [.int (nI (t_co (gl l) st to)), .int (nI st), .ref a]) (r := [.ref r]) rfl rfl (Nat.le_of_ble_eq_true rfl) (by have h9 := tm_kind (L := L) (xs := xs) (d := d + 1) (fr := st) (to := t_co (gl l) st to) H hl (by omega) (by omega); exact h9) ?_
    rintro _ _ ⟨rfl, rfl⟩
    refine wg_puti (d66_80 L xs) (cj := 4) (k0 := 0) rfl Hr.1 (tm_c Hr) (Nat.le_of_ble_eq_true rfl) rfl rfl (tm_cI0 Hr) ?_
    rw [mg_I_M]
    refine wg_aload_n (d66_83 L xs) rfl ?_
    refine wg_iload (d66_84 L xs) rfl ?_
    refine wg_if_eq (d66_86 L xs) (t := 96) (by decide) (fun _ => ?_) (fun hn => absurd (by decide) hn)
    refine wg_iload (d66_96 L xs) rfl ?_
    refine wg_puti (d66_98 L xs) (cj := 4) (k0 := 2) rfl Hr.1 (tm_c Hr) (Nat.le_of_ble_eq_true rfl) rfl rfl (tm_cI2 Hr) ?_
    rw [mg_M_I]
    refine wg_aload_n (d66_101 L xs) rfl ?_
    refine wg_iload (d66_102 L xs) rfl ?_
    refine wg_puti (d66_104 L xs) (cj := 4) (k0 := 3) rfl Hr.1 (tm_c Hr) (Nat.le_of_ble_eq_true rfl) rfl rfl (tm_cI3 Hr) ?_
    rw [mg_M_I]
    refine wg_aload_n (d66_107 L xs) rfl ?_
    refine wg_iload (d66_108 L xs) rfl ?_
    refine wg_if_eq (d66_110 L xs) (t := 127) (by decide) (fun hp => absurd hp (by decide)) (fun _ => ?_)
    refine wg_aload_n (d66_113 L xs) rfl ?_
    refine wg_iload (d66_114 L xs) rfl ?_
    refine wg_iconst (d66_116 L xs) (x := 1) (by decide) ?_
    refine wg_iadd (d66_117 L xs) ?_
    refine wg_top (y := (nI ((t_sl (gl l) st to) + 1))) (nI_add (t_sl (gl l) st to) 1) ?_
    refine wg_iload_n (d66_118 L xs) rfl ?_
    refine wg_bipush (d66_119 L xs) (x := 32) (by decide) ?_
    refine wg_invv (d66_121 L xs) (kd := 7) (mj := 41) (n := 3) rfl (Or.inl rfl) (ys := [.int 32, .int (nI to), .int (nI ((t_sl (gl l) st to) + 1))]) (r := [.ref r]) rfl rfl H.1 (tx_c H) rfl (Nat.le_of_ble_eq_true rfl) (ts_num (o := none) (fr := t_sl (gl l) st to + 1) (to := to) (most := 32) H (hold_M hl hra) (by omega) (by decide) (by omega) (by have h9 := hb; unfold t_bits at h9; rw [if_pos (by omega)] at h9; exact h9)) ?_
    rintro _ _ ⟨rfl, rfl⟩
    refine wg_goto (d66_124 L xs) (t := 129) (by decide) ?_
    refine wg_puti (d66_129 L xs) (cj := 4) (k0 := 4) rfl Hr.1 (tm_c Hr) (Nat.le_of_ble_eq_true rfl) rfl rfl (tm_cI4 Hr) ?_
    rw [mg_M_I]
    refine wg_aload_n (d66_132 L xs) rfl ?_
    refine wg_get (d66_133 L xs) (kd := 1) (cj := 4) (k0 := 4) rfl (Or.inl rfl) Hr.1 (tm_c Hr) rfl ?_
    refine wg_top (y := (-1)) (by rw [mg_M_own]; rfl) ?_
    refine wg_iconst (d66_136 L xs) (x := (-1)) (by decide) ?_
    refine wg_icmp_ne (d66_137 L xs) (t := 142) (by decide) (fun hp => absurd hp (by decide)) (fun _ => ?_)
    refine wg_iconst (d66_140 L xs) (x := 0) (by decide) ?_
    exact wg_iret (d66_141 L xs) rfl rfl (tm_post_n (t_rest_nb hb))
  · refine wg_iconst (d66_51 L xs) (x := 1) (by decide) ?_
    refine wg_goto (d66_52 L xs) (t := 56) (by decide) ?_
    refine wg_istore (d66_56 L xs) (ls' := [some (.ref r), some (.ref a), some (.int (nI fr)), some (.int (nI to)), some (.int (nI st)), some (.int (nI (t_sl (gl l) st to))), some (.int (nI (t_co (gl l) st to))), some (.int 1), none]) (Nat.le_of_ble_eq_true rfl) rfl ?_
    refine wg_iload (d66_58 L xs) rfl ?_
    refine wg_iload_n (d66_60 L xs) rfl ?_
    refine wn_icmp_ge (d66_61 L xs) (x := t_sl (gl l) st to) (y := to) (by omega) (by omega) (t := 68) (by decide) (fun h6 => by have h9 := hb; unfold t_bits at h9; rw [if_neg (by omega)] at h9; cases h9) (fun h6 => ?_)
    refine wg_iconst (d66_64 L xs) (x := 1) (by decide) ?_
    refine wg_goto (d66_65 L xs) (t := 69) (by decide) ?_
    refine wg_istore (d66_69 L xs) (ls' := [some (.ref r), some (.ref a), some (.int (nI fr)), some (.int (nI to)), some (.int (nI st)), some (.int (nI (t_sl (gl l) st to))), some (.int (nI (t_co (gl l) st to))), some (.int 1), some (.int 1)]) (Nat.le_of_ble_eq_true rfl) rfl ?_
    refine wg_aload_n (d66_71 L xs) rfl ?_
    refine wg_aload_n (d66_72 L xs) rfl ?_
    refine wg_iload (d66_73 L xs) rfl ?_
    refine wg_iload (d66_75 L xs) rfl ?_
    refine wg_invs (d66_77 L xs) (kd := 6) (mj := 68) (n := 3) rfl (Or.inl rfl) (ys := [.int (nI (t_co (gl l) st to)), .int (nI st), .ref a]) (r := [.ref r]) rfl rfl (Nat.le_of_ble_eq_true rfl) (by have h9 := tm_kind (L := L) (xs := xs) (d := d + 1) (fr := st) (to := t_co (gl l) st to) H hl (by omega) (by omega); exact h9) ?_
    rintro _ _ ⟨rfl, rfl⟩
    refine wg_puti (d66_80 L xs) (cj := 4) (k0 := 0) rfl Hr.1 (tm_c Hr) (Nat.le_of_ble_eq_true rfl) rfl rfl (tm_cI0 Hr) ?_
    rw [mg_I_M]
    refine wg_aload_n (d66_83 L xs) rfl ?_
    refine wg_iload (d66_84 L xs) rfl ?_
    refine wg_if_eq (d66_86 L xs) (t := 96) (by decide) (fun hp => absurd hp (by decide)) (fun _ => ?_)
    refine wg_iload (d66_89 L xs) rfl ?_
    refine wg_iconst (d66_91 L xs) (x := 1) (by decide) ?_
    refine wg_iadd (d66_92 L xs) ?_
    refine wg_top (y := (nI ((t_co (gl l) st to) + 1))) (nI_add (t_co (gl l) st to) 1) ?_
    refine wg_goto (d66_93 L xs) (t := 98) (by decide) ?_
    refine wg_puti (d66_98 L xs) (cj := 4) (k0 := 2) rfl Hr.1 (tm_c Hr) (Nat.le_of_ble_eq_true rfl) rfl rfl (tm_cI2 Hr) ?_
    rw [mg_M_I]
    refine wg_aload_n (d66_101 L xs) rfl ?_
    refine wg_iload (d66_102 L xs) rfl ?_
    refine wg_puti (d66_104 L xs) (cj := 4) (k0 := 3) rfl Hr.1 (tm_c Hr) (Nat.le_of_ble_eq_true rfl) rfl rfl (tm_cI3 Hr) ?_
    rw [mg_M_I]
    refine wg_aload_n (d66_107 L xs) rfl ?_
    refine wg_iload (d66_108 L xs) rfl ?_
    refine wg_if_eq (d66_110 L xs) (t := 127) (by decide) (fun hp => absurd hp (by decide)) (fun _ => ?_)
    refine wg_aload_n (d66_113 L xs) rfl ?_
    refine wg_iload (d66_114 L xs) rfl ?_
    refine wg_iconst (d66_116 L xs) (x := 1) (by decide) ?_
    refine wg_iadd (d66_117 L xs) ?_
    refine wg_top (y := (nI ((t_sl (gl l) st to) + 1))) (nI_add (t_sl (gl l) st to) 1) ?_
    refine wg_iload_n (d66_118 L xs) rfl ?_
    refine wg_bipush (d66_119 L xs) (x := 32) (by decide) ?_
    refine wg_invv (d66_121 L xs) (kd := 7) (mj := 41) (n := 3) rfl (Or.inl rfl) (ys := [.int 32, .int (nI to), .int (nI ((t_sl (gl l) st to) + 1))]) (r := [.ref r]) rfl rfl H.1 (tx_c H) rfl (Nat.le_of_ble_eq_true rfl) (ts_num (o := none) (fr := t_sl (gl l) st to + 1) (to := to) (most := 32) H (hold_M hl hra) (by omega) (by decide) (by omega) (by have h9 := hb; unfold t_bits at h9; rw [if_pos (by omega)] at h9; exact h9)) ?_
    rintro _ _ ⟨rfl, rfl⟩
    refine wg_goto (d66_124 L xs) (t := 129) (by decide) ?_
    refine wg_puti (d66_129 L xs) (cj := 4) (k0 := 4) rfl Hr.1 (tm_c Hr) (Nat.le_of_ble_eq_true rfl) rfl rfl (tm_cI4 Hr) ?_
    rw [mg_M_I]
    refine wg_aload_n (d66_132 L xs) rfl ?_
    refine wg_get (d66_133 L xs) (kd := 1) (cj := 4) (k0 := 4) rfl (Or.inl rfl) Hr.1 (tm_c Hr) rfl ?_
    refine wg_top (y := (-1)) (by rw [mg_M_own]; rfl) ?_
    refine wg_iconst (d66_136 L xs) (x := (-1)) (by decide) ?_
    refine wg_icmp_ne (d66_137 L xs) (t := 142) (by decide) (fun hp => absurd hp (by decide)) (fun _ => ?_)
    refine wg_iconst (d66_140 L xs) (x := 0) (by decide) ?_
    exact wg_iret (d66_141 L xs) rfl rfl (tm_post_n (t_rest_nb hb))
theorem tm_rest_k {fr to st res b : Nat} (H : isT a) (hl : hold s a l) (Hr : isM r) (hra : ¬ a = r) (hto : to < 2 ^ 29) (hst : st ≤ to) (hr1 : s.1 r 1 = nI res) (hk : t_kind (gl l) st (t_co (gl l) st to) = none) (hb : t_bits (gl l) st to = some b) : wp L xs (d + 4) 66 21 [some (.ref r), some (.ref a), some (.int (nI fr)), some (.int (nI to)), some (.int (nI st)), none, none, none, none] [] s (tm_post s r (t_rest (gl l) st to res)) := by
  obtain ⟨hs1, hs2, hs3⟩ := t_sl_le (g := gl l) hst
  have hq0 := bI_lt (t_tgt (gl l) (t_co (gl l) st to + 1) (t_sl (gl l) st to))
  have hq1 := bI_lt (t_tgt (gl l) (t_sl (gl l) st to) (t_sl (gl l) st to))
  have hb100 : b ≤ 32 := by
    have h9 := hb
    unfold t_bits at h9
    split at h9
    · exact t_num_le h9
    · cases h9; exact Nat.le_refl _
  refine wg_aload_n (d66_21 L xs) rfl ?_
  refine wg_bipush (d66_22 L xs) (x := 47) (by decide) ?_
  refine wg_iload (d66_24 L xs) rfl ?_
  refine wg_iload_n (d66_26 L xs) rfl ?_
  refine wg_invv (d66_27 L xs) (kd := 7) (mj := 37) (n := 3) rfl (Or.inl rfl) (ys := [.int (nI to), .int (nI st), .int 47]) (r := []) rfl rfl H.1 (tx_c H) rfl (Nat.le_of_ble_eq_true rfl) (ts_find (c := 47) (fr := st) (to := to) H hl (by decide) (by omega) (by omega) rfl) ?_
  rintro _ _ ⟨rfl, rfl⟩
  refine wg_istore (d66_30 L xs) (ls' := [some (.ref r), some (.ref a), some (.int (nI fr)), some (.int (nI to)), some (.int (nI st)), some (.int (nI (t_sl (gl l) st to))), none, none, none]) (Nat.le_of_ble_eq_true rfl) rfl ?_
  refine wg_aload_n (d66_32 L xs) rfl ?_
  refine wg_bipush (d66_33 L xs) (x := 58) (by decide) ?_
  refine wg_iload (d66_35 L xs) rfl ?_
  refine wg_iload (d66_37 L xs) rfl ?_
  refine wg_invv (d66_39 L xs) (kd := 7) (mj := 37) (n := 3) rfl (Or.inl rfl) (ys := [.int (nI (t_sl (gl l) st to)), .int (nI st), .int 58]) (r := []) rfl rfl H.1 (tx_c H) rfl (Nat.le_of_ble_eq_true rfl) (ts_find (c := 58) (fr := st) (to := t_sl (gl l) st to) H hl (by decide) (by omega) (by omega) rfl) ?_
  rintro _ _ ⟨rfl, rfl⟩
  refine wg_istore (d66_42 L xs) (ls' := [some (.ref r), some (.ref a), some (.int (nI fr)), some (.int (nI to)), some (.int (nI st)), some (.int (nI (t_sl (gl l) st to))), some (.int (nI (t_co (gl l) st to))), none, none]) (Nat.le_of_ble_eq_true rfl) rfl ?_
  refine wg_iload (d66_44 L xs) rfl ?_
  refine wg_iload (d66_46 L xs) rfl ?_
  refine wn_icmp_ge (d66_48 L xs) (x := t_co (gl l) st to) (y := t_sl (gl l) st to) (by omega) (by omega) (t := 55) (by decide) (fun h1 => ?_) (fun h1 => ?_)
  · refine wg_iconst (d66_55 L xs) (x := 0) (by decide) ?_
    refine wg_istore (d66_56 L xs) (ls' := [some (.ref r), some (.ref a), some (.int (nI fr)), some (.int (nI to)), some (.int (nI st)), some (.int (nI (t_sl (gl l) st to))), some (.int (nI (t_co (gl l) st to))), some (.int 0), none]) (Nat.le_of_ble_eq_true rfl) rfl ?_
    refine wg_iload (d66_58 L xs) rfl ?_
    refine wg_iload_n (d66_60 L xs) rfl ?_
    refine wn_icmp_ge (d66_61 L xs) (x := t_sl (gl l) st to) (y := to) (by omega) (by omega) (t := 68) (by decide) (fun h2 => ?_) (fun h2 => ?_)
    · refine wg_iconst (d66_68 L xs) (x := 0) (by decide) ?_
      refine wg_istore (d66_69 L xs) (ls' := [some (.ref r), some (.ref a), some (.int (nI fr)), some (.int (nI to)), some (.int (nI st)), some (.int (nI (t_sl (gl l) st to))), some (.int (nI (t_co (gl l) st to))), some (.int 0), some (.int 0)]) (Nat.le_of_ble_eq_true rfl) rfl ?_
      refine wg_aload_n (d66_71 L xs) rfl ?_
      refine wg_aload_n (d66_72 L xs) rfl ?_
      refine wg_iload (d66_73 L xs) rfl ?_
      refine wg_iload (d66_75 L xs) rfl ?_
      refine wg_invs (d66_77 L xs) (kd := 6) (mj := 68) (n := 3) rfl (Or.inl rfl) (ys := [.int (nI (t_co (gl l) st to)), .int (nI st), .ref a]) (r := [.ref r]) rfl rfl (Nat.le_of_ble_eq_true rfl) (by have h9 := tm_kind (L := L) (xs := xs) (d := d + 1) (fr := st) (to := t_co (gl l) st to) H hl (by omega) (by omega); rw [hk] at h9; exact h9) ?_
      rintro _ _ ⟨rfl, rfl⟩
      refine wg_puti (d66_80 L xs) (cj := 4) (k0 := 0) rfl Hr.1 (tm_c Hr) (Nat.le_of_ble_eq_true rfl) rfl rfl (tm_cI0 Hr) ?_
      rw [mg_I_M]
      refine wg_aload_n (d66_83 L xs) rfl ?_
      refine wg_iload (d66_84 L xs) rfl ?_
      refine wg_if_eq (d66_86 L xs) (t := 96) (by decide) (fun _ => ?_) (fun hn => absurd (by decide) hn)
      refine wg_iload (d66_96 L xs) rfl ?_
      refine wg_puti (d66_98 L xs) (cj := 4) (k0 := 2) rfl Hr.1 (tm_c Hr) (Nat.le_of_ble_eq_true rfl) rfl rfl (tm_cI2 Hr) ?_
      rw [mg_M_I]
      refine wg_aload_n (d66_101 L xs) rfl ?_
      refine wg_iload (d66_102 L xs) rfl ?_
      refine wg_puti (d66_104 L xs) (cj := 4) (k0 := 3) rfl Hr.1 (tm_c Hr) (Nat.le_of_ble_eq_true rfl) rfl rfl (tm_cI3 Hr) ?_
      rw [mg_M_I]
      refine wg_aload_n (d66_107 L xs) rfl ?_
      refine wg_iload (d66_108 L xs) rfl ?_
      refine wg_if_eq (d66_110 L xs) (t := 127) (by decide) (fun _ => ?_) (fun hn => absurd (by decide) hn)
      refine wg_bipush (d66_127 L xs) (x := 32) (by decide) ?_
      refine wg_puti (d66_129 L xs) (cj := 4) (k0 := 4) rfl Hr.1 (tm_c Hr) (Nat.le_of_ble_eq_true rfl) rfl rfl (tm_cI4 Hr) ?_
      rw [mg_M_I]
      refine wg_aload_n (d66_132 L xs) rfl ?_
      refine wg_get (d66_133 L xs) (kd := 1) (cj := 4) (k0 := 4) rfl (Or.inl rfl) Hr.1 (tm_c Hr) rfl ?_
      refine wg_top (y := 32) (by rw [mg_M_own]; rfl) ?_
      refine wg_iconst (d66_136 L xs) (x := (-1)) (by decide) ?_
      refine wg_icmp_ne (d66_137 L xs) (t := 142) (by decide) (fun _ => ?_) (fun hn => absurd (by decide) hn)
      refine wg_aload_n (d66_142 L xs) rfl ?_
      refine wg_get (d66_143 L xs) (kd := 1) (cj := 4) (k0 := 0) rfl (Or.inl rfl) Hr.1 (tm_c Hr) rfl ?_
      refine wg_top (y := (-1)) (by rw [mg_M_own]; rfl) ?_
      refine wg_tswOut (d66_146 L xs) (t := 269) (by decide) (by decide) ?_
      refine wg_iconst (d66_269 L xs) (x := 0) (by decide) ?_
      exact wg_iret (d66_270 L xs) rfl rfl (tm_post_n (t_rest_nk hk))
    · refine wg_iconst (d66_64 L xs) (x := 1) (by decide) ?_
      refine wg_goto (d66_65 L xs) (t := 69) (by decide) ?_
      refine wg_istore (d66_69 L xs) (ls' := [some (.ref r), some (.ref a), some (.int (nI fr)), some (.int (nI to)), some (.int (nI st)), some (.int (nI (t_sl (gl l) st to))), some (.int (nI (t_co (gl l) st to))), some (.int 0), some (.int 1)]) (Nat.le_of_ble_eq_true rfl) rfl ?_
      refine wg_aload_n (d66_71 L xs) rfl ?_
      refine wg_aload_n (d66_72 L xs) rfl ?_
      refine wg_iload (d66_73 L xs) rfl ?_
      refine wg_iload (d66_75 L xs) rfl ?_
      refine wg_invs (d66_77 L xs) (kd := 6) (mj := 68) (n := 3) rfl (Or.inl rfl) (ys := [.int (nI (t_co (gl l) st to)), .int (nI st), .ref a]) (r := [.ref r]) rfl rfl (Nat.le_of_ble_eq_true rfl) (by have h9 := tm_kind (L := L) (xs := xs) (d := d + 1) (fr := st) (to := t_co (gl l) st to) H hl (by omega) (by omega); rw [hk] at h9; exact h9) ?_
      rintro _ _ ⟨rfl, rfl⟩
      refine wg_puti (d66_80 L xs) (cj := 4) (k0 := 0) rfl Hr.1 (tm_c Hr) (Nat.le_of_ble_eq_true rfl) rfl rfl (tm_cI0 Hr) ?_
      rw [mg_I_M]
      refine wg_aload_n (d66_83 L xs) rfl ?_
      refine wg_iload (d66_84 L xs) rfl ?_
      refine wg_if_eq (d66_86 L xs) (t := 96) (by decide) (fun _ => ?_) (fun hn => absurd (by decide) hn)
      refine wg_iload (d66_96 L xs) rfl ?_
      refine wg_puti (d66_98 L xs) (cj := 4) (k0 := 2) rfl Hr.1 (tm_c Hr) (Nat.le_of_ble_eq_true rfl) rfl rfl (tm_cI2 Hr) ?_
      rw [mg_M_I]
      refine wg_aload_n (d66_101 L xs) rfl ?_
      refine wg_iload (d66_102 L xs) rfl ?_
      refine wg_puti (d66_104 L xs) (cj := 4) (k0 := 3) rfl Hr.1 (tm_c Hr) (Nat.le_of_ble_eq_true rfl) rfl rfl (tm_cI3 Hr) ?_
      rw [mg_M_I]
      refine wg_aload_n (d66_107 L xs) rfl ?_
      refine wg_iload (d66_108 L xs) rfl ?_
      refine wg_if_eq (d66_110 L xs) (t := 127) (by decide) (fun hp => absurd hp (by decide)) (fun _ => ?_)
      refine wg_aload_n (d66_113 L xs) rfl ?_
      refine wg_iload (d66_114 L xs) rfl ?_
      refine wg_iconst (d66_116 L xs) (x := 1) (by decide) ?_
      refine wg_iadd (d66_117 L xs) ?_
      refine wg_top (y := (nI ((t_sl (gl l) st to) + 1))) (nI_add (t_sl (gl l) st to) 1) ?_
      refine wg_iload_n (d66_118 L xs) rfl ?_
      refine wg_bipush (d66_119 L xs) (x := 32) (by decide) ?_
      refine wg_invv (d66_121 L xs) (kd := 7) (mj := 41) (n := 3) rfl (Or.inl rfl) (ys := [.int 32, .int (nI to), .int (nI ((t_sl (gl l) st to) + 1))]) (r := [.ref r]) rfl rfl H.1 (tx_c H) rfl (Nat.le_of_ble_eq_true rfl) (ts_num (o := some b) (fr := t_sl (gl l) st to + 1) (to := to) (most := 32) H (hold_M hl hra) (by omega) (by decide) (by omega) (by have h9 := hb; unfold t_bits at h9; rw [if_pos (by omega)] at h9; exact h9)) ?_
      rintro _ _ ⟨rfl, rfl⟩
      refine wg_goto (d66_124 L xs) (t := 129) (by decide) ?_
      refine wg_puti (d66_129 L xs) (cj := 4) (k0 := 4) rfl Hr.1 (tm_c Hr) (Nat.le_of_ble_eq_true rfl) rfl rfl (tm_cI4 Hr) ?_
      rw [mg_M_I]
      refine wg_aload_n (d66_132 L xs) rfl ?_
      refine wg_get (d66_133 L xs) (kd := 1) (cj := 4) (k0 := 4) rfl (Or.inl rfl) Hr.1 (tm_c Hr) rfl ?_
      refine wg_top (y := (nI b)) (by rw [mg_M_own]; rfl) ?_
      refine wg_iconst (d66_136 L xs) (x := (-1)) (by decide) ?_
      refine wg_icmp_ne (d66_137 L xs) (t := 142) (by decide) (fun h8 => ?_) (fun h8 => absurd (Classical.not_not.mp h8) (nI_neg1 (by omega)))
      refine wg_aload_n (d66_142 L xs) rfl ?_
      refine wg_get (d66_143 L xs) (kd := 1) (cj := 4) (k0 := 0) rfl (Or.inl rfl) Hr.1 (tm_c Hr) rfl ?_
      refine wg_top (y := (-1)) (by rw [mg_M_own]; rfl) ?_
      refine wg_tswOut (d66_146 L xs) (t := 269) (by decide) (by decide) ?_
      refine wg_iconst (d66_269 L xs) (x := 0) (by decide) ?_
      exact wg_iret (d66_270 L xs) rfl rfl (tm_post_n (t_rest_nk hk))
  · refine wg_iconst (d66_51 L xs) (x := 1) (by decide) ?_
    refine wg_goto (d66_52 L xs) (t := 56) (by decide) ?_
    refine wg_istore (d66_56 L xs) (ls' := [some (.ref r), some (.ref a), some (.int (nI fr)), some (.int (nI to)), some (.int (nI st)), some (.int (nI (t_sl (gl l) st to))), some (.int (nI (t_co (gl l) st to))), some (.int 1), none]) (Nat.le_of_ble_eq_true rfl) rfl ?_
    refine wg_iload (d66_58 L xs) rfl ?_
    refine wg_iload_n (d66_60 L xs) rfl ?_
    refine wn_icmp_ge (d66_61 L xs) (x := t_sl (gl l) st to) (y := to) (by omega) (by omega) (t := 68) (by decide) (fun h9 => ?_) (fun h9 => ?_)
    · refine wg_iconst (d66_68 L xs) (x := 0) (by decide) ?_
      refine wg_istore (d66_69 L xs) (ls' := [some (.ref r), some (.ref a), some (.int (nI fr)), some (.int (nI to)), some (.int (nI st)), some (.int (nI (t_sl (gl l) st to))), some (.int (nI (t_co (gl l) st to))), some (.int 1), some (.int 0)]) (Nat.le_of_ble_eq_true rfl) rfl ?_
      refine wg_aload_n (d66_71 L xs) rfl ?_
      refine wg_aload_n (d66_72 L xs) rfl ?_
      refine wg_iload (d66_73 L xs) rfl ?_
      refine wg_iload (d66_75 L xs) rfl ?_
      refine wg_invs (d66_77 L xs) (kd := 6) (mj := 68) (n := 3) rfl (Or.inl rfl) (ys := [.int (nI (t_co (gl l) st to)), .int (nI st), .ref a]) (r := [.ref r]) rfl rfl (Nat.le_of_ble_eq_true rfl) (by have h9 := tm_kind (L := L) (xs := xs) (d := d + 1) (fr := st) (to := t_co (gl l) st to) H hl (by omega) (by omega); rw [hk] at h9; exact h9) ?_
      rintro _ _ ⟨rfl, rfl⟩
      refine wg_puti (d66_80 L xs) (cj := 4) (k0 := 0) rfl Hr.1 (tm_c Hr) (Nat.le_of_ble_eq_true rfl) rfl rfl (tm_cI0 Hr) ?_
      rw [mg_I_M]
      refine wg_aload_n (d66_83 L xs) rfl ?_
      refine wg_iload (d66_84 L xs) rfl ?_
      refine wg_if_eq (d66_86 L xs) (t := 96) (by decide) (fun hp => absurd hp (by decide)) (fun _ => ?_)
      refine wg_iload (d66_89 L xs) rfl ?_
      refine wg_iconst (d66_91 L xs) (x := 1) (by decide) ?_
      refine wg_iadd (d66_92 L xs) ?_
      refine wg_top (y := (nI ((t_co (gl l) st to) + 1))) (nI_add (t_co (gl l) st to) 1) ?_
      refine wg_goto (d66_93 L xs) (t := 98) (by decide) ?_
      refine wg_puti (d66_98 L xs) (cj := 4) (k0 := 2) rfl Hr.1 (tm_c Hr) (Nat.le_of_ble_eq_true rfl) rfl rfl (tm_cI2 Hr) ?_
      rw [mg_M_I]
      refine wg_aload_n (d66_101 L xs) rfl ?_
      refine wg_iload (d66_102 L xs) rfl ?_
      refine wg_puti (d66_104 L xs) (cj := 4) (k0 := 3) rfl Hr.1 (tm_c Hr) (Nat.le_of_ble_eq_true rfl) rfl rfl (tm_cI3 Hr) ?_
      rw [mg_M_I]
      refine wg_aload_n (d66_107 L xs) rfl ?_
      refine wg_iload (d66_108 L xs) rfl ?_
      refine wg_if_eq (d66_110 L xs) (t := 127) (by decide) (fun _ => ?_) (fun hn => absurd (by decide) hn)
      refine wg_bipush (d66_127 L xs) (x := 32) (by decide) ?_
      refine wg_puti (d66_129 L xs) (cj := 4) (k0 := 4) rfl Hr.1 (tm_c Hr) (Nat.le_of_ble_eq_true rfl) rfl rfl (tm_cI4 Hr) ?_
      rw [mg_M_I]
      refine wg_aload_n (d66_132 L xs) rfl ?_
      refine wg_get (d66_133 L xs) (kd := 1) (cj := 4) (k0 := 4) rfl (Or.inl rfl) Hr.1 (tm_c Hr) rfl ?_
      refine wg_top (y := 32) (by rw [mg_M_own]; rfl) ?_
      refine wg_iconst (d66_136 L xs) (x := (-1)) (by decide) ?_
      refine wg_icmp_ne (d66_137 L xs) (t := 142) (by decide) (fun _ => ?_) (fun hn => absurd (by decide) hn)
      refine wg_aload_n (d66_142 L xs) rfl ?_
      refine wg_get (d66_143 L xs) (kd := 1) (cj := 4) (k0 := 0) rfl (Or.inl rfl) Hr.1 (tm_c Hr) rfl ?_
      refine wg_top (y := (-1)) (by rw [mg_M_own]; rfl) ?_
      refine wg_tswOut (d66_146 L xs) (t := 269) (by decide) (by decide) ?_
      refine wg_iconst (d66_269 L xs) (x := 0) (by decide) ?_
      exact wg_iret (d66_270 L xs) rfl rfl (tm_post_n (t_rest_nk hk))
    · refine wg_iconst (d66_64 L xs) (x := 1) (by decide) ?_
      refine wg_goto (d66_65 L xs) (t := 69) (by decide) ?_
      refine wg_istore (d66_69 L xs) (ls' := [some (.ref r), some (.ref a), some (.int (nI fr)), some (.int (nI to)), some (.int (nI st)), some (.int (nI (t_sl (gl l) st to))), some (.int (nI (t_co (gl l) st to))), some (.int 1), some (.int 1)]) (Nat.le_of_ble_eq_true rfl) rfl ?_
      refine wg_aload_n (d66_71 L xs) rfl ?_
      refine wg_aload_n (d66_72 L xs) rfl ?_
      refine wg_iload (d66_73 L xs) rfl ?_
      refine wg_iload (d66_75 L xs) rfl ?_
      refine wg_invs (d66_77 L xs) (kd := 6) (mj := 68) (n := 3) rfl (Or.inl rfl) (ys := [.int (nI (t_co (gl l) st to)), .int (nI st), .ref a]) (r := [.ref r]) rfl rfl (Nat.le_of_ble_eq_true rfl) (by have h9 := tm_kind (L := L) (xs := xs) (d := d + 1) (fr := st) (to := t_co (gl l) st to) H hl (by omega) (by omega); rw [hk] at h9; exact h9) ?_
      rintro _ _ ⟨rfl, rfl⟩
      refine wg_puti (d66_80 L xs) (cj := 4) (k0 := 0) rfl Hr.1 (tm_c Hr) (Nat.le_of_ble_eq_true rfl) rfl rfl (tm_cI0 Hr) ?_
      rw [mg_I_M]
      refine wg_aload_n (d66_83 L xs) rfl ?_
      refine wg_iload (d66_84 L xs) rfl ?_
      refine wg_if_eq (d66_86 L xs) (t := 96) (by decide) (fun hp => absurd hp (by decide)) (fun _ => ?_)
      refine wg_iload (d66_89 L xs) rfl ?_
      refine wg_iconst (d66_91 L xs) (x := 1) (by decide) ?_
      refine wg_iadd (d66_92 L xs) ?_
      refine wg_top (y := (nI ((t_co (gl l) st to) + 1))) (nI_add (t_co (gl l) st to) 1) ?_
      refine wg_goto (d66_93 L xs) (t := 98) (by decide) ?_
      refine wg_puti (d66_98 L xs) (cj := 4) (k0 := 2) rfl Hr.1 (tm_c Hr) (Nat.le_of_ble_eq_true rfl) rfl rfl (tm_cI2 Hr) ?_
      rw [mg_M_I]
      refine wg_aload_n (d66_101 L xs) rfl ?_
      refine wg_iload (d66_102 L xs) rfl ?_
      refine wg_puti (d66_104 L xs) (cj := 4) (k0 := 3) rfl Hr.1 (tm_c Hr) (Nat.le_of_ble_eq_true rfl) rfl rfl (tm_cI3 Hr) ?_
      rw [mg_M_I]
      refine wg_aload_n (d66_107 L xs) rfl ?_
      refine wg_iload (d66_108 L xs) rfl ?_
      refine wg_if_eq (d66_110 L xs) (t := 127) (by decide) (fun hp => absurd hp (by decide)) (fun _ => ?_)
      refine wg_aload_n (d66_113 L xs) rfl ?_
      refine wg_iload (d66_114 L xs) rfl ?_
      refine wg_iconst (d66_116 L xs) (x := 1) (by decide) ?_
      refine wg_iadd (d66_117 L xs) ?_
      refine wg_top (y := (nI ((t_sl (gl l) st to) + 1))) (nI_add (t_sl (gl l) st to) 1) ?_
      refine wg_iload_n (d66_118 L xs) rfl ?_
      refine wg_bipush (d66_119 L xs) (x := 32) (by decide) ?_
      refine wg_invv (d66_121 L xs) (kd := 7) (mj := 41) (n := 3) rfl (Or.inl rfl) (ys := [.int 32, .int (nI to), .int (nI ((t_sl (gl l) st to) + 1))]) (r := [.ref r]) rfl rfl H.1 (tx_c H) rfl (Nat.le_of_ble_eq_true rfl) (ts_num (o := some b) (fr := t_sl (gl l) st to + 1) (to := to) (most := 32) H (hold_M hl hra) (by omega) (by decide) (by omega) (by have h9 := hb; unfold t_bits at h9; rw [if_pos (by omega)] at h9; exact h9)) ?_
      rintro _ _ ⟨rfl, rfl⟩
      refine wg_goto (d66_124 L xs) (t := 129) (by decide) ?_
      refine wg_puti (d66_129 L xs) (cj := 4) (k0 := 4) rfl Hr.1 (tm_c Hr) (Nat.le_of_ble_eq_true rfl) rfl rfl (tm_cI4 Hr) ?_
      rw [mg_M_I]
      refine wg_aload_n (d66_132 L xs) rfl ?_
      refine wg_get (d66_133 L xs) (kd := 1) (cj := 4) (k0 := 4) rfl (Or.inl rfl) Hr.1 (tm_c Hr) rfl ?_
      refine wg_top (y := (nI b)) (by rw [mg_M_own]; rfl) ?_
      refine wg_iconst (d66_136 L xs) (x := (-1)) (by decide) ?_
      refine wg_icmp_ne (d66_137 L xs) (t := 142) (by decide) (fun h15 => ?_) (fun h15 => absurd (Classical.not_not.mp h15) (nI_neg1 (by omega)))
      refine wg_aload_n (d66_142 L xs) rfl ?_
      refine wg_get (d66_143 L xs) (kd := 1) (cj := 4) (k0 := 0) rfl (Or.inl rfl) Hr.1 (tm_c Hr) rfl ?_
      refine wg_top (y := (-1)) (by rw [mg_M_own]; rfl) ?_
      refine wg_tswOut (d66_146 L xs) (t := 269) (by decide) (by decide) ?_
      refine wg_iconst (d66_269 L xs) (x := 0) (by decide) ?_
      exact wg_iret (d66_270 L xs) rfl rfl (tm_post_n (t_rest_nk hk))
theorem tm_rest_0 {fr to st res b : Nat} (H : isT a) (hl : hold s a l) (Hr : isM r) (hra : ¬ a = r) (hto : to < 2 ^ 29) (hst : st ≤ to) (hr1 : s.1 r 1 = nI res) (hk : t_kind (gl l) st (t_co (gl l) st to) = some 0) (hb : t_bits (gl l) st to = some b) : wp L xs (d + 4) 66 21 [some (.ref r), some (.ref a), some (.int (nI fr)), some (.int (nI to)), some (.int (nI st)), none, none, none, none] [] s (tm_post s r (t_rest (gl l) st to res)) := by
  obtain ⟨hs1, hs2, hs3⟩ := t_sl_le (g := gl l) hst
  have hq0 := bI_lt (t_tgt (gl l) (t_co (gl l) st to + 1) (t_sl (gl l) st to))
  have hq1 := bI_lt (t_tgt (gl l) (t_sl (gl l) st to) (t_sl (gl l) st to))
  have hb100 : b ≤ 32 := by
    have h9 := hb
    unfold t_bits at h9
    split at h9
    · exact t_num_le h9
    · cases h9; exact Nat.le_refl _
  refine wg_aload_n (d66_21 L xs) rfl ?_
  refine wg_bipush (d66_22 L xs) (x := 47) (by decide) ?_
  refine wg_iload (d66_24 L xs) rfl ?_
  refine wg_iload_n (d66_26 L xs) rfl ?_
  refine wg_invv (d66_27 L xs) (kd := 7) (mj := 37) (n := 3) rfl (Or.inl rfl) (ys := [.int (nI to), .int (nI st), .int 47]) (r := []) rfl rfl H.1 (tx_c H) rfl (Nat.le_of_ble_eq_true rfl) (ts_find (c := 47) (fr := st) (to := to) H hl (by decide) (by omega) (by omega) rfl) ?_
  rintro _ _ ⟨rfl, rfl⟩
  refine wg_istore (d66_30 L xs) (ls' := [some (.ref r), some (.ref a), some (.int (nI fr)), some (.int (nI to)), some (.int (nI st)), some (.int (nI (t_sl (gl l) st to))), none, none, none]) (Nat.le_of_ble_eq_true rfl) rfl ?_
  refine wg_aload_n (d66_32 L xs) rfl ?_
  refine wg_bipush (d66_33 L xs) (x := 58) (by decide) ?_
  refine wg_iload (d66_35 L xs) rfl ?_
  refine wg_iload (d66_37 L xs) rfl ?_
  refine wg_invv (d66_39 L xs) (kd := 7) (mj := 37) (n := 3) rfl (Or.inl rfl) (ys := [.int (nI (t_sl (gl l) st to)), .int (nI st), .int 58]) (r := []) rfl rfl H.1 (tx_c H) rfl (Nat.le_of_ble_eq_true rfl) (ts_find (c := 58) (fr := st) (to := t_sl (gl l) st to) H hl (by decide) (by omega) (by omega) rfl) ?_
  rintro _ _ ⟨rfl, rfl⟩
  refine wg_istore (d66_42 L xs) (ls' := [some (.ref r), some (.ref a), some (.int (nI fr)), some (.int (nI to)), some (.int (nI st)), some (.int (nI (t_sl (gl l) st to))), some (.int (nI (t_co (gl l) st to))), none, none]) (Nat.le_of_ble_eq_true rfl) rfl ?_
  refine wg_iload (d66_44 L xs) rfl ?_
  refine wg_iload (d66_46 L xs) rfl ?_
  refine wn_icmp_ge (d66_48 L xs) (x := t_co (gl l) st to) (y := t_sl (gl l) st to) (by omega) (by omega) (t := 55) (by decide) (fun h1 => ?_) (fun h1 => ?_)
  · refine wg_iconst (d66_55 L xs) (x := 0) (by decide) ?_
    refine wg_istore (d66_56 L xs) (ls' := [some (.ref r), some (.ref a), some (.int (nI fr)), some (.int (nI to)), some (.int (nI st)), some (.int (nI (t_sl (gl l) st to))), some (.int (nI (t_co (gl l) st to))), some (.int 0), none]) (Nat.le_of_ble_eq_true rfl) rfl ?_
    refine wg_iload (d66_58 L xs) rfl ?_
    refine wg_iload_n (d66_60 L xs) rfl ?_
    refine wn_icmp_ge (d66_61 L xs) (x := t_sl (gl l) st to) (y := to) (by omega) (by omega) (t := 68) (by decide) (fun h2 => ?_) (fun h2 => ?_)
    · refine wg_iconst (d66_68 L xs) (x := 0) (by decide) ?_
      refine wg_istore (d66_69 L xs) (ls' := [some (.ref r), some (.ref a), some (.int (nI fr)), some (.int (nI to)), some (.int (nI st)), some (.int (nI (t_sl (gl l) st to))), some (.int (nI (t_co (gl l) st to))), some (.int 0), some (.int 0)]) (Nat.le_of_ble_eq_true rfl) rfl ?_
      refine wg_aload_n (d66_71 L xs) rfl ?_
      refine wg_aload_n (d66_72 L xs) rfl ?_
      refine wg_iload (d66_73 L xs) rfl ?_
      refine wg_iload (d66_75 L xs) rfl ?_
      refine wg_invs (d66_77 L xs) (kd := 6) (mj := 68) (n := 3) rfl (Or.inl rfl) (ys := [.int (nI (t_co (gl l) st to)), .int (nI st), .ref a]) (r := [.ref r]) rfl rfl (Nat.le_of_ble_eq_true rfl) (by have h9 := tm_kind (L := L) (xs := xs) (d := d + 1) (fr := st) (to := t_co (gl l) st to) H hl (by omega) (by omega); rw [hk] at h9; exact h9) ?_
      rintro _ _ ⟨rfl, rfl⟩
      refine wg_puti (d66_80 L xs) (cj := 4) (k0 := 0) rfl Hr.1 (tm_c Hr) (Nat.le_of_ble_eq_true rfl) rfl rfl (tm_cI0 Hr) ?_
      rw [mg_I_M]
      refine wg_aload_n (d66_83 L xs) rfl ?_
      refine wg_iload (d66_84 L xs) rfl ?_
      refine wg_if_eq (d66_86 L xs) (t := 96) (by decide) (fun _ => ?_) (fun hn => absurd (by decide) hn)
      refine wg_iload (d66_96 L xs) rfl ?_
      refine wg_puti (d66_98 L xs) (cj := 4) (k0 := 2) rfl Hr.1 (tm_c Hr) (Nat.le_of_ble_eq_true rfl) rfl rfl (tm_cI2 Hr) ?_
      rw [mg_M_I]
      refine wg_aload_n (d66_101 L xs) rfl ?_
      refine wg_iload (d66_102 L xs) rfl ?_
      refine wg_puti (d66_104 L xs) (cj := 4) (k0 := 3) rfl Hr.1 (tm_c Hr) (Nat.le_of_ble_eq_true rfl) rfl rfl (tm_cI3 Hr) ?_
      rw [mg_M_I]
      refine wg_aload_n (d66_107 L xs) rfl ?_
      refine wg_iload (d66_108 L xs) rfl ?_
      refine wg_if_eq (d66_110 L xs) (t := 127) (by decide) (fun _ => ?_) (fun hn => absurd (by decide) hn)
      refine wg_bipush (d66_127 L xs) (x := 32) (by decide) ?_
      refine wg_puti (d66_129 L xs) (cj := 4) (k0 := 4) rfl Hr.1 (tm_c Hr) (Nat.le_of_ble_eq_true rfl) rfl rfl (tm_cI4 Hr) ?_
      rw [mg_M_I]
      refine wg_aload_n (d66_132 L xs) rfl ?_
      refine wg_get (d66_133 L xs) (kd := 1) (cj := 4) (k0 := 4) rfl (Or.inl rfl) Hr.1 (tm_c Hr) rfl ?_
      refine wg_top (y := 32) (by rw [mg_M_own]; rfl) ?_
      refine wg_iconst (d66_136 L xs) (x := (-1)) (by decide) ?_
      refine wg_icmp_ne (d66_137 L xs) (t := 142) (by decide) (fun _ => ?_) (fun hn => absurd (by decide) hn)
      refine wg_aload_n (d66_142 L xs) rfl ?_
      refine wg_get (d66_143 L xs) (kd := 1) (cj := 4) (k0 := 0) rfl (Or.inl rfl) Hr.1 (tm_c Hr) rfl ?_
      refine wg_top (y := 0) (by rw [mg_M_own]; rfl) ?_
      refine wg_tswIn (d66_146 L xs) (of := 38) (t := 184) (by decide) (by decide) (by decide) ?_
      refine wg_iload (d66_184 L xs) rfl ?_
      refine wg_if_ne (d66_186 L xs) (t := 198) (by decide) (fun hp => absurd hp (by decide)) (fun _ => ?_)
      refine wg_iload (d66_189 L xs) rfl ?_
      refine wg_if_ne (d66_191 L xs) (t := 198) (by decide) (fun hp => absurd hp (by decide)) (fun _ => ?_)
      refine wg_iconst (d66_194 L xs) (x := 1) (by decide) ?_
      refine wg_goto (d66_195 L xs) (t := 199) (by decide) ?_
      have htf : t_tf (gl l) st to = t_sl (gl l) st to := by unfold t_tf; rw [if_neg (by omega)]
      exact wg_iret (d66_199 L xs) rfl rfl (tm_post_s (T := (0, res, t_tf (gl l) st to, t_sl (gl l) st to, b, 0)) (by rw [t_rest_k hk hb, t_rk, if_pos rfl]; rw [if_pos ⟨by omega, by omega⟩]) rfl (fun _ => hr1) (by rw [htf]; rfl) rfl (by first | rfl | (intro _; rfl) | (intro _; have h9 := hb; unfold t_bits at h9; rw [if_neg (by omega)] at h9; cases h9; rfl)) (fun q => absurd (show (0 : Nat) = 4 from q) (by decide)))
    · refine wg_iconst (d66_64 L xs) (x := 1) (by decide) ?_
      refine wg_goto (d66_65 L xs) (t := 69) (by decide) ?_
      refine wg_istore (d66_69 L xs) (ls' := [some (.ref r), some (.ref a), some (.int (nI fr)), some (.int (nI to)), some (.int (nI st)), some (.int (nI (t_sl (gl l) st to))), some (.int (nI (t_co (gl l) st to))), some (.int 0), some (.int 1)]) (Nat.le_of_ble_eq_true rfl) rfl ?_
      refine wg_aload_n (d66_71 L xs) rfl ?_
      refine wg_aload_n (d66_72 L xs) rfl ?_
      refine wg_iload (d66_73 L xs) rfl ?_
      refine wg_iload (d66_75 L xs) rfl ?_
      refine wg_invs (d66_77 L xs) (kd := 6) (mj := 68) (n := 3) rfl (Or.inl rfl) (ys := [.int (nI (t_co (gl l) st to)), .int (nI st), .ref a]) (r := [.ref r]) rfl rfl (Nat.le_of_ble_eq_true rfl) (by have h9 := tm_kind (L := L) (xs := xs) (d := d + 1) (fr := st) (to := t_co (gl l) st to) H hl (by omega) (by omega); rw [hk] at h9; exact h9) ?_
      rintro _ _ ⟨rfl, rfl⟩
      refine wg_puti (d66_80 L xs) (cj := 4) (k0 := 0) rfl Hr.1 (tm_c Hr) (Nat.le_of_ble_eq_true rfl) rfl rfl (tm_cI0 Hr) ?_
      rw [mg_I_M]
      refine wg_aload_n (d66_83 L xs) rfl ?_
      refine wg_iload (d66_84 L xs) rfl ?_
      refine wg_if_eq (d66_86 L xs) (t := 96) (by decide) (fun _ => ?_) (fun hn => absurd (by decide) hn)
      refine wg_iload (d66_96 L xs) rfl ?_
      refine wg_puti (d66_98 L xs) (cj := 4) (k0 := 2) rfl Hr.1 (tm_c Hr) (Nat.le_of_ble_eq_true rfl) rfl rfl (tm_cI2 Hr) ?_
      rw [mg_M_I]
      refine wg_aload_n (d66_101 L xs) rfl ?_
      refine wg_iload (d66_102 L xs) rfl ?_
      refine wg_puti (d66_104 L xs) (cj := 4) (k0 := 3) rfl Hr.1 (tm_c Hr) (Nat.le_of_ble_eq_true rfl) rfl rfl (tm_cI3 Hr) ?_
      rw [mg_M_I]
      refine wg_aload_n (d66_107 L xs) rfl ?_
      refine wg_iload (d66_108 L xs) rfl ?_
      refine wg_if_eq (d66_110 L xs) (t := 127) (by decide) (fun hp => absurd hp (by decide)) (fun _ => ?_)
      refine wg_aload_n (d66_113 L xs) rfl ?_
      refine wg_iload (d66_114 L xs) rfl ?_
      refine wg_iconst (d66_116 L xs) (x := 1) (by decide) ?_
      refine wg_iadd (d66_117 L xs) ?_
      refine wg_top (y := (nI ((t_sl (gl l) st to) + 1))) (nI_add (t_sl (gl l) st to) 1) ?_
      refine wg_iload_n (d66_118 L xs) rfl ?_
      refine wg_bipush (d66_119 L xs) (x := 32) (by decide) ?_
      refine wg_invv (d66_121 L xs) (kd := 7) (mj := 41) (n := 3) rfl (Or.inl rfl) (ys := [.int 32, .int (nI to), .int (nI ((t_sl (gl l) st to) + 1))]) (r := [.ref r]) rfl rfl H.1 (tx_c H) rfl (Nat.le_of_ble_eq_true rfl) (ts_num (o := some b) (fr := t_sl (gl l) st to + 1) (to := to) (most := 32) H (hold_M hl hra) (by omega) (by decide) (by omega) (by have h9 := hb; unfold t_bits at h9; rw [if_pos (by omega)] at h9; exact h9)) ?_
      rintro _ _ ⟨rfl, rfl⟩
      refine wg_goto (d66_124 L xs) (t := 129) (by decide) ?_
      refine wg_puti (d66_129 L xs) (cj := 4) (k0 := 4) rfl Hr.1 (tm_c Hr) (Nat.le_of_ble_eq_true rfl) rfl rfl (tm_cI4 Hr) ?_
      rw [mg_M_I]
      refine wg_aload_n (d66_132 L xs) rfl ?_
      refine wg_get (d66_133 L xs) (kd := 1) (cj := 4) (k0 := 4) rfl (Or.inl rfl) Hr.1 (tm_c Hr) rfl ?_
      refine wg_top (y := (nI b)) (by rw [mg_M_own]; rfl) ?_
      refine wg_iconst (d66_136 L xs) (x := (-1)) (by decide) ?_
      refine wg_icmp_ne (d66_137 L xs) (t := 142) (by decide) (fun h10 => ?_) (fun h10 => absurd (Classical.not_not.mp h10) (nI_neg1 (by omega)))
      refine wg_aload_n (d66_142 L xs) rfl ?_
      refine wg_get (d66_143 L xs) (kd := 1) (cj := 4) (k0 := 0) rfl (Or.inl rfl) Hr.1 (tm_c Hr) rfl ?_
      refine wg_top (y := 0) (by rw [mg_M_own]; rfl) ?_
      refine wg_tswIn (d66_146 L xs) (of := 38) (t := 184) (by decide) (by decide) (by decide) ?_
      refine wg_iload (d66_184 L xs) rfl ?_
      refine wg_if_ne (d66_186 L xs) (t := 198) (by decide) (fun hp => absurd hp (by decide)) (fun _ => ?_)
      refine wg_iload (d66_189 L xs) rfl ?_
      refine wg_if_ne (d66_191 L xs) (t := 198) (by decide) (fun _ => ?_) (fun hn => absurd (by decide) hn)
      refine wg_iconst (d66_198 L xs) (x := 0) (by decide) ?_
      have htf : t_tf (gl l) st to = t_sl (gl l) st to := by unfold t_tf; rw [if_neg (by omega)]
      exact wg_iret (d66_199 L xs) rfl rfl (tm_post_n (by rw [t_rest_k hk hb, t_rk, if_pos rfl]; rw [if_neg (fun q => by omega)]))
  · refine wg_iconst (d66_51 L xs) (x := 1) (by decide) ?_
    refine wg_goto (d66_52 L xs) (t := 56) (by decide) ?_
    refine wg_istore (d66_56 L xs) (ls' := [some (.ref r), some (.ref a), some (.int (nI fr)), some (.int (nI to)), some (.int (nI st)), some (.int (nI (t_sl (gl l) st to))), some (.int (nI (t_co (gl l) st to))), some (.int 1), none]) (Nat.le_of_ble_eq_true rfl) rfl ?_
    refine wg_iload (d66_58 L xs) rfl ?_
    refine wg_iload_n (d66_60 L xs) rfl ?_
    refine wn_icmp_ge (d66_61 L xs) (x := t_sl (gl l) st to) (y := to) (by omega) (by omega) (t := 68) (by decide) (fun h13 => ?_) (fun h13 => ?_)
    · refine wg_iconst (d66_68 L xs) (x := 0) (by decide) ?_
      refine wg_istore (d66_69 L xs) (ls' := [some (.ref r), some (.ref a), some (.int (nI fr)), some (.int (nI to)), some (.int (nI st)), some (.int (nI (t_sl (gl l) st to))), some (.int (nI (t_co (gl l) st to))), some (.int 1), some (.int 0)]) (Nat.le_of_ble_eq_true rfl) rfl ?_
      refine wg_aload_n (d66_71 L xs) rfl ?_
      refine wg_aload_n (d66_72 L xs) rfl ?_
      refine wg_iload (d66_73 L xs) rfl ?_
      refine wg_iload (d66_75 L xs) rfl ?_
      refine wg_invs (d66_77 L xs) (kd := 6) (mj := 68) (n := 3) rfl (Or.inl rfl) (ys := [.int (nI (t_co (gl l) st to)), .int (nI st), .ref a]) (r := [.ref r]) rfl rfl (Nat.le_of_ble_eq_true rfl) (by have h9 := tm_kind (L := L) (xs := xs) (d := d + 1) (fr := st) (to := t_co (gl l) st to) H hl (by omega) (by omega); rw [hk] at h9; exact h9) ?_
      rintro _ _ ⟨rfl, rfl⟩
      refine wg_puti (d66_80 L xs) (cj := 4) (k0 := 0) rfl Hr.1 (tm_c Hr) (Nat.le_of_ble_eq_true rfl) rfl rfl (tm_cI0 Hr) ?_
      rw [mg_I_M]
      refine wg_aload_n (d66_83 L xs) rfl ?_
      refine wg_iload (d66_84 L xs) rfl ?_
      refine wg_if_eq (d66_86 L xs) (t := 96) (by decide) (fun hp => absurd hp (by decide)) (fun _ => ?_)
      refine wg_iload (d66_89 L xs) rfl ?_
      refine wg_iconst (d66_91 L xs) (x := 1) (by decide) ?_
      refine wg_iadd (d66_92 L xs) ?_
      refine wg_top (y := (nI ((t_co (gl l) st to) + 1))) (nI_add (t_co (gl l) st to) 1) ?_
      refine wg_goto (d66_93 L xs) (t := 98) (by decide) ?_
      refine wg_puti (d66_98 L xs) (cj := 4) (k0 := 2) rfl Hr.1 (tm_c Hr) (Nat.le_of_ble_eq_true rfl) rfl rfl (tm_cI2 Hr) ?_
      rw [mg_M_I]
      refine wg_aload_n (d66_101 L xs) rfl ?_
      refine wg_iload (d66_102 L xs) rfl ?_
      refine wg_puti (d66_104 L xs) (cj := 4) (k0 := 3) rfl Hr.1 (tm_c Hr) (Nat.le_of_ble_eq_true rfl) rfl rfl (tm_cI3 Hr) ?_
      rw [mg_M_I]
      refine wg_aload_n (d66_107 L xs) rfl ?_
      refine wg_iload (d66_108 L xs) rfl ?_
      refine wg_if_eq (d66_110 L xs) (t := 127) (by decide) (fun _ => ?_) (fun hn => absurd (by decide) hn)
      refine wg_bipush (d66_127 L xs) (x := 32) (by decide) ?_
      refine wg_puti (d66_129 L xs) (cj := 4) (k0 := 4) rfl Hr.1 (tm_c Hr) (Nat.le_of_ble_eq_true rfl) rfl rfl (tm_cI4 Hr) ?_
      rw [mg_M_I]
      refine wg_aload_n (d66_132 L xs) rfl ?_
      refine wg_get (d66_133 L xs) (kd := 1) (cj := 4) (k0 := 4) rfl (Or.inl rfl) Hr.1 (tm_c Hr) rfl ?_
      refine wg_top (y := 32) (by rw [mg_M_own]; rfl) ?_
      refine wg_iconst (d66_136 L xs) (x := (-1)) (by decide) ?_
      refine wg_icmp_ne (d66_137 L xs) (t := 142) (by decide) (fun _ => ?_) (fun hn => absurd (by decide) hn)
      refine wg_aload_n (d66_142 L xs) rfl ?_
      refine wg_get (d66_143 L xs) (kd := 1) (cj := 4) (k0 := 0) rfl (Or.inl rfl) Hr.1 (tm_c Hr) rfl ?_
      refine wg_top (y := 0) (by rw [mg_M_own]; rfl) ?_
      refine wg_tswIn (d66_146 L xs) (of := 38) (t := 184) (by decide) (by decide) (by decide) ?_
      refine wg_iload (d66_184 L xs) rfl ?_
      refine wg_if_ne (d66_186 L xs) (t := 198) (by decide) (fun _ => ?_) (fun hn => absurd (by decide) hn)
      refine wg_iconst (d66_198 L xs) (x := 0) (by decide) ?_
      have htf : t_tf (gl l) st to = t_co (gl l) st to + 1 := by unfold t_tf; rw [if_pos (by omega)]
      exact wg_iret (d66_199 L xs) rfl rfl (tm_post_n (by rw [t_rest_k hk hb, t_rk, if_pos rfl]; rw [if_neg (fun q => by omega)]))
    · refine wg_iconst (d66_64 L xs) (x := 1) (by decide) ?_
      refine wg_goto (d66_65 L xs) (t := 69) (by decide) ?_
      refine wg_istore (d66_69 L xs) (ls' := [some (.ref r), some (.ref a), some (.int (nI fr)), some (.int (nI to)), some (.int (nI st)), some (.int (nI (t_sl (gl l) st to))), some (.int (nI (t_co (gl l) st to))), some (.int 1), some (.int 1)]) (Nat.le_of_ble_eq_true rfl) rfl ?_
      refine wg_aload_n (d66_71 L xs) rfl ?_
      refine wg_aload_n (d66_72 L xs) rfl ?_
      refine wg_iload (d66_73 L xs) rfl ?_
      refine wg_iload (d66_75 L xs) rfl ?_
      refine wg_invs (d66_77 L xs) (kd := 6) (mj := 68) (n := 3) rfl (Or.inl rfl) (ys := [.int (nI (t_co (gl l) st to)), .int (nI st), .ref a]) (r := [.ref r]) rfl rfl (Nat.le_of_ble_eq_true rfl) (by have h9 := tm_kind (L := L) (xs := xs) (d := d + 1) (fr := st) (to := t_co (gl l) st to) H hl (by omega) (by omega); rw [hk] at h9; exact h9) ?_
      rintro _ _ ⟨rfl, rfl⟩
      refine wg_puti (d66_80 L xs) (cj := 4) (k0 := 0) rfl Hr.1 (tm_c Hr) (Nat.le_of_ble_eq_true rfl) rfl rfl (tm_cI0 Hr) ?_
      rw [mg_I_M]
      refine wg_aload_n (d66_83 L xs) rfl ?_
      refine wg_iload (d66_84 L xs) rfl ?_
      refine wg_if_eq (d66_86 L xs) (t := 96) (by decide) (fun hp => absurd hp (by decide)) (fun _ => ?_)
      refine wg_iload (d66_89 L xs) rfl ?_
      refine wg_iconst (d66_91 L xs) (x := 1) (by decide) ?_
      refine wg_iadd (d66_92 L xs) ?_
      refine wg_top (y := (nI ((t_co (gl l) st to) + 1))) (nI_add (t_co (gl l) st to) 1) ?_
      refine wg_goto (d66_93 L xs) (t := 98) (by decide) ?_
      refine wg_puti (d66_98 L xs) (cj := 4) (k0 := 2) rfl Hr.1 (tm_c Hr) (Nat.le_of_ble_eq_true rfl) rfl rfl (tm_cI2 Hr) ?_
      rw [mg_M_I]
      refine wg_aload_n (d66_101 L xs) rfl ?_
      refine wg_iload (d66_102 L xs) rfl ?_
      refine wg_puti (d66_104 L xs) (cj := 4) (k0 := 3) rfl Hr.1 (tm_c Hr) (Nat.le_of_ble_eq_true rfl) rfl rfl (tm_cI3 Hr) ?_
      rw [mg_M_I]
      refine wg_aload_n (d66_107 L xs) rfl ?_
      refine wg_iload (d66_108 L xs) rfl ?_
      refine wg_if_eq (d66_110 L xs) (t := 127) (by decide) (fun hp => absurd hp (by decide)) (fun _ => ?_)
      refine wg_aload_n (d66_113 L xs) rfl ?_
      refine wg_iload (d66_114 L xs) rfl ?_
      refine wg_iconst (d66_116 L xs) (x := 1) (by decide) ?_
      refine wg_iadd (d66_117 L xs) ?_
      refine wg_top (y := (nI ((t_sl (gl l) st to) + 1))) (nI_add (t_sl (gl l) st to) 1) ?_
      refine wg_iload_n (d66_118 L xs) rfl ?_
      refine wg_bipush (d66_119 L xs) (x := 32) (by decide) ?_
      refine wg_invv (d66_121 L xs) (kd := 7) (mj := 41) (n := 3) rfl (Or.inl rfl) (ys := [.int 32, .int (nI to), .int (nI ((t_sl (gl l) st to) + 1))]) (r := [.ref r]) rfl rfl H.1 (tx_c H) rfl (Nat.le_of_ble_eq_true rfl) (ts_num (o := some b) (fr := t_sl (gl l) st to + 1) (to := to) (most := 32) H (hold_M hl hra) (by omega) (by decide) (by omega) (by have h9 := hb; unfold t_bits at h9; rw [if_pos (by omega)] at h9; exact h9)) ?_
      rintro _ _ ⟨rfl, rfl⟩
      refine wg_goto (d66_124 L xs) (t := 129) (by decide) ?_
      refine wg_puti (d66_129 L xs) (cj := 4) (k0 := 4) rfl Hr.1 (tm_c Hr) (Nat.le_of_ble_eq_true rfl) rfl rfl (tm_cI4 Hr) ?_
      rw [mg_M_I]
      refine wg_aload_n (d66_132 L xs) rfl ?_
      refine wg_get (d66_133 L xs) (kd := 1) (cj := 4) (k0 := 4) rfl (Or.inl rfl) Hr.1 (tm_c Hr) rfl ?_
      refine wg_top (y := (nI b)) (by rw [mg_M_own]; rfl) ?_
      refine wg_iconst (d66_136 L xs) (x := (-1)) (by decide) ?_
      refine wg_icmp_ne (d66_137 L xs) (t := 142) (by decide) (fun h20 => ?_) (fun h20 => absurd (Classical.not_not.mp h20) (nI_neg1 (by omega)))
      refine wg_aload_n (d66_142 L xs) rfl ?_
      refine wg_get (d66_143 L xs) (kd := 1) (cj := 4) (k0 := 0) rfl (Or.inl rfl) Hr.1 (tm_c Hr) rfl ?_
      refine wg_top (y := 0) (by rw [mg_M_own]; rfl) ?_
      refine wg_tswIn (d66_146 L xs) (of := 38) (t := 184) (by decide) (by decide) (by decide) ?_
      refine wg_iload (d66_184 L xs) rfl ?_
      refine wg_if_ne (d66_186 L xs) (t := 198) (by decide) (fun _ => ?_) (fun hn => absurd (by decide) hn)
      refine wg_iconst (d66_198 L xs) (x := 0) (by decide) ?_
      have htf : t_tf (gl l) st to = t_co (gl l) st to + 1 := by unfold t_tf; rw [if_pos (by omega)]
      exact wg_iret (d66_199 L xs) rfl rfl (tm_post_n (by rw [t_rest_k hk hb, t_rk, if_pos rfl]; rw [if_neg (fun q => by omega)]))
theorem tm_rest_1 {fr to st res b : Nat} (H : isT a) (hl : hold s a l) (Hr : isM r) (hra : ¬ a = r) (hto : to < 2 ^ 29) (hst : st ≤ to) (hr1 : s.1 r 1 = nI res) (hk : t_kind (gl l) st (t_co (gl l) st to) = some 1) (hb : t_bits (gl l) st to = some b) : wp L xs (d + 4) 66 21 [some (.ref r), some (.ref a), some (.int (nI fr)), some (.int (nI to)), some (.int (nI st)), none, none, none, none] [] s (tm_post s r (t_rest (gl l) st to res)) := by
  obtain ⟨hs1, hs2, hs3⟩ := t_sl_le (g := gl l) hst
  have hq0 := bI_lt (t_tgt (gl l) (t_co (gl l) st to + 1) (t_sl (gl l) st to))
  have hq1 := bI_lt (t_tgt (gl l) (t_sl (gl l) st to) (t_sl (gl l) st to))
  have hb100 : b ≤ 32 := by
    have h9 := hb
    unfold t_bits at h9
    split at h9
    · exact t_num_le h9
    · cases h9; exact Nat.le_refl _
  refine wg_aload_n (d66_21 L xs) rfl ?_
  refine wg_bipush (d66_22 L xs) (x := 47) (by decide) ?_
  refine wg_iload (d66_24 L xs) rfl ?_
  refine wg_iload_n (d66_26 L xs) rfl ?_
  refine wg_invv (d66_27 L xs) (kd := 7) (mj := 37) (n := 3) rfl (Or.inl rfl) (ys := [.int (nI to), .int (nI st), .int 47]) (r := []) rfl rfl H.1 (tx_c H) rfl (Nat.le_of_ble_eq_true rfl) (ts_find (c := 47) (fr := st) (to := to) H hl (by decide) (by omega) (by omega) rfl) ?_
  rintro _ _ ⟨rfl, rfl⟩
  refine wg_istore (d66_30 L xs) (ls' := [some (.ref r), some (.ref a), some (.int (nI fr)), some (.int (nI to)), some (.int (nI st)), some (.int (nI (t_sl (gl l) st to))), none, none, none]) (Nat.le_of_ble_eq_true rfl) rfl ?_
  refine wg_aload_n (d66_32 L xs) rfl ?_
  refine wg_bipush (d66_33 L xs) (x := 58) (by decide) ?_
  refine wg_iload (d66_35 L xs) rfl ?_
  refine wg_iload (d66_37 L xs) rfl ?_
  refine wg_invv (d66_39 L xs) (kd := 7) (mj := 37) (n := 3) rfl (Or.inl rfl) (ys := [.int (nI (t_sl (gl l) st to)), .int (nI st), .int 58]) (r := []) rfl rfl H.1 (tx_c H) rfl (Nat.le_of_ble_eq_true rfl) (ts_find (c := 58) (fr := st) (to := t_sl (gl l) st to) H hl (by decide) (by omega) (by omega) rfl) ?_
  rintro _ _ ⟨rfl, rfl⟩
  refine wg_istore (d66_42 L xs) (ls' := [some (.ref r), some (.ref a), some (.int (nI fr)), some (.int (nI to)), some (.int (nI st)), some (.int (nI (t_sl (gl l) st to))), some (.int (nI (t_co (gl l) st to))), none, none]) (Nat.le_of_ble_eq_true rfl) rfl ?_
  refine wg_iload (d66_44 L xs) rfl ?_
  refine wg_iload (d66_46 L xs) rfl ?_
  refine wn_icmp_ge (d66_48 L xs) (x := t_co (gl l) st to) (y := t_sl (gl l) st to) (by omega) (by omega) (t := 55) (by decide) (fun h1 => ?_) (fun h1 => ?_)
  · refine wg_iconst (d66_55 L xs) (x := 0) (by decide) ?_
    refine wg_istore (d66_56 L xs) (ls' := [some (.ref r), some (.ref a), some (.int (nI fr)), some (.int (nI to)), some (.int (nI st)), some (.int (nI (t_sl (gl l) st to))), some (.int (nI (t_co (gl l) st to))), some (.int 0), none]) (Nat.le_of_ble_eq_true rfl) rfl ?_
    refine wg_iload (d66_58 L xs) rfl ?_
    refine wg_iload_n (d66_60 L xs) rfl ?_
    refine wn_icmp_ge (d66_61 L xs) (x := t_sl (gl l) st to) (y := to) (by omega) (by omega) (t := 68) (by decide) (fun h2 => ?_) (fun h2 => ?_)
    · refine wg_iconst (d66_68 L xs) (x := 0) (by decide) ?_
      refine wg_istore (d66_69 L xs) (ls' := [some (.ref r), some (.ref a), some (.int (nI fr)), some (.int (nI to)), some (.int (nI st)), some (.int (nI (t_sl (gl l) st to))), some (.int (nI (t_co (gl l) st to))), some (.int 0), some (.int 0)]) (Nat.le_of_ble_eq_true rfl) rfl ?_
      refine wg_aload_n (d66_71 L xs) rfl ?_
      refine wg_aload_n (d66_72 L xs) rfl ?_
      refine wg_iload (d66_73 L xs) rfl ?_
      refine wg_iload (d66_75 L xs) rfl ?_
      refine wg_invs (d66_77 L xs) (kd := 6) (mj := 68) (n := 3) rfl (Or.inl rfl) (ys := [.int (nI (t_co (gl l) st to)), .int (nI st), .ref a]) (r := [.ref r]) rfl rfl (Nat.le_of_ble_eq_true rfl) (by have h9 := tm_kind (L := L) (xs := xs) (d := d + 1) (fr := st) (to := t_co (gl l) st to) H hl (by omega) (by omega); rw [hk] at h9; exact h9) ?_
      rintro _ _ ⟨rfl, rfl⟩
      refine wg_puti (d66_80 L xs) (cj := 4) (k0 := 0) rfl Hr.1 (tm_c Hr) (Nat.le_of_ble_eq_true rfl) rfl rfl (tm_cI0 Hr) ?_
      rw [mg_I_M]
      refine wg_aload_n (d66_83 L xs) rfl ?_
      refine wg_iload (d66_84 L xs) rfl ?_
      refine wg_if_eq (d66_86 L xs) (t := 96) (by decide) (fun _ => ?_) (fun hn => absurd (by decide) hn)
      refine wg_iload (d66_96 L xs) rfl ?_
      refine wg_puti (d66_98 L xs) (cj := 4) (k0 := 2) rfl Hr.1 (tm_c Hr) (Nat.le_of_ble_eq_true rfl) rfl rfl (tm_cI2 Hr) ?_
      rw [mg_M_I]
      refine wg_aload_n (d66_101 L xs) rfl ?_
      refine wg_iload (d66_102 L xs) rfl ?_
      refine wg_puti (d66_104 L xs) (cj := 4) (k0 := 3) rfl Hr.1 (tm_c Hr) (Nat.le_of_ble_eq_true rfl) rfl rfl (tm_cI3 Hr) ?_
      rw [mg_M_I]
      refine wg_aload_n (d66_107 L xs) rfl ?_
      refine wg_iload (d66_108 L xs) rfl ?_
      refine wg_if_eq (d66_110 L xs) (t := 127) (by decide) (fun _ => ?_) (fun hn => absurd (by decide) hn)
      refine wg_bipush (d66_127 L xs) (x := 32) (by decide) ?_
      refine wg_puti (d66_129 L xs) (cj := 4) (k0 := 4) rfl Hr.1 (tm_c Hr) (Nat.le_of_ble_eq_true rfl) rfl rfl (tm_cI4 Hr) ?_
      rw [mg_M_I]
      refine wg_aload_n (d66_132 L xs) rfl ?_
      refine wg_get (d66_133 L xs) (kd := 1) (cj := 4) (k0 := 4) rfl (Or.inl rfl) Hr.1 (tm_c Hr) rfl ?_
      refine wg_top (y := 32) (by rw [mg_M_own]; rfl) ?_
      refine wg_iconst (d66_136 L xs) (x := (-1)) (by decide) ?_
      refine wg_icmp_ne (d66_137 L xs) (t := 142) (by decide) (fun _ => ?_) (fun hn => absurd (by decide) hn)
      refine wg_aload_n (d66_142 L xs) rfl ?_
      refine wg_get (d66_143 L xs) (kd := 1) (cj := 4) (k0 := 0) rfl (Or.inl rfl) Hr.1 (tm_c Hr) rfl ?_
      refine wg_top (y := 1) (by rw [mg_M_own]; rfl) ?_
      refine wg_tswIn (d66_146 L xs) (of := 54) (t := 200) (by decide) (by decide) (by decide) ?_
      refine wg_iload (d66_200 L xs) rfl ?_
      refine wg_if_ne (d66_202 L xs) (t := 224) (by decide) (fun hp => absurd hp (by decide)) (fun _ => ?_)
      refine wg_aload_n (d66_205 L xs) rfl ?_
      refine wg_aload_n (d66_206 L xs) rfl ?_
      refine wg_get (d66_207 L xs) (kd := 1) (cj := 4) (k0 := 2) rfl (Or.inl rfl) Hr.1 (tm_c Hr) rfl ?_
      refine wg_top (y := (nI (t_sl (gl l) st to))) (by rw [mg_M_own]; rfl) ?_
      refine wg_aload_n (d66_210 L xs) rfl ?_
      refine wg_get (d66_211 L xs) (kd := 1) (cj := 4) (k0 := 3) rfl (Or.inl rfl) Hr.1 (tm_c Hr) rfl ?_
      refine wg_top (y := (nI (t_sl (gl l) st to))) (by rw [mg_M_own]; rfl) ?_
      refine wg_invs (d66_214 L xs) (kd := 6) (mj := 64) (n := 3) rfl (Or.inl rfl) (ys := [.int (nI (t_sl (gl l) st to)), .int (nI (t_sl (gl l) st to)), .ref a]) (r := []) rfl rfl (Nat.le_of_ble_eq_true rfl) (tm_tgt H (hold_M hl hra) (by omega) (by omega)) ?_
      rintro _ _ ⟨rfl, rfl⟩
      refine wn_if_eq (d66_217 L xs) (x := bI (t_tgt (gl l) (t_sl (gl l) st to) (t_sl (gl l) st to))) (by omega) (t := 224) (by decide) (fun h7 => ?_) (fun h7 => ?_)
      · refine wg_iconst (d66_224 L xs) (x := 0) (by decide) ?_
        have htf : t_tf (gl l) st to = t_sl (gl l) st to := by unfold t_tf; rw [if_neg (by omega)]
        exact wg_iret (d66_225 L xs) rfl rfl (tm_post_n (by rw [t_rest_k hk hb, t_rk, if_neg (by decide), if_pos (by decide)]; rw [htf, if_neg (fun q => absurd q.2 (by rw [bI_f (b := t_tgt (gl l) (t_sl (gl l) st to) (t_sl (gl l) st to)) (by omega)]; decide))]))
      · refine wg_iconst (d66_220 L xs) (x := 1) (by decide) ?_
        refine wg_goto (d66_221 L xs) (t := 225) (by decide) ?_
        have htf : t_tf (gl l) st to = t_sl (gl l) st to := by unfold t_tf; rw [if_neg (by omega)]
        exact wg_iret (d66_225 L xs) rfl rfl (tm_post_s (T := (1, res, t_tf (gl l) st to, t_sl (gl l) st to, b, 0)) (by rw [t_rest_k hk hb, t_rk, if_neg (by decide), if_pos (by decide)]; rw [htf, if_pos ⟨by omega, bI_t (by omega)⟩, ← htf]) rfl (fun _ => hr1) (by rw [htf]; rfl) rfl (by first | rfl | (intro _; rfl) | (intro _; have h9 := hb; unfold t_bits at h9; rw [if_neg (by omega)] at h9; cases h9; rfl)) (fun q => absurd (show (1 : Nat) = 4 from q) (by decide)))
    · refine wg_iconst (d66_64 L xs) (x := 1) (by decide) ?_
      refine wg_goto (d66_65 L xs) (t := 69) (by decide) ?_
      refine wg_istore (d66_69 L xs) (ls' := [some (.ref r), some (.ref a), some (.int (nI fr)), some (.int (nI to)), some (.int (nI st)), some (.int (nI (t_sl (gl l) st to))), some (.int (nI (t_co (gl l) st to))), some (.int 0), some (.int 1)]) (Nat.le_of_ble_eq_true rfl) rfl ?_
      refine wg_aload_n (d66_71 L xs) rfl ?_
      refine wg_aload_n (d66_72 L xs) rfl ?_
      refine wg_iload (d66_73 L xs) rfl ?_
      refine wg_iload (d66_75 L xs) rfl ?_
      refine wg_invs (d66_77 L xs) (kd := 6) (mj := 68) (n := 3) rfl (Or.inl rfl) (ys := [.int (nI (t_co (gl l) st to)), .int (nI st), .ref a]) (r := [.ref r]) rfl rfl (Nat.le_of_ble_eq_true rfl) (by have h9 := tm_kind (L := L) (xs := xs) (d := d + 1) (fr := st) (to := t_co (gl l) st to) H hl (by omega) (by omega); rw [hk] at h9; exact h9) ?_
      rintro _ _ ⟨rfl, rfl⟩
      refine wg_puti (d66_80 L xs) (cj := 4) (k0 := 0) rfl Hr.1 (tm_c Hr) (Nat.le_of_ble_eq_true rfl) rfl rfl (tm_cI0 Hr) ?_
      rw [mg_I_M]
      refine wg_aload_n (d66_83 L xs) rfl ?_
      refine wg_iload (d66_84 L xs) rfl ?_
      refine wg_if_eq (d66_86 L xs) (t := 96) (by decide) (fun _ => ?_) (fun hn => absurd (by decide) hn)
      refine wg_iload (d66_96 L xs) rfl ?_
      refine wg_puti (d66_98 L xs) (cj := 4) (k0 := 2) rfl Hr.1 (tm_c Hr) (Nat.le_of_ble_eq_true rfl) rfl rfl (tm_cI2 Hr) ?_
      rw [mg_M_I]
      refine wg_aload_n (d66_101 L xs) rfl ?_
      refine wg_iload (d66_102 L xs) rfl ?_
      refine wg_puti (d66_104 L xs) (cj := 4) (k0 := 3) rfl Hr.1 (tm_c Hr) (Nat.le_of_ble_eq_true rfl) rfl rfl (tm_cI3 Hr) ?_
      rw [mg_M_I]
      refine wg_aload_n (d66_107 L xs) rfl ?_
      refine wg_iload (d66_108 L xs) rfl ?_
      refine wg_if_eq (d66_110 L xs) (t := 127) (by decide) (fun hp => absurd hp (by decide)) (fun _ => ?_)
      refine wg_aload_n (d66_113 L xs) rfl ?_
      refine wg_iload (d66_114 L xs) rfl ?_
      refine wg_iconst (d66_116 L xs) (x := 1) (by decide) ?_
      refine wg_iadd (d66_117 L xs) ?_
      refine wg_top (y := (nI ((t_sl (gl l) st to) + 1))) (nI_add (t_sl (gl l) st to) 1) ?_
      refine wg_iload_n (d66_118 L xs) rfl ?_
      refine wg_bipush (d66_119 L xs) (x := 32) (by decide) ?_
      refine wg_invv (d66_121 L xs) (kd := 7) (mj := 41) (n := 3) rfl (Or.inl rfl) (ys := [.int 32, .int (nI to), .int (nI ((t_sl (gl l) st to) + 1))]) (r := [.ref r]) rfl rfl H.1 (tx_c H) rfl (Nat.le_of_ble_eq_true rfl) (ts_num (o := some b) (fr := t_sl (gl l) st to + 1) (to := to) (most := 32) H (hold_M hl hra) (by omega) (by decide) (by omega) (by have h9 := hb; unfold t_bits at h9; rw [if_pos (by omega)] at h9; exact h9)) ?_
      rintro _ _ ⟨rfl, rfl⟩
      refine wg_goto (d66_124 L xs) (t := 129) (by decide) ?_
      refine wg_puti (d66_129 L xs) (cj := 4) (k0 := 4) rfl Hr.1 (tm_c Hr) (Nat.le_of_ble_eq_true rfl) rfl rfl (tm_cI4 Hr) ?_
      rw [mg_M_I]
      refine wg_aload_n (d66_132 L xs) rfl ?_
      refine wg_get (d66_133 L xs) (kd := 1) (cj := 4) (k0 := 4) rfl (Or.inl rfl) Hr.1 (tm_c Hr) rfl ?_
      refine wg_top (y := (nI b)) (by rw [mg_M_own]; rfl) ?_
      refine wg_iconst (d66_136 L xs) (x := (-1)) (by decide) ?_
      refine wg_icmp_ne (d66_137 L xs) (t := 142) (by decide) (fun h10 => ?_) (fun h10 => absurd (Classical.not_not.mp h10) (nI_neg1 (by omega)))
      refine wg_aload_n (d66_142 L xs) rfl ?_
      refine wg_get (d66_143 L xs) (kd := 1) (cj := 4) (k0 := 0) rfl (Or.inl rfl) Hr.1 (tm_c Hr) rfl ?_
      refine wg_top (y := 1) (by rw [mg_M_own]; rfl) ?_
      refine wg_tswIn (d66_146 L xs) (of := 54) (t := 200) (by decide) (by decide) (by decide) ?_
      refine wg_iload (d66_200 L xs) rfl ?_
      refine wg_if_ne (d66_202 L xs) (t := 224) (by decide) (fun _ => ?_) (fun hn => absurd (by decide) hn)
      refine wg_iconst (d66_224 L xs) (x := 0) (by decide) ?_
      have htf : t_tf (gl l) st to = t_sl (gl l) st to := by unfold t_tf; rw [if_neg (by omega)]
      exact wg_iret (d66_225 L xs) rfl rfl (tm_post_n (by rw [t_rest_k hk hb, t_rk, if_neg (by decide), if_pos (by decide)]; rw [if_neg (fun q => absurd q.1 (by omega))]))
  · refine wg_iconst (d66_51 L xs) (x := 1) (by decide) ?_
    refine wg_goto (d66_52 L xs) (t := 56) (by decide) ?_
    refine wg_istore (d66_56 L xs) (ls' := [some (.ref r), some (.ref a), some (.int (nI fr)), some (.int (nI to)), some (.int (nI st)), some (.int (nI (t_sl (gl l) st to))), some (.int (nI (t_co (gl l) st to))), some (.int 1), none]) (Nat.le_of_ble_eq_true rfl) rfl ?_
    refine wg_iload (d66_58 L xs) rfl ?_
    refine wg_iload_n (d66_60 L xs) rfl ?_
    refine wn_icmp_ge (d66_61 L xs) (x := t_sl (gl l) st to) (y := to) (by omega) (by omega) (t := 68) (by decide) (fun h12 => ?_) (fun h12 => ?_)
    · refine wg_iconst (d66_68 L xs) (x := 0) (by decide) ?_
      refine wg_istore (d66_69 L xs) (ls' := [some (.ref r), some (.ref a), some (.int (nI fr)), some (.int (nI to)), some (.int (nI st)), some (.int (nI (t_sl (gl l) st to))), some (.int (nI (t_co (gl l) st to))), some (.int 1), some (.int 0)]) (Nat.le_of_ble_eq_true rfl) rfl ?_
      refine wg_aload_n (d66_71 L xs) rfl ?_
      refine wg_aload_n (d66_72 L xs) rfl ?_
      refine wg_iload (d66_73 L xs) rfl ?_
      refine wg_iload (d66_75 L xs) rfl ?_
      refine wg_invs (d66_77 L xs) (kd := 6) (mj := 68) (n := 3) rfl (Or.inl rfl) (ys := [.int (nI (t_co (gl l) st to)), .int (nI st), .ref a]) (r := [.ref r]) rfl rfl (Nat.le_of_ble_eq_true rfl) (by have h9 := tm_kind (L := L) (xs := xs) (d := d + 1) (fr := st) (to := t_co (gl l) st to) H hl (by omega) (by omega); rw [hk] at h9; exact h9) ?_
      rintro _ _ ⟨rfl, rfl⟩
      refine wg_puti (d66_80 L xs) (cj := 4) (k0 := 0) rfl Hr.1 (tm_c Hr) (Nat.le_of_ble_eq_true rfl) rfl rfl (tm_cI0 Hr) ?_
      rw [mg_I_M]
      refine wg_aload_n (d66_83 L xs) rfl ?_
      refine wg_iload (d66_84 L xs) rfl ?_
      refine wg_if_eq (d66_86 L xs) (t := 96) (by decide) (fun hp => absurd hp (by decide)) (fun _ => ?_)
      refine wg_iload (d66_89 L xs) rfl ?_
      refine wg_iconst (d66_91 L xs) (x := 1) (by decide) ?_
      refine wg_iadd (d66_92 L xs) ?_
      refine wg_top (y := (nI ((t_co (gl l) st to) + 1))) (nI_add (t_co (gl l) st to) 1) ?_
      refine wg_goto (d66_93 L xs) (t := 98) (by decide) ?_
      refine wg_puti (d66_98 L xs) (cj := 4) (k0 := 2) rfl Hr.1 (tm_c Hr) (Nat.le_of_ble_eq_true rfl) rfl rfl (tm_cI2 Hr) ?_
      rw [mg_M_I]
      refine wg_aload_n (d66_101 L xs) rfl ?_
      refine wg_iload (d66_102 L xs) rfl ?_
      refine wg_puti (d66_104 L xs) (cj := 4) (k0 := 3) rfl Hr.1 (tm_c Hr) (Nat.le_of_ble_eq_true rfl) rfl rfl (tm_cI3 Hr) ?_
      rw [mg_M_I]
      refine wg_aload_n (d66_107 L xs) rfl ?_
      refine wg_iload (d66_108 L xs) rfl ?_
      refine wg_if_eq (d66_110 L xs) (t := 127) (by decide) (fun _ => ?_) (fun hn => absurd (by decide) hn)
      refine wg_bipush (d66_127 L xs) (x := 32) (by decide) ?_
      refine wg_puti (d66_129 L xs) (cj := 4) (k0 := 4) rfl Hr.1 (tm_c Hr) (Nat.le_of_ble_eq_true rfl) rfl rfl (tm_cI4 Hr) ?_
      rw [mg_M_I]
      refine wg_aload_n (d66_132 L xs) rfl ?_
      refine wg_get (d66_133 L xs) (kd := 1) (cj := 4) (k0 := 4) rfl (Or.inl rfl) Hr.1 (tm_c Hr) rfl ?_
      refine wg_top (y := 32) (by rw [mg_M_own]; rfl) ?_
      refine wg_iconst (d66_136 L xs) (x := (-1)) (by decide) ?_
      refine wg_icmp_ne (d66_137 L xs) (t := 142) (by decide) (fun _ => ?_) (fun hn => absurd (by decide) hn)
      refine wg_aload_n (d66_142 L xs) rfl ?_
      refine wg_get (d66_143 L xs) (kd := 1) (cj := 4) (k0 := 0) rfl (Or.inl rfl) Hr.1 (tm_c Hr) rfl ?_
      refine wg_top (y := 1) (by rw [mg_M_own]; rfl) ?_
      refine wg_tswIn (d66_146 L xs) (of := 54) (t := 200) (by decide) (by decide) (by decide) ?_
      refine wg_iload (d66_200 L xs) rfl ?_
      refine wg_if_ne (d66_202 L xs) (t := 224) (by decide) (fun hp => absurd hp (by decide)) (fun _ => ?_)
      refine wg_aload_n (d66_205 L xs) rfl ?_
      refine wg_aload_n (d66_206 L xs) rfl ?_
      refine wg_get (d66_207 L xs) (kd := 1) (cj := 4) (k0 := 2) rfl (Or.inl rfl) Hr.1 (tm_c Hr) rfl ?_
      refine wg_top (y := (nI ((t_co (gl l) st to) + 1))) (by rw [mg_M_own]; rfl) ?_
      refine wg_aload_n (d66_210 L xs) rfl ?_
      refine wg_get (d66_211 L xs) (kd := 1) (cj := 4) (k0 := 3) rfl (Or.inl rfl) Hr.1 (tm_c Hr) rfl ?_
      refine wg_top (y := (nI (t_sl (gl l) st to))) (by rw [mg_M_own]; rfl) ?_
      refine wg_invs (d66_214 L xs) (kd := 6) (mj := 64) (n := 3) rfl (Or.inl rfl) (ys := [.int (nI (t_sl (gl l) st to)), .int (nI ((t_co (gl l) st to) + 1)), .ref a]) (r := []) rfl rfl (Nat.le_of_ble_eq_true rfl) (tm_tgt H (hold_M hl hra) (by omega) (by omega)) ?_
      rintro _ _ ⟨rfl, rfl⟩
      refine wn_if_eq (d66_217 L xs) (x := bI (t_tgt (gl l) ((t_co (gl l) st to) + 1) (t_sl (gl l) st to))) (by omega) (t := 224) (by decide) (fun h17 => ?_) (fun h17 => ?_)
      · refine wg_iconst (d66_224 L xs) (x := 0) (by decide) ?_
        have htf : t_tf (gl l) st to = t_co (gl l) st to + 1 := by unfold t_tf; rw [if_pos (by omega)]
        exact wg_iret (d66_225 L xs) rfl rfl (tm_post_n (by rw [t_rest_k hk hb, t_rk, if_neg (by decide), if_pos (by decide)]; rw [htf, if_neg (fun q => absurd q.2 (by rw [bI_f (b := t_tgt (gl l) (t_co (gl l) st to + 1) (t_sl (gl l) st to)) (by omega)]; decide))]))
      · refine wg_iconst (d66_220 L xs) (x := 1) (by decide) ?_
        refine wg_goto (d66_221 L xs) (t := 225) (by decide) ?_
        have htf : t_tf (gl l) st to = t_co (gl l) st to + 1 := by unfold t_tf; rw [if_pos (by omega)]
        exact wg_iret (d66_225 L xs) rfl rfl (tm_post_s (T := (1, res, t_tf (gl l) st to, t_sl (gl l) st to, b, 0)) (by rw [t_rest_k hk hb, t_rk, if_neg (by decide), if_pos (by decide)]; rw [htf, if_pos ⟨by omega, bI_t (by omega)⟩, ← htf]) rfl (fun _ => hr1) (by rw [htf]; rfl) rfl (by first | rfl | (intro _; rfl) | (intro _; have h9 := hb; unfold t_bits at h9; rw [if_neg (by omega)] at h9; cases h9; rfl)) (fun q => absurd (show (1 : Nat) = 4 from q) (by decide)))
    · refine wg_iconst (d66_64 L xs) (x := 1) (by decide) ?_
      refine wg_goto (d66_65 L xs) (t := 69) (by decide) ?_
      refine wg_istore (d66_69 L xs) (ls' := [some (.ref r), some (.ref a), some (.int (nI fr)), some (.int (nI to)), some (.int (nI st)), some (.int (nI (t_sl (gl l) st to))), some (.int (nI (t_co (gl l) st to))), some (.int 1), some (.int 1)]) (Nat.le_of_ble_eq_true rfl) rfl ?_
      refine wg_aload_n (d66_71 L xs) rfl ?_
      refine wg_aload_n (d66_72 L xs) rfl ?_
      refine wg_iload (d66_73 L xs) rfl ?_
      refine wg_iload (d66_75 L xs) rfl ?_
      refine wg_invs (d66_77 L xs) (kd := 6) (mj := 68) (n := 3) rfl (Or.inl rfl) (ys := [.int (nI (t_co (gl l) st to)), .int (nI st), .ref a]) (r := [.ref r]) rfl rfl (Nat.le_of_ble_eq_true rfl) (by have h9 := tm_kind (L := L) (xs := xs) (d := d + 1) (fr := st) (to := t_co (gl l) st to) H hl (by omega) (by omega); rw [hk] at h9; exact h9) ?_
      rintro _ _ ⟨rfl, rfl⟩
      refine wg_puti (d66_80 L xs) (cj := 4) (k0 := 0) rfl Hr.1 (tm_c Hr) (Nat.le_of_ble_eq_true rfl) rfl rfl (tm_cI0 Hr) ?_
      rw [mg_I_M]
      refine wg_aload_n (d66_83 L xs) rfl ?_
      refine wg_iload (d66_84 L xs) rfl ?_
      refine wg_if_eq (d66_86 L xs) (t := 96) (by decide) (fun hp => absurd hp (by decide)) (fun _ => ?_)
      refine wg_iload (d66_89 L xs) rfl ?_
      refine wg_iconst (d66_91 L xs) (x := 1) (by decide) ?_
      refine wg_iadd (d66_92 L xs) ?_
      refine wg_top (y := (nI ((t_co (gl l) st to) + 1))) (nI_add (t_co (gl l) st to) 1) ?_
      refine wg_goto (d66_93 L xs) (t := 98) (by decide) ?_
      refine wg_puti (d66_98 L xs) (cj := 4) (k0 := 2) rfl Hr.1 (tm_c Hr) (Nat.le_of_ble_eq_true rfl) rfl rfl (tm_cI2 Hr) ?_
      rw [mg_M_I]
      refine wg_aload_n (d66_101 L xs) rfl ?_
      refine wg_iload (d66_102 L xs) rfl ?_
      refine wg_puti (d66_104 L xs) (cj := 4) (k0 := 3) rfl Hr.1 (tm_c Hr) (Nat.le_of_ble_eq_true rfl) rfl rfl (tm_cI3 Hr) ?_
      rw [mg_M_I]
      refine wg_aload_n (d66_107 L xs) rfl ?_
      refine wg_iload (d66_108 L xs) rfl ?_
      refine wg_if_eq (d66_110 L xs) (t := 127) (by decide) (fun hp => absurd hp (by decide)) (fun _ => ?_)
      refine wg_aload_n (d66_113 L xs) rfl ?_
      refine wg_iload (d66_114 L xs) rfl ?_
      refine wg_iconst (d66_116 L xs) (x := 1) (by decide) ?_
      refine wg_iadd (d66_117 L xs) ?_
      refine wg_top (y := (nI ((t_sl (gl l) st to) + 1))) (nI_add (t_sl (gl l) st to) 1) ?_
      refine wg_iload_n (d66_118 L xs) rfl ?_
      refine wg_bipush (d66_119 L xs) (x := 32) (by decide) ?_
      refine wg_invv (d66_121 L xs) (kd := 7) (mj := 41) (n := 3) rfl (Or.inl rfl) (ys := [.int 32, .int (nI to), .int (nI ((t_sl (gl l) st to) + 1))]) (r := [.ref r]) rfl rfl H.1 (tx_c H) rfl (Nat.le_of_ble_eq_true rfl) (ts_num (o := some b) (fr := t_sl (gl l) st to + 1) (to := to) (most := 32) H (hold_M hl hra) (by omega) (by decide) (by omega) (by have h9 := hb; unfold t_bits at h9; rw [if_pos (by omega)] at h9; exact h9)) ?_
      rintro _ _ ⟨rfl, rfl⟩
      refine wg_goto (d66_124 L xs) (t := 129) (by decide) ?_
      refine wg_puti (d66_129 L xs) (cj := 4) (k0 := 4) rfl Hr.1 (tm_c Hr) (Nat.le_of_ble_eq_true rfl) rfl rfl (tm_cI4 Hr) ?_
      rw [mg_M_I]
      refine wg_aload_n (d66_132 L xs) rfl ?_
      refine wg_get (d66_133 L xs) (kd := 1) (cj := 4) (k0 := 4) rfl (Or.inl rfl) Hr.1 (tm_c Hr) rfl ?_
      refine wg_top (y := (nI b)) (by rw [mg_M_own]; rfl) ?_
      refine wg_iconst (d66_136 L xs) (x := (-1)) (by decide) ?_
      refine wg_icmp_ne (d66_137 L xs) (t := 142) (by decide) (fun h20 => ?_) (fun h20 => absurd (Classical.not_not.mp h20) (nI_neg1 (by omega)))
      refine wg_aload_n (d66_142 L xs) rfl ?_
      refine wg_get (d66_143 L xs) (kd := 1) (cj := 4) (k0 := 0) rfl (Or.inl rfl) Hr.1 (tm_c Hr) rfl ?_
      refine wg_top (y := 1) (by rw [mg_M_own]; rfl) ?_
      refine wg_tswIn (d66_146 L xs) (of := 54) (t := 200) (by decide) (by decide) (by decide) ?_
      refine wg_iload (d66_200 L xs) rfl ?_
      refine wg_if_ne (d66_202 L xs) (t := 224) (by decide) (fun _ => ?_) (fun hn => absurd (by decide) hn)
      refine wg_iconst (d66_224 L xs) (x := 0) (by decide) ?_
      have htf : t_tf (gl l) st to = t_co (gl l) st to + 1 := by unfold t_tf; rw [if_pos (by omega)]
      exact wg_iret (d66_225 L xs) rfl rfl (tm_post_n (by rw [t_rest_k hk hb, t_rk, if_neg (by decide), if_pos (by decide)]; rw [if_neg (fun q => absurd q.1 (by omega))]))
theorem tm_rest_2 {fr to st res b : Nat} (H : isT a) (hl : hold s a l) (Hr : isM r) (hra : ¬ a = r) (hto : to < 2 ^ 29) (hst : st ≤ to) (hr1 : s.1 r 1 = nI res) (hk : t_kind (gl l) st (t_co (gl l) st to) = some 2) (hb : t_bits (gl l) st to = some b) : wp L xs (d + 4) 66 21 [some (.ref r), some (.ref a), some (.int (nI fr)), some (.int (nI to)), some (.int (nI st)), none, none, none, none] [] s (tm_post s r (t_rest (gl l) st to res)) := by
  obtain ⟨hs1, hs2, hs3⟩ := t_sl_le (g := gl l) hst
  have hq0 := bI_lt (t_tgt (gl l) (t_co (gl l) st to + 1) (t_sl (gl l) st to))
  have hq1 := bI_lt (t_tgt (gl l) (t_sl (gl l) st to) (t_sl (gl l) st to))
  have hb100 : b ≤ 32 := by
    have h9 := hb
    unfold t_bits at h9
    split at h9
    · exact t_num_le h9
    · cases h9; exact Nat.le_refl _
  refine wg_aload_n (d66_21 L xs) rfl ?_
  refine wg_bipush (d66_22 L xs) (x := 47) (by decide) ?_
  refine wg_iload (d66_24 L xs) rfl ?_
  refine wg_iload_n (d66_26 L xs) rfl ?_
  refine wg_invv (d66_27 L xs) (kd := 7) (mj := 37) (n := 3) rfl (Or.inl rfl) (ys := [.int (nI to), .int (nI st), .int 47]) (r := []) rfl rfl H.1 (tx_c H) rfl (Nat.le_of_ble_eq_true rfl) (ts_find (c := 47) (fr := st) (to := to) H hl (by decide) (by omega) (by omega) rfl) ?_
  rintro _ _ ⟨rfl, rfl⟩
  refine wg_istore (d66_30 L xs) (ls' := [some (.ref r), some (.ref a), some (.int (nI fr)), some (.int (nI to)), some (.int (nI st)), some (.int (nI (t_sl (gl l) st to))), none, none, none]) (Nat.le_of_ble_eq_true rfl) rfl ?_
  refine wg_aload_n (d66_32 L xs) rfl ?_
  refine wg_bipush (d66_33 L xs) (x := 58) (by decide) ?_
  refine wg_iload (d66_35 L xs) rfl ?_
  refine wg_iload (d66_37 L xs) rfl ?_
  refine wg_invv (d66_39 L xs) (kd := 7) (mj := 37) (n := 3) rfl (Or.inl rfl) (ys := [.int (nI (t_sl (gl l) st to)), .int (nI st), .int 58]) (r := []) rfl rfl H.1 (tx_c H) rfl (Nat.le_of_ble_eq_true rfl) (ts_find (c := 58) (fr := st) (to := t_sl (gl l) st to) H hl (by decide) (by omega) (by omega) rfl) ?_
  rintro _ _ ⟨rfl, rfl⟩
  refine wg_istore (d66_42 L xs) (ls' := [some (.ref r), some (.ref a), some (.int (nI fr)), some (.int (nI to)), some (.int (nI st)), some (.int (nI (t_sl (gl l) st to))), some (.int (nI (t_co (gl l) st to))), none, none]) (Nat.le_of_ble_eq_true rfl) rfl ?_
  refine wg_iload (d66_44 L xs) rfl ?_
  refine wg_iload (d66_46 L xs) rfl ?_
  refine wn_icmp_ge (d66_48 L xs) (x := t_co (gl l) st to) (y := t_sl (gl l) st to) (by omega) (by omega) (t := 55) (by decide) (fun h1 => ?_) (fun h1 => ?_)
  · refine wg_iconst (d66_55 L xs) (x := 0) (by decide) ?_
    refine wg_istore (d66_56 L xs) (ls' := [some (.ref r), some (.ref a), some (.int (nI fr)), some (.int (nI to)), some (.int (nI st)), some (.int (nI (t_sl (gl l) st to))), some (.int (nI (t_co (gl l) st to))), some (.int 0), none]) (Nat.le_of_ble_eq_true rfl) rfl ?_
    refine wg_iload (d66_58 L xs) rfl ?_
    refine wg_iload_n (d66_60 L xs) rfl ?_
    refine wn_icmp_ge (d66_61 L xs) (x := t_sl (gl l) st to) (y := to) (by omega) (by omega) (t := 68) (by decide) (fun h2 => ?_) (fun h2 => ?_)
    · refine wg_iconst (d66_68 L xs) (x := 0) (by decide) ?_
      refine wg_istore (d66_69 L xs) (ls' := [some (.ref r), some (.ref a), some (.int (nI fr)), some (.int (nI to)), some (.int (nI st)), some (.int (nI (t_sl (gl l) st to))), some (.int (nI (t_co (gl l) st to))), some (.int 0), some (.int 0)]) (Nat.le_of_ble_eq_true rfl) rfl ?_
      refine wg_aload_n (d66_71 L xs) rfl ?_
      refine wg_aload_n (d66_72 L xs) rfl ?_
      refine wg_iload (d66_73 L xs) rfl ?_
      refine wg_iload (d66_75 L xs) rfl ?_
      refine wg_invs (d66_77 L xs) (kd := 6) (mj := 68) (n := 3) rfl (Or.inl rfl) (ys := [.int (nI (t_co (gl l) st to)), .int (nI st), .ref a]) (r := [.ref r]) rfl rfl (Nat.le_of_ble_eq_true rfl) (by have h9 := tm_kind (L := L) (xs := xs) (d := d + 1) (fr := st) (to := t_co (gl l) st to) H hl (by omega) (by omega); rw [hk] at h9; exact h9) ?_
      rintro _ _ ⟨rfl, rfl⟩
      refine wg_puti (d66_80 L xs) (cj := 4) (k0 := 0) rfl Hr.1 (tm_c Hr) (Nat.le_of_ble_eq_true rfl) rfl rfl (tm_cI0 Hr) ?_
      rw [mg_I_M]
      refine wg_aload_n (d66_83 L xs) rfl ?_
      refine wg_iload (d66_84 L xs) rfl ?_
      refine wg_if_eq (d66_86 L xs) (t := 96) (by decide) (fun _ => ?_) (fun hn => absurd (by decide) hn)
      refine wg_iload (d66_96 L xs) rfl ?_
      refine wg_puti (d66_98 L xs) (cj := 4) (k0 := 2) rfl Hr.1 (tm_c Hr) (Nat.le_of_ble_eq_true rfl) rfl rfl (tm_cI2 Hr) ?_
      rw [mg_M_I]
      refine wg_aload_n (d66_101 L xs) rfl ?_
      refine wg_iload (d66_102 L xs) rfl ?_
      refine wg_puti (d66_104 L xs) (cj := 4) (k0 := 3) rfl Hr.1 (tm_c Hr) (Nat.le_of_ble_eq_true rfl) rfl rfl (tm_cI3 Hr) ?_
      rw [mg_M_I]
      refine wg_aload_n (d66_107 L xs) rfl ?_
      refine wg_iload (d66_108 L xs) rfl ?_
      refine wg_if_eq (d66_110 L xs) (t := 127) (by decide) (fun _ => ?_) (fun hn => absurd (by decide) hn)
      refine wg_bipush (d66_127 L xs) (x := 32) (by decide) ?_
      refine wg_puti (d66_129 L xs) (cj := 4) (k0 := 4) rfl Hr.1 (tm_c Hr) (Nat.le_of_ble_eq_true rfl) rfl rfl (tm_cI4 Hr) ?_
      rw [mg_M_I]
      refine wg_aload_n (d66_132 L xs) rfl ?_
      refine wg_get (d66_133 L xs) (kd := 1) (cj := 4) (k0 := 4) rfl (Or.inl rfl) Hr.1 (tm_c Hr) rfl ?_
      refine wg_top (y := 32) (by rw [mg_M_own]; rfl) ?_
      refine wg_iconst (d66_136 L xs) (x := (-1)) (by decide) ?_
      refine wg_icmp_ne (d66_137 L xs) (t := 142) (by decide) (fun _ => ?_) (fun hn => absurd (by decide) hn)
      refine wg_aload_n (d66_142 L xs) rfl ?_
      refine wg_get (d66_143 L xs) (kd := 1) (cj := 4) (k0 := 0) rfl (Or.inl rfl) Hr.1 (tm_c Hr) rfl ?_
      refine wg_top (y := 2) (by rw [mg_M_own]; rfl) ?_
      refine wg_tswIn (d66_146 L xs) (of := 80) (t := 226) (by decide) (by decide) (by decide) ?_
      refine wg_iload (d66_226 L xs) rfl ?_
      refine wg_if_eq (d66_228 L xs) (t := 246) (by decide) (fun _ => ?_) (fun hn => absurd (by decide) hn)
      refine wg_iconst (d66_246 L xs) (x := 1) (by decide) ?_
      refine wg_goto (d66_247 L xs) (t := 251) (by decide) ?_
      have htf : t_tf (gl l) st to = t_sl (gl l) st to := by unfold t_tf; rw [if_neg (by omega)]
      exact wg_iret (d66_251 L xs) rfl rfl (tm_post_s (T := (2, res, t_tf (gl l) st to, t_sl (gl l) st to, b, 0)) (by rw [t_rest_k hk hb, t_rk, if_neg (by decide), if_neg (by decide), if_pos (by decide)]; rw [if_pos (Or.inl (by omega))]) rfl (fun _ => hr1) (by rw [htf]; rfl) rfl (by first | rfl | (intro _; rfl) | (intro _; have h9 := hb; unfold t_bits at h9; rw [if_neg (by omega)] at h9; cases h9; rfl)) (fun q => absurd (show (2 : Nat) = 4 from q) (by decide)))
    · refine wg_iconst (d66_64 L xs) (x := 1) (by decide) ?_
      refine wg_goto (d66_65 L xs) (t := 69) (by decide) ?_
      refine wg_istore (d66_69 L xs) (ls' := [some (.ref r), some (.ref a), some (.int (nI fr)), some (.int (nI to)), some (.int (nI st)), some (.int (nI (t_sl (gl l) st to))), some (.int (nI (t_co (gl l) st to))), some (.int 0), some (.int 1)]) (Nat.le_of_ble_eq_true rfl) rfl ?_
      refine wg_aload_n (d66_71 L xs) rfl ?_
      refine wg_aload_n (d66_72 L xs) rfl ?_
      refine wg_iload (d66_73 L xs) rfl ?_
      refine wg_iload (d66_75 L xs) rfl ?_
      refine wg_invs (d66_77 L xs) (kd := 6) (mj := 68) (n := 3) rfl (Or.inl rfl) (ys := [.int (nI (t_co (gl l) st to)), .int (nI st), .ref a]) (r := [.ref r]) rfl rfl (Nat.le_of_ble_eq_true rfl) (by have h9 := tm_kind (L := L) (xs := xs) (d := d + 1) (fr := st) (to := t_co (gl l) st to) H hl (by omega) (by omega); rw [hk] at h9; exact h9) ?_
      rintro _ _ ⟨rfl, rfl⟩
      refine wg_puti (d66_80 L xs) (cj := 4) (k0 := 0) rfl Hr.1 (tm_c Hr) (Nat.le_of_ble_eq_true rfl) rfl rfl (tm_cI0 Hr) ?_
      rw [mg_I_M]
      refine wg_aload_n (d66_83 L xs) rfl ?_
      refine wg_iload (d66_84 L xs) rfl ?_
      refine wg_if_eq (d66_86 L xs) (t := 96) (by decide) (fun _ => ?_) (fun hn => absurd (by decide) hn)
      refine wg_iload (d66_96 L xs) rfl ?_
      refine wg_puti (d66_98 L xs) (cj := 4) (k0 := 2) rfl Hr.1 (tm_c Hr) (Nat.le_of_ble_eq_true rfl) rfl rfl (tm_cI2 Hr) ?_
      rw [mg_M_I]
      refine wg_aload_n (d66_101 L xs) rfl ?_
      refine wg_iload (d66_102 L xs) rfl ?_
      refine wg_puti (d66_104 L xs) (cj := 4) (k0 := 3) rfl Hr.1 (tm_c Hr) (Nat.le_of_ble_eq_true rfl) rfl rfl (tm_cI3 Hr) ?_
      rw [mg_M_I]
      refine wg_aload_n (d66_107 L xs) rfl ?_
      refine wg_iload (d66_108 L xs) rfl ?_
      refine wg_if_eq (d66_110 L xs) (t := 127) (by decide) (fun hp => absurd hp (by decide)) (fun _ => ?_)
      refine wg_aload_n (d66_113 L xs) rfl ?_
      refine wg_iload (d66_114 L xs) rfl ?_
      refine wg_iconst (d66_116 L xs) (x := 1) (by decide) ?_
      refine wg_iadd (d66_117 L xs) ?_
      refine wg_top (y := (nI ((t_sl (gl l) st to) + 1))) (nI_add (t_sl (gl l) st to) 1) ?_
      refine wg_iload_n (d66_118 L xs) rfl ?_
      refine wg_bipush (d66_119 L xs) (x := 32) (by decide) ?_
      refine wg_invv (d66_121 L xs) (kd := 7) (mj := 41) (n := 3) rfl (Or.inl rfl) (ys := [.int 32, .int (nI to), .int (nI ((t_sl (gl l) st to) + 1))]) (r := [.ref r]) rfl rfl H.1 (tx_c H) rfl (Nat.le_of_ble_eq_true rfl) (ts_num (o := some b) (fr := t_sl (gl l) st to + 1) (to := to) (most := 32) H (hold_M hl hra) (by omega) (by decide) (by omega) (by have h9 := hb; unfold t_bits at h9; rw [if_pos (by omega)] at h9; exact h9)) ?_
      rintro _ _ ⟨rfl, rfl⟩
      refine wg_goto (d66_124 L xs) (t := 129) (by decide) ?_
      refine wg_puti (d66_129 L xs) (cj := 4) (k0 := 4) rfl Hr.1 (tm_c Hr) (Nat.le_of_ble_eq_true rfl) rfl rfl (tm_cI4 Hr) ?_
      rw [mg_M_I]
      refine wg_aload_n (d66_132 L xs) rfl ?_
      refine wg_get (d66_133 L xs) (kd := 1) (cj := 4) (k0 := 4) rfl (Or.inl rfl) Hr.1 (tm_c Hr) rfl ?_
      refine wg_top (y := (nI b)) (by rw [mg_M_own]; rfl) ?_
      refine wg_iconst (d66_136 L xs) (x := (-1)) (by decide) ?_
      refine wg_icmp_ne (d66_137 L xs) (t := 142) (by decide) (fun h9 => ?_) (fun h9 => absurd (Classical.not_not.mp h9) (nI_neg1 (by omega)))
      refine wg_aload_n (d66_142 L xs) rfl ?_
      refine wg_get (d66_143 L xs) (kd := 1) (cj := 4) (k0 := 0) rfl (Or.inl rfl) Hr.1 (tm_c Hr) rfl ?_
      refine wg_top (y := 2) (by rw [mg_M_own]; rfl) ?_
      refine wg_tswIn (d66_146 L xs) (of := 80) (t := 226) (by decide) (by decide) (by decide) ?_
      refine wg_iload (d66_226 L xs) rfl ?_
      refine wg_if_eq (d66_228 L xs) (t := 246) (by decide) (fun _ => ?_) (fun hn => absurd (by decide) hn)
      refine wg_iconst (d66_246 L xs) (x := 1) (by decide) ?_
      refine wg_goto (d66_247 L xs) (t := 251) (by decide) ?_
      have htf : t_tf (gl l) st to = t_sl (gl l) st to := by unfold t_tf; rw [if_neg (by omega)]
      exact wg_iret (d66_251 L xs) rfl rfl (tm_post_s (T := (2, res, t_tf (gl l) st to, t_sl (gl l) st to, b, 0)) (by rw [t_rest_k hk hb, t_rk, if_neg (by decide), if_neg (by decide), if_pos (by decide)]; rw [if_pos (Or.inl (by omega))]) rfl (fun _ => hr1) (by rw [htf]; rfl) rfl (by first | rfl | (intro _; rfl) | (intro _; have h9 := hb; unfold t_bits at h9; rw [if_neg (by omega)] at h9; cases h9; rfl)) (fun q => absurd (show (2 : Nat) = 4 from q) (by decide)))
  · refine wg_iconst (d66_51 L xs) (x := 1) (by decide) ?_
    refine wg_goto (d66_52 L xs) (t := 56) (by decide) ?_
    refine wg_istore (d66_56 L xs) (ls' := [some (.ref r), some (.ref a), some (.int (nI fr)), some (.int (nI to)), some (.int (nI st)), some (.int (nI (t_sl (gl l) st to))), some (.int (nI (t_co (gl l) st to))), some (.int 1), none]) (Nat.le_of_ble_eq_true rfl) rfl ?_
    refine wg_iload (d66_58 L xs) rfl ?_
    refine wg_iload_n (d66_60 L xs) rfl ?_
    refine wn_icmp_ge (d66_61 L xs) (x := t_sl (gl l) st to) (y := to) (by omega) (by omega) (t := 68) (by decide) (fun h11 => ?_) (fun h11 => ?_)
    · refine wg_iconst (d66_68 L xs) (x := 0) (by decide) ?_
      refine wg_istore (d66_69 L xs) (ls' := [some (.ref r), some (.ref a), some (.int (nI fr)), some (.int (nI to)), some (.int (nI st)), some (.int (nI (t_sl (gl l) st to))), some (.int (nI (t_co (gl l) st to))), some (.int 1), some (.int 0)]) (Nat.le_of_ble_eq_true rfl) rfl ?_
      refine wg_aload_n (d66_71 L xs) rfl ?_
      refine wg_aload_n (d66_72 L xs) rfl ?_
      refine wg_iload (d66_73 L xs) rfl ?_
      refine wg_iload (d66_75 L xs) rfl ?_
      refine wg_invs (d66_77 L xs) (kd := 6) (mj := 68) (n := 3) rfl (Or.inl rfl) (ys := [.int (nI (t_co (gl l) st to)), .int (nI st), .ref a]) (r := [.ref r]) rfl rfl (Nat.le_of_ble_eq_true rfl) (by have h9 := tm_kind (L := L) (xs := xs) (d := d + 1) (fr := st) (to := t_co (gl l) st to) H hl (by omega) (by omega); rw [hk] at h9; exact h9) ?_
      rintro _ _ ⟨rfl, rfl⟩
      refine wg_puti (d66_80 L xs) (cj := 4) (k0 := 0) rfl Hr.1 (tm_c Hr) (Nat.le_of_ble_eq_true rfl) rfl rfl (tm_cI0 Hr) ?_
      rw [mg_I_M]
      refine wg_aload_n (d66_83 L xs) rfl ?_
      refine wg_iload (d66_84 L xs) rfl ?_
      refine wg_if_eq (d66_86 L xs) (t := 96) (by decide) (fun hp => absurd hp (by decide)) (fun _ => ?_)
      refine wg_iload (d66_89 L xs) rfl ?_
      refine wg_iconst (d66_91 L xs) (x := 1) (by decide) ?_
      refine wg_iadd (d66_92 L xs) ?_
      refine wg_top (y := (nI ((t_co (gl l) st to) + 1))) (nI_add (t_co (gl l) st to) 1) ?_
      refine wg_goto (d66_93 L xs) (t := 98) (by decide) ?_
      refine wg_puti (d66_98 L xs) (cj := 4) (k0 := 2) rfl Hr.1 (tm_c Hr) (Nat.le_of_ble_eq_true rfl) rfl rfl (tm_cI2 Hr) ?_
      rw [mg_M_I]
      refine wg_aload_n (d66_101 L xs) rfl ?_
      refine wg_iload (d66_102 L xs) rfl ?_
      refine wg_puti (d66_104 L xs) (cj := 4) (k0 := 3) rfl Hr.1 (tm_c Hr) (Nat.le_of_ble_eq_true rfl) rfl rfl (tm_cI3 Hr) ?_
      rw [mg_M_I]
      refine wg_aload_n (d66_107 L xs) rfl ?_
      refine wg_iload (d66_108 L xs) rfl ?_
      refine wg_if_eq (d66_110 L xs) (t := 127) (by decide) (fun _ => ?_) (fun hn => absurd (by decide) hn)
      refine wg_bipush (d66_127 L xs) (x := 32) (by decide) ?_
      refine wg_puti (d66_129 L xs) (cj := 4) (k0 := 4) rfl Hr.1 (tm_c Hr) (Nat.le_of_ble_eq_true rfl) rfl rfl (tm_cI4 Hr) ?_
      rw [mg_M_I]
      refine wg_aload_n (d66_132 L xs) rfl ?_
      refine wg_get (d66_133 L xs) (kd := 1) (cj := 4) (k0 := 4) rfl (Or.inl rfl) Hr.1 (tm_c Hr) rfl ?_
      refine wg_top (y := 32) (by rw [mg_M_own]; rfl) ?_
      refine wg_iconst (d66_136 L xs) (x := (-1)) (by decide) ?_
      refine wg_icmp_ne (d66_137 L xs) (t := 142) (by decide) (fun _ => ?_) (fun hn => absurd (by decide) hn)
      refine wg_aload_n (d66_142 L xs) rfl ?_
      refine wg_get (d66_143 L xs) (kd := 1) (cj := 4) (k0 := 0) rfl (Or.inl rfl) Hr.1 (tm_c Hr) rfl ?_
      refine wg_top (y := 2) (by rw [mg_M_own]; rfl) ?_
      refine wg_tswIn (d66_146 L xs) (of := 80) (t := 226) (by decide) (by decide) (by decide) ?_
      refine wg_iload (d66_226 L xs) rfl ?_
      refine wg_if_eq (d66_228 L xs) (t := 246) (by decide) (fun hp => absurd hp (by decide)) (fun _ => ?_)
      refine wg_aload_n (d66_231 L xs) rfl ?_
      refine wg_aload_n (d66_232 L xs) rfl ?_
      refine wg_get (d66_233 L xs) (kd := 1) (cj := 4) (k0 := 2) rfl (Or.inl rfl) Hr.1 (tm_c Hr) rfl ?_
      refine wg_top (y := (nI ((t_co (gl l) st to) + 1))) (by rw [mg_M_own]; rfl) ?_
      refine wg_aload_n (d66_236 L xs) rfl ?_
      refine wg_get (d66_237 L xs) (kd := 1) (cj := 4) (k0 := 3) rfl (Or.inl rfl) Hr.1 (tm_c Hr) rfl ?_
      refine wg_top (y := (nI (t_sl (gl l) st to))) (by rw [mg_M_own]; rfl) ?_
      refine wg_invs (d66_240 L xs) (kd := 6) (mj := 64) (n := 3) rfl (Or.inl rfl) (ys := [.int (nI (t_sl (gl l) st to)), .int (nI ((t_co (gl l) st to) + 1)), .ref a]) (r := []) rfl rfl (Nat.le_of_ble_eq_true rfl) (tm_tgt H (hold_M hl hra) (by omega) (by omega)) ?_
      rintro _ _ ⟨rfl, rfl⟩
      refine wn_if_eq (d66_243 L xs) (x := bI (t_tgt (gl l) ((t_co (gl l) st to) + 1) (t_sl (gl l) st to))) (by omega) (t := 250) (by decide) (fun h16 => ?_) (fun h16 => ?_)
      · refine wg_iconst (d66_250 L xs) (x := 0) (by decide) ?_
        have htf : t_tf (gl l) st to = t_co (gl l) st to + 1 := by unfold t_tf; rw [if_pos (by omega)]
        exact wg_iret (d66_251 L xs) rfl rfl (tm_post_n (by rw [t_rest_k hk hb, t_rk, if_neg (by decide), if_neg (by decide), if_pos (by decide)]; rw [htf, if_neg (fun q => q.elim (fun q => by omega) (fun q => absurd q (by rw [bI_f (b := t_tgt (gl l) (t_co (gl l) st to + 1) (t_sl (gl l) st to)) (by omega)]; decide)))]))
      · refine wg_iconst (d66_246 L xs) (x := 1) (by decide) ?_
        refine wg_goto (d66_247 L xs) (t := 251) (by decide) ?_
        have htf : t_tf (gl l) st to = t_co (gl l) st to + 1 := by unfold t_tf; rw [if_pos (by omega)]
        exact wg_iret (d66_251 L xs) rfl rfl (tm_post_s (T := (2, res, t_tf (gl l) st to, t_sl (gl l) st to, b, 0)) (by rw [t_rest_k hk hb, t_rk, if_neg (by decide), if_neg (by decide), if_pos (by decide)]; rw [htf, if_pos (Or.inr (bI_t (by omega))), ← htf]) rfl (fun _ => hr1) (by rw [htf]; rfl) rfl (by first | rfl | (intro _; rfl) | (intro _; have h9 := hb; unfold t_bits at h9; rw [if_neg (by omega)] at h9; cases h9; rfl)) (fun q => absurd (show (2 : Nat) = 4 from q) (by decide)))
    · refine wg_iconst (d66_64 L xs) (x := 1) (by decide) ?_
      refine wg_goto (d66_65 L xs) (t := 69) (by decide) ?_
      refine wg_istore (d66_69 L xs) (ls' := [some (.ref r), some (.ref a), some (.int (nI fr)), some (.int (nI to)), some (.int (nI st)), some (.int (nI (t_sl (gl l) st to))), some (.int (nI (t_co (gl l) st to))), some (.int 1), some (.int 1)]) (Nat.le_of_ble_eq_true rfl) rfl ?_
      refine wg_aload_n (d66_71 L xs) rfl ?_
      refine wg_aload_n (d66_72 L xs) rfl ?_
      refine wg_iload (d66_73 L xs) rfl ?_
      refine wg_iload (d66_75 L xs) rfl ?_
      refine wg_invs (d66_77 L xs) (kd := 6) (mj := 68) (n := 3) rfl (Or.inl rfl) (ys := [.int (nI (t_co (gl l) st to)), .int (nI st), .ref a]) (r := [.ref r]) rfl rfl (Nat.le_of_ble_eq_true rfl) (by have h9 := tm_kind (L := L) (xs := xs) (d := d + 1) (fr := st) (to := t_co (gl l) st to) H hl (by omega) (by omega); rw [hk] at h9; exact h9) ?_
      rintro _ _ ⟨rfl, rfl⟩
      refine wg_puti (d66_80 L xs) (cj := 4) (k0 := 0) rfl Hr.1 (tm_c Hr) (Nat.le_of_ble_eq_true rfl) rfl rfl (tm_cI0 Hr) ?_
      rw [mg_I_M]
      refine wg_aload_n (d66_83 L xs) rfl ?_
      refine wg_iload (d66_84 L xs) rfl ?_
      refine wg_if_eq (d66_86 L xs) (t := 96) (by decide) (fun hp => absurd hp (by decide)) (fun _ => ?_)
      refine wg_iload (d66_89 L xs) rfl ?_
      refine wg_iconst (d66_91 L xs) (x := 1) (by decide) ?_
      refine wg_iadd (d66_92 L xs) ?_
      refine wg_top (y := (nI ((t_co (gl l) st to) + 1))) (nI_add (t_co (gl l) st to) 1) ?_
      refine wg_goto (d66_93 L xs) (t := 98) (by decide) ?_
      refine wg_puti (d66_98 L xs) (cj := 4) (k0 := 2) rfl Hr.1 (tm_c Hr) (Nat.le_of_ble_eq_true rfl) rfl rfl (tm_cI2 Hr) ?_
      rw [mg_M_I]
      refine wg_aload_n (d66_101 L xs) rfl ?_
      refine wg_iload (d66_102 L xs) rfl ?_
      refine wg_puti (d66_104 L xs) (cj := 4) (k0 := 3) rfl Hr.1 (tm_c Hr) (Nat.le_of_ble_eq_true rfl) rfl rfl (tm_cI3 Hr) ?_
      rw [mg_M_I]
      refine wg_aload_n (d66_107 L xs) rfl ?_
      refine wg_iload (d66_108 L xs) rfl ?_
      refine wg_if_eq (d66_110 L xs) (t := 127) (by decide) (fun hp => absurd hp (by decide)) (fun _ => ?_)
      refine wg_aload_n (d66_113 L xs) rfl ?_
      refine wg_iload (d66_114 L xs) rfl ?_
      refine wg_iconst (d66_116 L xs) (x := 1) (by decide) ?_
      refine wg_iadd (d66_117 L xs) ?_
      refine wg_top (y := (nI ((t_sl (gl l) st to) + 1))) (nI_add (t_sl (gl l) st to) 1) ?_
      refine wg_iload_n (d66_118 L xs) rfl ?_
      refine wg_bipush (d66_119 L xs) (x := 32) (by decide) ?_
      refine wg_invv (d66_121 L xs) (kd := 7) (mj := 41) (n := 3) rfl (Or.inl rfl) (ys := [.int 32, .int (nI to), .int (nI ((t_sl (gl l) st to) + 1))]) (r := [.ref r]) rfl rfl H.1 (tx_c H) rfl (Nat.le_of_ble_eq_true rfl) (ts_num (o := some b) (fr := t_sl (gl l) st to + 1) (to := to) (most := 32) H (hold_M hl hra) (by omega) (by decide) (by omega) (by have h9 := hb; unfold t_bits at h9; rw [if_pos (by omega)] at h9; exact h9)) ?_
      rintro _ _ ⟨rfl, rfl⟩
      refine wg_goto (d66_124 L xs) (t := 129) (by decide) ?_
      refine wg_puti (d66_129 L xs) (cj := 4) (k0 := 4) rfl Hr.1 (tm_c Hr) (Nat.le_of_ble_eq_true rfl) rfl rfl (tm_cI4 Hr) ?_
      rw [mg_M_I]
      refine wg_aload_n (d66_132 L xs) rfl ?_
      refine wg_get (d66_133 L xs) (kd := 1) (cj := 4) (k0 := 4) rfl (Or.inl rfl) Hr.1 (tm_c Hr) rfl ?_
      refine wg_top (y := (nI b)) (by rw [mg_M_own]; rfl) ?_
      refine wg_iconst (d66_136 L xs) (x := (-1)) (by decide) ?_
      refine wg_icmp_ne (d66_137 L xs) (t := 142) (by decide) (fun h19 => ?_) (fun h19 => absurd (Classical.not_not.mp h19) (nI_neg1 (by omega)))
      refine wg_aload_n (d66_142 L xs) rfl ?_
      refine wg_get (d66_143 L xs) (kd := 1) (cj := 4) (k0 := 0) rfl (Or.inl rfl) Hr.1 (tm_c Hr) rfl ?_
      refine wg_top (y := 2) (by rw [mg_M_own]; rfl) ?_
      refine wg_tswIn (d66_146 L xs) (of := 80) (t := 226) (by decide) (by decide) (by decide) ?_
      refine wg_iload (d66_226 L xs) rfl ?_
      refine wg_if_eq (d66_228 L xs) (t := 246) (by decide) (fun hp => absurd hp (by decide)) (fun _ => ?_)
      refine wg_aload_n (d66_231 L xs) rfl ?_
      refine wg_aload_n (d66_232 L xs) rfl ?_
      refine wg_get (d66_233 L xs) (kd := 1) (cj := 4) (k0 := 2) rfl (Or.inl rfl) Hr.1 (tm_c Hr) rfl ?_
      refine wg_top (y := (nI ((t_co (gl l) st to) + 1))) (by rw [mg_M_own]; rfl) ?_
      refine wg_aload_n (d66_236 L xs) rfl ?_
      refine wg_get (d66_237 L xs) (kd := 1) (cj := 4) (k0 := 3) rfl (Or.inl rfl) Hr.1 (tm_c Hr) rfl ?_
      refine wg_top (y := (nI (t_sl (gl l) st to))) (by rw [mg_M_own]; rfl) ?_
      refine wg_invs (d66_240 L xs) (kd := 6) (mj := 64) (n := 3) rfl (Or.inl rfl) (ys := [.int (nI (t_sl (gl l) st to)), .int (nI ((t_co (gl l) st to) + 1)), .ref a]) (r := []) rfl rfl (Nat.le_of_ble_eq_true rfl) (tm_tgt H (hold_M hl hra) (by omega) (by omega)) ?_
      rintro _ _ ⟨rfl, rfl⟩
      refine wn_if_eq (d66_243 L xs) (x := bI (t_tgt (gl l) ((t_co (gl l) st to) + 1) (t_sl (gl l) st to))) (by omega) (t := 250) (by decide) (fun h21 => ?_) (fun h21 => ?_)
      · refine wg_iconst (d66_250 L xs) (x := 0) (by decide) ?_
        have htf : t_tf (gl l) st to = t_co (gl l) st to + 1 := by unfold t_tf; rw [if_pos (by omega)]
        exact wg_iret (d66_251 L xs) rfl rfl (tm_post_n (by rw [t_rest_k hk hb, t_rk, if_neg (by decide), if_neg (by decide), if_pos (by decide)]; rw [htf, if_neg (fun q => q.elim (fun q => by omega) (fun q => absurd q (by rw [bI_f (b := t_tgt (gl l) (t_co (gl l) st to + 1) (t_sl (gl l) st to)) (by omega)]; decide)))]))
      · refine wg_iconst (d66_246 L xs) (x := 1) (by decide) ?_
        refine wg_goto (d66_247 L xs) (t := 251) (by decide) ?_
        have htf : t_tf (gl l) st to = t_co (gl l) st to + 1 := by unfold t_tf; rw [if_pos (by omega)]
        exact wg_iret (d66_251 L xs) rfl rfl (tm_post_s (T := (2, res, t_tf (gl l) st to, t_sl (gl l) st to, b, 0)) (by rw [t_rest_k hk hb, t_rk, if_neg (by decide), if_neg (by decide), if_pos (by decide)]; rw [htf, if_pos (Or.inr (bI_t (by omega))), ← htf]) rfl (fun _ => hr1) (by rw [htf]; rfl) rfl (by first | rfl | (intro _; rfl) | (intro _; have h9 := hb; unfold t_bits at h9; rw [if_neg (by omega)] at h9; cases h9; rfl)) (fun q => absurd (show (2 : Nat) = 4 from q) (by decide)))
theorem tm_rest_3 {fr to st res b : Nat} (H : isT a) (hl : hold s a l) (Hr : isM r) (hra : ¬ a = r) (hto : to < 2 ^ 29) (hst : st ≤ to) (hr1 : s.1 r 1 = nI res) (hk : t_kind (gl l) st (t_co (gl l) st to) = some 3) (hb : t_bits (gl l) st to = some b) : wp L xs (d + 4) 66 21 [some (.ref r), some (.ref a), some (.int (nI fr)), some (.int (nI to)), some (.int (nI st)), none, none, none, none] [] s (tm_post s r (t_rest (gl l) st to res)) := by
  obtain ⟨hs1, hs2, hs3⟩ := t_sl_le (g := gl l) hst
  have hq0 := bI_lt (t_tgt (gl l) (t_co (gl l) st to + 1) (t_sl (gl l) st to))
  have hq1 := bI_lt (t_tgt (gl l) (t_sl (gl l) st to) (t_sl (gl l) st to))
  have hb100 : b ≤ 32 := by
    have h9 := hb
    unfold t_bits at h9
    split at h9
    · exact t_num_le h9
    · cases h9; exact Nat.le_refl _
  refine wg_aload_n (d66_21 L xs) rfl ?_
  refine wg_bipush (d66_22 L xs) (x := 47) (by decide) ?_
  refine wg_iload (d66_24 L xs) rfl ?_
  refine wg_iload_n (d66_26 L xs) rfl ?_
  refine wg_invv (d66_27 L xs) (kd := 7) (mj := 37) (n := 3) rfl (Or.inl rfl) (ys := [.int (nI to), .int (nI st), .int 47]) (r := []) rfl rfl H.1 (tx_c H) rfl (Nat.le_of_ble_eq_true rfl) (ts_find (c := 47) (fr := st) (to := to) H hl (by decide) (by omega) (by omega) rfl) ?_
  rintro _ _ ⟨rfl, rfl⟩
  refine wg_istore (d66_30 L xs) (ls' := [some (.ref r), some (.ref a), some (.int (nI fr)), some (.int (nI to)), some (.int (nI st)), some (.int (nI (t_sl (gl l) st to))), none, none, none]) (Nat.le_of_ble_eq_true rfl) rfl ?_
  refine wg_aload_n (d66_32 L xs) rfl ?_
  refine wg_bipush (d66_33 L xs) (x := 58) (by decide) ?_
  refine wg_iload (d66_35 L xs) rfl ?_
  refine wg_iload (d66_37 L xs) rfl ?_
  refine wg_invv (d66_39 L xs) (kd := 7) (mj := 37) (n := 3) rfl (Or.inl rfl) (ys := [.int (nI (t_sl (gl l) st to)), .int (nI st), .int 58]) (r := []) rfl rfl H.1 (tx_c H) rfl (Nat.le_of_ble_eq_true rfl) (ts_find (c := 58) (fr := st) (to := t_sl (gl l) st to) H hl (by decide) (by omega) (by omega) rfl) ?_
  rintro _ _ ⟨rfl, rfl⟩
  refine wg_istore (d66_42 L xs) (ls' := [some (.ref r), some (.ref a), some (.int (nI fr)), some (.int (nI to)), some (.int (nI st)), some (.int (nI (t_sl (gl l) st to))), some (.int (nI (t_co (gl l) st to))), none, none]) (Nat.le_of_ble_eq_true rfl) rfl ?_
  refine wg_iload (d66_44 L xs) rfl ?_
  refine wg_iload (d66_46 L xs) rfl ?_
  refine wn_icmp_ge (d66_48 L xs) (x := t_co (gl l) st to) (y := t_sl (gl l) st to) (by omega) (by omega) (t := 55) (by decide) (fun h1 => ?_) (fun h1 => ?_)
  · refine wg_iconst (d66_55 L xs) (x := 0) (by decide) ?_
    refine wg_istore (d66_56 L xs) (ls' := [some (.ref r), some (.ref a), some (.int (nI fr)), some (.int (nI to)), some (.int (nI st)), some (.int (nI (t_sl (gl l) st to))), some (.int (nI (t_co (gl l) st to))), some (.int 0), none]) (Nat.le_of_ble_eq_true rfl) rfl ?_
    refine wg_iload (d66_58 L xs) rfl ?_
    refine wg_iload_n (d66_60 L xs) rfl ?_
    refine wn_icmp_ge (d66_61 L xs) (x := t_sl (gl l) st to) (y := to) (by omega) (by omega) (t := 68) (by decide) (fun h2 => ?_) (fun h2 => ?_)
    · refine wg_iconst (d66_68 L xs) (x := 0) (by decide) ?_
      refine wg_istore (d66_69 L xs) (ls' := [some (.ref r), some (.ref a), some (.int (nI fr)), some (.int (nI to)), some (.int (nI st)), some (.int (nI (t_sl (gl l) st to))), some (.int (nI (t_co (gl l) st to))), some (.int 0), some (.int 0)]) (Nat.le_of_ble_eq_true rfl) rfl ?_
      refine wg_aload_n (d66_71 L xs) rfl ?_
      refine wg_aload_n (d66_72 L xs) rfl ?_
      refine wg_iload (d66_73 L xs) rfl ?_
      refine wg_iload (d66_75 L xs) rfl ?_
      refine wg_invs (d66_77 L xs) (kd := 6) (mj := 68) (n := 3) rfl (Or.inl rfl) (ys := [.int (nI (t_co (gl l) st to)), .int (nI st), .ref a]) (r := [.ref r]) rfl rfl (Nat.le_of_ble_eq_true rfl) (by have h9 := tm_kind (L := L) (xs := xs) (d := d + 1) (fr := st) (to := t_co (gl l) st to) H hl (by omega) (by omega); rw [hk] at h9; exact h9) ?_
      rintro _ _ ⟨rfl, rfl⟩
      refine wg_puti (d66_80 L xs) (cj := 4) (k0 := 0) rfl Hr.1 (tm_c Hr) (Nat.le_of_ble_eq_true rfl) rfl rfl (tm_cI0 Hr) ?_
      rw [mg_I_M]
      refine wg_aload_n (d66_83 L xs) rfl ?_
      refine wg_iload (d66_84 L xs) rfl ?_
      refine wg_if_eq (d66_86 L xs) (t := 96) (by decide) (fun _ => ?_) (fun hn => absurd (by decide) hn)
      refine wg_iload (d66_96 L xs) rfl ?_
      refine wg_puti (d66_98 L xs) (cj := 4) (k0 := 2) rfl Hr.1 (tm_c Hr) (Nat.le_of_ble_eq_true rfl) rfl rfl (tm_cI2 Hr) ?_
      rw [mg_M_I]
      refine wg_aload_n (d66_101 L xs) rfl ?_
      refine wg_iload (d66_102 L xs) rfl ?_
      refine wg_puti (d66_104 L xs) (cj := 4) (k0 := 3) rfl Hr.1 (tm_c Hr) (Nat.le_of_ble_eq_true rfl) rfl rfl (tm_cI3 Hr) ?_
      rw [mg_M_I]
      refine wg_aload_n (d66_107 L xs) rfl ?_
      refine wg_iload (d66_108 L xs) rfl ?_
      refine wg_if_eq (d66_110 L xs) (t := 127) (by decide) (fun _ => ?_) (fun hn => absurd (by decide) hn)
      refine wg_bipush (d66_127 L xs) (x := 32) (by decide) ?_
      refine wg_puti (d66_129 L xs) (cj := 4) (k0 := 4) rfl Hr.1 (tm_c Hr) (Nat.le_of_ble_eq_true rfl) rfl rfl (tm_cI4 Hr) ?_
      rw [mg_M_I]
      refine wg_aload_n (d66_132 L xs) rfl ?_
      refine wg_get (d66_133 L xs) (kd := 1) (cj := 4) (k0 := 4) rfl (Or.inl rfl) Hr.1 (tm_c Hr) rfl ?_
      refine wg_top (y := 32) (by rw [mg_M_own]; rfl) ?_
      refine wg_iconst (d66_136 L xs) (x := (-1)) (by decide) ?_
      refine wg_icmp_ne (d66_137 L xs) (t := 142) (by decide) (fun _ => ?_) (fun hn => absurd (by decide) hn)
      refine wg_aload_n (d66_142 L xs) rfl ?_
      refine wg_get (d66_143 L xs) (kd := 1) (cj := 4) (k0 := 0) rfl (Or.inl rfl) Hr.1 (tm_c Hr) rfl ?_
      refine wg_top (y := 3) (by rw [mg_M_own]; rfl) ?_
      refine wg_tswIn (d66_146 L xs) (of := 80) (t := 226) (by decide) (by decide) (by decide) ?_
      refine wg_iload (d66_226 L xs) rfl ?_
      refine wg_if_eq (d66_228 L xs) (t := 246) (by decide) (fun _ => ?_) (fun hn => absurd (by decide) hn)
      refine wg_iconst (d66_246 L xs) (x := 1) (by decide) ?_
      refine wg_goto (d66_247 L xs) (t := 251) (by decide) ?_
      have htf : t_tf (gl l) st to = t_sl (gl l) st to := by unfold t_tf; rw [if_neg (by omega)]
      exact wg_iret (d66_251 L xs) rfl rfl (tm_post_s (T := (3, res, t_tf (gl l) st to, t_sl (gl l) st to, b, 0)) (by rw [t_rest_k hk hb, t_rk, if_neg (by decide), if_neg (by decide), if_pos (by decide)]; rw [if_pos (Or.inl (by omega))]) rfl (fun _ => hr1) (by rw [htf]; rfl) rfl (by first | rfl | (intro _; rfl) | (intro _; have h9 := hb; unfold t_bits at h9; rw [if_neg (by omega)] at h9; cases h9; rfl)) (fun q => absurd (show (3 : Nat) = 4 from q) (by decide)))
    · refine wg_iconst (d66_64 L xs) (x := 1) (by decide) ?_
      refine wg_goto (d66_65 L xs) (t := 69) (by decide) ?_
      refine wg_istore (d66_69 L xs) (ls' := [some (.ref r), some (.ref a), some (.int (nI fr)), some (.int (nI to)), some (.int (nI st)), some (.int (nI (t_sl (gl l) st to))), some (.int (nI (t_co (gl l) st to))), some (.int 0), some (.int 1)]) (Nat.le_of_ble_eq_true rfl) rfl ?_
      refine wg_aload_n (d66_71 L xs) rfl ?_
      refine wg_aload_n (d66_72 L xs) rfl ?_
      refine wg_iload (d66_73 L xs) rfl ?_
      refine wg_iload (d66_75 L xs) rfl ?_
      refine wg_invs (d66_77 L xs) (kd := 6) (mj := 68) (n := 3) rfl (Or.inl rfl) (ys := [.int (nI (t_co (gl l) st to)), .int (nI st), .ref a]) (r := [.ref r]) rfl rfl (Nat.le_of_ble_eq_true rfl) (by have h9 := tm_kind (L := L) (xs := xs) (d := d + 1) (fr := st) (to := t_co (gl l) st to) H hl (by omega) (by omega); rw [hk] at h9; exact h9) ?_
      rintro _ _ ⟨rfl, rfl⟩
      refine wg_puti (d66_80 L xs) (cj := 4) (k0 := 0) rfl Hr.1 (tm_c Hr) (Nat.le_of_ble_eq_true rfl) rfl rfl (tm_cI0 Hr) ?_
      rw [mg_I_M]
      refine wg_aload_n (d66_83 L xs) rfl ?_
      refine wg_iload (d66_84 L xs) rfl ?_
      refine wg_if_eq (d66_86 L xs) (t := 96) (by decide) (fun _ => ?_) (fun hn => absurd (by decide) hn)
      refine wg_iload (d66_96 L xs) rfl ?_
      refine wg_puti (d66_98 L xs) (cj := 4) (k0 := 2) rfl Hr.1 (tm_c Hr) (Nat.le_of_ble_eq_true rfl) rfl rfl (tm_cI2 Hr) ?_
      rw [mg_M_I]
      refine wg_aload_n (d66_101 L xs) rfl ?_
      refine wg_iload (d66_102 L xs) rfl ?_
      refine wg_puti (d66_104 L xs) (cj := 4) (k0 := 3) rfl Hr.1 (tm_c Hr) (Nat.le_of_ble_eq_true rfl) rfl rfl (tm_cI3 Hr) ?_
      rw [mg_M_I]
      refine wg_aload_n (d66_107 L xs) rfl ?_
      refine wg_iload (d66_108 L xs) rfl ?_
      refine wg_if_eq (d66_110 L xs) (t := 127) (by decide) (fun hp => absurd hp (by decide)) (fun _ => ?_)
      refine wg_aload_n (d66_113 L xs) rfl ?_
      refine wg_iload (d66_114 L xs) rfl ?_
      refine wg_iconst (d66_116 L xs) (x := 1) (by decide) ?_
      refine wg_iadd (d66_117 L xs) ?_
      refine wg_top (y := (nI ((t_sl (gl l) st to) + 1))) (nI_add (t_sl (gl l) st to) 1) ?_
      refine wg_iload_n (d66_118 L xs) rfl ?_
      refine wg_bipush (d66_119 L xs) (x := 32) (by decide) ?_
      refine wg_invv (d66_121 L xs) (kd := 7) (mj := 41) (n := 3) rfl (Or.inl rfl) (ys := [.int 32, .int (nI to), .int (nI ((t_sl (gl l) st to) + 1))]) (r := [.ref r]) rfl rfl H.1 (tx_c H) rfl (Nat.le_of_ble_eq_true rfl) (ts_num (o := some b) (fr := t_sl (gl l) st to + 1) (to := to) (most := 32) H (hold_M hl hra) (by omega) (by decide) (by omega) (by have h9 := hb; unfold t_bits at h9; rw [if_pos (by omega)] at h9; exact h9)) ?_
      rintro _ _ ⟨rfl, rfl⟩
      refine wg_goto (d66_124 L xs) (t := 129) (by decide) ?_
      refine wg_puti (d66_129 L xs) (cj := 4) (k0 := 4) rfl Hr.1 (tm_c Hr) (Nat.le_of_ble_eq_true rfl) rfl rfl (tm_cI4 Hr) ?_
      rw [mg_M_I]
      refine wg_aload_n (d66_132 L xs) rfl ?_
      refine wg_get (d66_133 L xs) (kd := 1) (cj := 4) (k0 := 4) rfl (Or.inl rfl) Hr.1 (tm_c Hr) rfl ?_
      refine wg_top (y := (nI b)) (by rw [mg_M_own]; rfl) ?_
      refine wg_iconst (d66_136 L xs) (x := (-1)) (by decide) ?_
      refine wg_icmp_ne (d66_137 L xs) (t := 142) (by decide) (fun h9 => ?_) (fun h9 => absurd (Classical.not_not.mp h9) (nI_neg1 (by omega)))
      refine wg_aload_n (d66_142 L xs) rfl ?_
      refine wg_get (d66_143 L xs) (kd := 1) (cj := 4) (k0 := 0) rfl (Or.inl rfl) Hr.1 (tm_c Hr) rfl ?_
      refine wg_top (y := 3) (by rw [mg_M_own]; rfl) ?_
      refine wg_tswIn (d66_146 L xs) (of := 80) (t := 226) (by decide) (by decide) (by decide) ?_
      refine wg_iload (d66_226 L xs) rfl ?_
      refine wg_if_eq (d66_228 L xs) (t := 246) (by decide) (fun _ => ?_) (fun hn => absurd (by decide) hn)
      refine wg_iconst (d66_246 L xs) (x := 1) (by decide) ?_
      refine wg_goto (d66_247 L xs) (t := 251) (by decide) ?_
      have htf : t_tf (gl l) st to = t_sl (gl l) st to := by unfold t_tf; rw [if_neg (by omega)]
      exact wg_iret (d66_251 L xs) rfl rfl (tm_post_s (T := (3, res, t_tf (gl l) st to, t_sl (gl l) st to, b, 0)) (by rw [t_rest_k hk hb, t_rk, if_neg (by decide), if_neg (by decide), if_pos (by decide)]; rw [if_pos (Or.inl (by omega))]) rfl (fun _ => hr1) (by rw [htf]; rfl) rfl (by first | rfl | (intro _; rfl) | (intro _; have h9 := hb; unfold t_bits at h9; rw [if_neg (by omega)] at h9; cases h9; rfl)) (fun q => absurd (show (3 : Nat) = 4 from q) (by decide)))
  · refine wg_iconst (d66_51 L xs) (x := 1) (by decide) ?_
    refine wg_goto (d66_52 L xs) (t := 56) (by decide) ?_
    refine wg_istore (d66_56 L xs) (ls' := [some (.ref r), some (.ref a), some (.int (nI fr)), some (.int (nI to)), some (.int (nI st)), some (.int (nI (t_sl (gl l) st to))), some (.int (nI (t_co (gl l) st to))), some (.int 1), none]) (Nat.le_of_ble_eq_true rfl) rfl ?_
    refine wg_iload (d66_58 L xs) rfl ?_
    refine wg_iload_n (d66_60 L xs) rfl ?_
    refine wn_icmp_ge (d66_61 L xs) (x := t_sl (gl l) st to) (y := to) (by omega) (by omega) (t := 68) (by decide) (fun h11 => ?_) (fun h11 => ?_)
    · refine wg_iconst (d66_68 L xs) (x := 0) (by decide) ?_
      refine wg_istore (d66_69 L xs) (ls' := [some (.ref r), some (.ref a), some (.int (nI fr)), some (.int (nI to)), some (.int (nI st)), some (.int (nI (t_sl (gl l) st to))), some (.int (nI (t_co (gl l) st to))), some (.int 1), some (.int 0)]) (Nat.le_of_ble_eq_true rfl) rfl ?_
      refine wg_aload_n (d66_71 L xs) rfl ?_
      refine wg_aload_n (d66_72 L xs) rfl ?_
      refine wg_iload (d66_73 L xs) rfl ?_
      refine wg_iload (d66_75 L xs) rfl ?_
      refine wg_invs (d66_77 L xs) (kd := 6) (mj := 68) (n := 3) rfl (Or.inl rfl) (ys := [.int (nI (t_co (gl l) st to)), .int (nI st), .ref a]) (r := [.ref r]) rfl rfl (Nat.le_of_ble_eq_true rfl) (by have h9 := tm_kind (L := L) (xs := xs) (d := d + 1) (fr := st) (to := t_co (gl l) st to) H hl (by omega) (by omega); rw [hk] at h9; exact h9) ?_
      rintro _ _ ⟨rfl, rfl⟩
      refine wg_puti (d66_80 L xs) (cj := 4) (k0 := 0) rfl Hr.1 (tm_c Hr) (Nat.le_of_ble_eq_true rfl) rfl rfl (tm_cI0 Hr) ?_
      rw [mg_I_M]
      refine wg_aload_n (d66_83 L xs) rfl ?_
      refine wg_iload (d66_84 L xs) rfl ?_
      refine wg_if_eq (d66_86 L xs) (t := 96) (by decide) (fun hp => absurd hp (by decide)) (fun _ => ?_)
      refine wg_iload (d66_89 L xs) rfl ?_
      refine wg_iconst (d66_91 L xs) (x := 1) (by decide) ?_
      refine wg_iadd (d66_92 L xs) ?_
      refine wg_top (y := (nI ((t_co (gl l) st to) + 1))) (nI_add (t_co (gl l) st to) 1) ?_
      refine wg_goto (d66_93 L xs) (t := 98) (by decide) ?_
      refine wg_puti (d66_98 L xs) (cj := 4) (k0 := 2) rfl Hr.1 (tm_c Hr) (Nat.le_of_ble_eq_true rfl) rfl rfl (tm_cI2 Hr) ?_
      rw [mg_M_I]
      refine wg_aload_n (d66_101 L xs) rfl ?_
      refine wg_iload (d66_102 L xs) rfl ?_
      refine wg_puti (d66_104 L xs) (cj := 4) (k0 := 3) rfl Hr.1 (tm_c Hr) (Nat.le_of_ble_eq_true rfl) rfl rfl (tm_cI3 Hr) ?_
      rw [mg_M_I]
      refine wg_aload_n (d66_107 L xs) rfl ?_
      refine wg_iload (d66_108 L xs) rfl ?_
      refine wg_if_eq (d66_110 L xs) (t := 127) (by decide) (fun _ => ?_) (fun hn => absurd (by decide) hn)
      refine wg_bipush (d66_127 L xs) (x := 32) (by decide) ?_
      refine wg_puti (d66_129 L xs) (cj := 4) (k0 := 4) rfl Hr.1 (tm_c Hr) (Nat.le_of_ble_eq_true rfl) rfl rfl (tm_cI4 Hr) ?_
      rw [mg_M_I]
      refine wg_aload_n (d66_132 L xs) rfl ?_
      refine wg_get (d66_133 L xs) (kd := 1) (cj := 4) (k0 := 4) rfl (Or.inl rfl) Hr.1 (tm_c Hr) rfl ?_
      refine wg_top (y := 32) (by rw [mg_M_own]; rfl) ?_
      refine wg_iconst (d66_136 L xs) (x := (-1)) (by decide) ?_
      refine wg_icmp_ne (d66_137 L xs) (t := 142) (by decide) (fun _ => ?_) (fun hn => absurd (by decide) hn)
      refine wg_aload_n (d66_142 L xs) rfl ?_
      refine wg_get (d66_143 L xs) (kd := 1) (cj := 4) (k0 := 0) rfl (Or.inl rfl) Hr.1 (tm_c Hr) rfl ?_
      refine wg_top (y := 3) (by rw [mg_M_own]; rfl) ?_
      refine wg_tswIn (d66_146 L xs) (of := 80) (t := 226) (by decide) (by decide) (by decide) ?_
      refine wg_iload (d66_226 L xs) rfl ?_
      refine wg_if_eq (d66_228 L xs) (t := 246) (by decide) (fun hp => absurd hp (by decide)) (fun _ => ?_)
      refine wg_aload_n (d66_231 L xs) rfl ?_
      refine wg_aload_n (d66_232 L xs) rfl ?_
      refine wg_get (d66_233 L xs) (kd := 1) (cj := 4) (k0 := 2) rfl (Or.inl rfl) Hr.1 (tm_c Hr) rfl ?_
      refine wg_top (y := (nI ((t_co (gl l) st to) + 1))) (by rw [mg_M_own]; rfl) ?_
      refine wg_aload_n (d66_236 L xs) rfl ?_
      refine wg_get (d66_237 L xs) (kd := 1) (cj := 4) (k0 := 3) rfl (Or.inl rfl) Hr.1 (tm_c Hr) rfl ?_
      refine wg_top (y := (nI (t_sl (gl l) st to))) (by rw [mg_M_own]; rfl) ?_
      refine wg_invs (d66_240 L xs) (kd := 6) (mj := 64) (n := 3) rfl (Or.inl rfl) (ys := [.int (nI (t_sl (gl l) st to)), .int (nI ((t_co (gl l) st to) + 1)), .ref a]) (r := []) rfl rfl (Nat.le_of_ble_eq_true rfl) (tm_tgt H (hold_M hl hra) (by omega) (by omega)) ?_
      rintro _ _ ⟨rfl, rfl⟩
      refine wn_if_eq (d66_243 L xs) (x := bI (t_tgt (gl l) ((t_co (gl l) st to) + 1) (t_sl (gl l) st to))) (by omega) (t := 250) (by decide) (fun h16 => ?_) (fun h16 => ?_)
      · refine wg_iconst (d66_250 L xs) (x := 0) (by decide) ?_
        have htf : t_tf (gl l) st to = t_co (gl l) st to + 1 := by unfold t_tf; rw [if_pos (by omega)]
        exact wg_iret (d66_251 L xs) rfl rfl (tm_post_n (by rw [t_rest_k hk hb, t_rk, if_neg (by decide), if_neg (by decide), if_pos (by decide)]; rw [htf, if_neg (fun q => q.elim (fun q => by omega) (fun q => absurd q (by rw [bI_f (b := t_tgt (gl l) (t_co (gl l) st to + 1) (t_sl (gl l) st to)) (by omega)]; decide)))]))
      · refine wg_iconst (d66_246 L xs) (x := 1) (by decide) ?_
        refine wg_goto (d66_247 L xs) (t := 251) (by decide) ?_
        have htf : t_tf (gl l) st to = t_co (gl l) st to + 1 := by unfold t_tf; rw [if_pos (by omega)]
        exact wg_iret (d66_251 L xs) rfl rfl (tm_post_s (T := (3, res, t_tf (gl l) st to, t_sl (gl l) st to, b, 0)) (by rw [t_rest_k hk hb, t_rk, if_neg (by decide), if_neg (by decide), if_pos (by decide)]; rw [htf, if_pos (Or.inr (bI_t (by omega))), ← htf]) rfl (fun _ => hr1) (by rw [htf]; rfl) rfl (by first | rfl | (intro _; rfl) | (intro _; have h9 := hb; unfold t_bits at h9; rw [if_neg (by omega)] at h9; cases h9; rfl)) (fun q => absurd (show (3 : Nat) = 4 from q) (by decide)))
    · refine wg_iconst (d66_64 L xs) (x := 1) (by decide) ?_
      refine wg_goto (d66_65 L xs) (t := 69) (by decide) ?_
      refine wg_istore (d66_69 L xs) (ls' := [some (.ref r), some (.ref a), some (.int (nI fr)), some (.int (nI to)), some (.int (nI st)), some (.int (nI (t_sl (gl l) st to))), some (.int (nI (t_co (gl l) st to))), some (.int 1), some (.int 1)]) (Nat.le_of_ble_eq_true rfl) rfl ?_
      refine wg_aload_n (d66_71 L xs) rfl ?_
      refine wg_aload_n (d66_72 L xs) rfl ?_
      refine wg_iload (d66_73 L xs) rfl ?_
      refine wg_iload (d66_75 L xs) rfl ?_
      refine wg_invs (d66_77 L xs) (kd := 6) (mj := 68) (n := 3) rfl (Or.inl rfl) (ys := [.int (nI (t_co (gl l) st to)), .int (nI st), .ref a]) (r := [.ref r]) rfl rfl (Nat.le_of_ble_eq_true rfl) (by have h9 := tm_kind (L := L) (xs := xs) (d := d + 1) (fr := st) (to := t_co (gl l) st to) H hl (by omega) (by omega); rw [hk] at h9; exact h9) ?_
      rintro _ _ ⟨rfl, rfl⟩
      refine wg_puti (d66_80 L xs) (cj := 4) (k0 := 0) rfl Hr.1 (tm_c Hr) (Nat.le_of_ble_eq_true rfl) rfl rfl (tm_cI0 Hr) ?_
      rw [mg_I_M]
      refine wg_aload_n (d66_83 L xs) rfl ?_
      refine wg_iload (d66_84 L xs) rfl ?_
      refine wg_if_eq (d66_86 L xs) (t := 96) (by decide) (fun hp => absurd hp (by decide)) (fun _ => ?_)
      refine wg_iload (d66_89 L xs) rfl ?_
      refine wg_iconst (d66_91 L xs) (x := 1) (by decide) ?_
      refine wg_iadd (d66_92 L xs) ?_
      refine wg_top (y := (nI ((t_co (gl l) st to) + 1))) (nI_add (t_co (gl l) st to) 1) ?_
      refine wg_goto (d66_93 L xs) (t := 98) (by decide) ?_
      refine wg_puti (d66_98 L xs) (cj := 4) (k0 := 2) rfl Hr.1 (tm_c Hr) (Nat.le_of_ble_eq_true rfl) rfl rfl (tm_cI2 Hr) ?_
      rw [mg_M_I]
      refine wg_aload_n (d66_101 L xs) rfl ?_
      refine wg_iload (d66_102 L xs) rfl ?_
      refine wg_puti (d66_104 L xs) (cj := 4) (k0 := 3) rfl Hr.1 (tm_c Hr) (Nat.le_of_ble_eq_true rfl) rfl rfl (tm_cI3 Hr) ?_
      rw [mg_M_I]
      refine wg_aload_n (d66_107 L xs) rfl ?_
      refine wg_iload (d66_108 L xs) rfl ?_
      refine wg_if_eq (d66_110 L xs) (t := 127) (by decide) (fun hp => absurd hp (by decide)) (fun _ => ?_)
      refine wg_aload_n (d66_113 L xs) rfl ?_
      refine wg_iload (d66_114 L xs) rfl ?_
      refine wg_iconst (d66_116 L xs) (x := 1) (by decide) ?_
      refine wg_iadd (d66_117 L xs) ?_
      refine wg_top (y := (nI ((t_sl (gl l) st to) + 1))) (nI_add (t_sl (gl l) st to) 1) ?_
      refine wg_iload_n (d66_118 L xs) rfl ?_
      refine wg_bipush (d66_119 L xs) (x := 32) (by decide) ?_
      refine wg_invv (d66_121 L xs) (kd := 7) (mj := 41) (n := 3) rfl (Or.inl rfl) (ys := [.int 32, .int (nI to), .int (nI ((t_sl (gl l) st to) + 1))]) (r := [.ref r]) rfl rfl H.1 (tx_c H) rfl (Nat.le_of_ble_eq_true rfl) (ts_num (o := some b) (fr := t_sl (gl l) st to + 1) (to := to) (most := 32) H (hold_M hl hra) (by omega) (by decide) (by omega) (by have h9 := hb; unfold t_bits at h9; rw [if_pos (by omega)] at h9; exact h9)) ?_
      rintro _ _ ⟨rfl, rfl⟩
      refine wg_goto (d66_124 L xs) (t := 129) (by decide) ?_
      refine wg_puti (d66_129 L xs) (cj := 4) (k0 := 4) rfl Hr.1 (tm_c Hr) (Nat.le_of_ble_eq_true rfl) rfl rfl (tm_cI4 Hr) ?_
      rw [mg_M_I]
      refine wg_aload_n (d66_132 L xs) rfl ?_
      refine wg_get (d66_133 L xs) (kd := 1) (cj := 4) (k0 := 4) rfl (Or.inl rfl) Hr.1 (tm_c Hr) rfl ?_
      refine wg_top (y := (nI b)) (by rw [mg_M_own]; rfl) ?_
      refine wg_iconst (d66_136 L xs) (x := (-1)) (by decide) ?_
      refine wg_icmp_ne (d66_137 L xs) (t := 142) (by decide) (fun h19 => ?_) (fun h19 => absurd (Classical.not_not.mp h19) (nI_neg1 (by omega)))
      refine wg_aload_n (d66_142 L xs) rfl ?_
      refine wg_get (d66_143 L xs) (kd := 1) (cj := 4) (k0 := 0) rfl (Or.inl rfl) Hr.1 (tm_c Hr) rfl ?_
      refine wg_top (y := 3) (by rw [mg_M_own]; rfl) ?_
      refine wg_tswIn (d66_146 L xs) (of := 80) (t := 226) (by decide) (by decide) (by decide) ?_
      refine wg_iload (d66_226 L xs) rfl ?_
      refine wg_if_eq (d66_228 L xs) (t := 246) (by decide) (fun hp => absurd hp (by decide)) (fun _ => ?_)
      refine wg_aload_n (d66_231 L xs) rfl ?_
      refine wg_aload_n (d66_232 L xs) rfl ?_
      refine wg_get (d66_233 L xs) (kd := 1) (cj := 4) (k0 := 2) rfl (Or.inl rfl) Hr.1 (tm_c Hr) rfl ?_
      refine wg_top (y := (nI ((t_co (gl l) st to) + 1))) (by rw [mg_M_own]; rfl) ?_
      refine wg_aload_n (d66_236 L xs) rfl ?_
      refine wg_get (d66_237 L xs) (kd := 1) (cj := 4) (k0 := 3) rfl (Or.inl rfl) Hr.1 (tm_c Hr) rfl ?_
      refine wg_top (y := (nI (t_sl (gl l) st to))) (by rw [mg_M_own]; rfl) ?_
      refine wg_invs (d66_240 L xs) (kd := 6) (mj := 64) (n := 3) rfl (Or.inl rfl) (ys := [.int (nI (t_sl (gl l) st to)), .int (nI ((t_co (gl l) st to) + 1)), .ref a]) (r := []) rfl rfl (Nat.le_of_ble_eq_true rfl) (tm_tgt H (hold_M hl hra) (by omega) (by omega)) ?_
      rintro _ _ ⟨rfl, rfl⟩
      refine wn_if_eq (d66_243 L xs) (x := bI (t_tgt (gl l) ((t_co (gl l) st to) + 1) (t_sl (gl l) st to))) (by omega) (t := 250) (by decide) (fun h21 => ?_) (fun h21 => ?_)
      · refine wg_iconst (d66_250 L xs) (x := 0) (by decide) ?_
        have htf : t_tf (gl l) st to = t_co (gl l) st to + 1 := by unfold t_tf; rw [if_pos (by omega)]
        exact wg_iret (d66_251 L xs) rfl rfl (tm_post_n (by rw [t_rest_k hk hb, t_rk, if_neg (by decide), if_neg (by decide), if_pos (by decide)]; rw [htf, if_neg (fun q => q.elim (fun q => by omega) (fun q => absurd q (by rw [bI_f (b := t_tgt (gl l) (t_co (gl l) st to + 1) (t_sl (gl l) st to)) (by omega)]; decide)))]))
      · refine wg_iconst (d66_246 L xs) (x := 1) (by decide) ?_
        refine wg_goto (d66_247 L xs) (t := 251) (by decide) ?_
        have htf : t_tf (gl l) st to = t_co (gl l) st to + 1 := by unfold t_tf; rw [if_pos (by omega)]
        exact wg_iret (d66_251 L xs) rfl rfl (tm_post_s (T := (3, res, t_tf (gl l) st to, t_sl (gl l) st to, b, 0)) (by rw [t_rest_k hk hb, t_rk, if_neg (by decide), if_neg (by decide), if_pos (by decide)]; rw [htf, if_pos (Or.inr (bI_t (by omega))), ← htf]) rfl (fun _ => hr1) (by rw [htf]; rfl) rfl (by first | rfl | (intro _; rfl) | (intro _; have h9 := hb; unfold t_bits at h9; rw [if_neg (by omega)] at h9; cases h9; rfl)) (fun q => absurd (show (3 : Nat) = 4 from q) (by decide)))
theorem tm_rest_4 {fr to st res b : Nat} (H : isT a) (hl : hold s a l) (Hr : isM r) (hra : ¬ a = r) (hto : to < 2 ^ 29) (hst : st ≤ to) (hr1 : s.1 r 1 = nI res) (hk : t_kind (gl l) st (t_co (gl l) st to) = some 4) (hb : t_bits (gl l) st to = some b) : wp L xs (d + 4) 66 21 [some (.ref r), some (.ref a), some (.int (nI fr)), some (.int (nI to)), some (.int (nI st)), none, none, none, none] [] s (tm_post s r (t_rest (gl l) st to res)) := by
  obtain ⟨hs1, hs2, hs3⟩ := t_sl_le (g := gl l) hst
  have hq0 := bI_lt (t_tgt (gl l) (t_co (gl l) st to + 1) (t_sl (gl l) st to))
  have hq1 := bI_lt (t_tgt (gl l) (t_sl (gl l) st to) (t_sl (gl l) st to))
  have hb100 : b ≤ 32 := by
    have h9 := hb
    unfold t_bits at h9
    split at h9
    · exact t_num_le h9
    · cases h9; exact Nat.le_refl _
  refine wg_aload_n (d66_21 L xs) rfl ?_
  refine wg_bipush (d66_22 L xs) (x := 47) (by decide) ?_
  refine wg_iload (d66_24 L xs) rfl ?_
  refine wg_iload_n (d66_26 L xs) rfl ?_
  refine wg_invv (d66_27 L xs) (kd := 7) (mj := 37) (n := 3) rfl (Or.inl rfl) (ys := [.int (nI to), .int (nI st), .int 47]) (r := []) rfl rfl H.1 (tx_c H) rfl (Nat.le_of_ble_eq_true rfl) (ts_find (c := 47) (fr := st) (to := to) H hl (by decide) (by omega) (by omega) rfl) ?_
  rintro _ _ ⟨rfl, rfl⟩
  refine wg_istore (d66_30 L xs) (ls' := [some (.ref r), some (.ref a), some (.int (nI fr)), some (.int (nI to)), some (.int (nI st)), some (.int (nI (t_sl (gl l) st to))), none, none, none]) (Nat.le_of_ble_eq_true rfl) rfl ?_
  refine wg_aload_n (d66_32 L xs) rfl ?_
  refine wg_bipush (d66_33 L xs) (x := 58) (by decide) ?_
  refine wg_iload (d66_35 L xs) rfl ?_
  refine wg_iload (d66_37 L xs) rfl ?_
  refine wg_invv (d66_39 L xs) (kd := 7) (mj := 37) (n := 3) rfl (Or.inl rfl) (ys := [.int (nI (t_sl (gl l) st to)), .int (nI st), .int 58]) (r := []) rfl rfl H.1 (tx_c H) rfl (Nat.le_of_ble_eq_true rfl) (ts_find (c := 58) (fr := st) (to := t_sl (gl l) st to) H hl (by decide) (by omega) (by omega) rfl) ?_
  rintro _ _ ⟨rfl, rfl⟩
  refine wg_istore (d66_42 L xs) (ls' := [some (.ref r), some (.ref a), some (.int (nI fr)), some (.int (nI to)), some (.int (nI st)), some (.int (nI (t_sl (gl l) st to))), some (.int (nI (t_co (gl l) st to))), none, none]) (Nat.le_of_ble_eq_true rfl) rfl ?_
  refine wg_iload (d66_44 L xs) rfl ?_
  refine wg_iload (d66_46 L xs) rfl ?_
  refine wn_icmp_ge (d66_48 L xs) (x := t_co (gl l) st to) (y := t_sl (gl l) st to) (by omega) (by omega) (t := 55) (by decide) (fun h1 => ?_) (fun h1 => ?_)
  · refine wg_iconst (d66_55 L xs) (x := 0) (by decide) ?_
    refine wg_istore (d66_56 L xs) (ls' := [some (.ref r), some (.ref a), some (.int (nI fr)), some (.int (nI to)), some (.int (nI st)), some (.int (nI (t_sl (gl l) st to))), some (.int (nI (t_co (gl l) st to))), some (.int 0), none]) (Nat.le_of_ble_eq_true rfl) rfl ?_
    refine wg_iload (d66_58 L xs) rfl ?_
    refine wg_iload_n (d66_60 L xs) rfl ?_
    refine wn_icmp_ge (d66_61 L xs) (x := t_sl (gl l) st to) (y := to) (by omega) (by omega) (t := 68) (by decide) (fun h2 => ?_) (fun h2 => ?_)
    · refine wg_iconst (d66_68 L xs) (x := 0) (by decide) ?_
      refine wg_istore (d66_69 L xs) (ls' := [some (.ref r), some (.ref a), some (.int (nI fr)), some (.int (nI to)), some (.int (nI st)), some (.int (nI (t_sl (gl l) st to))), some (.int (nI (t_co (gl l) st to))), some (.int 0), some (.int 0)]) (Nat.le_of_ble_eq_true rfl) rfl ?_
      refine wg_aload_n (d66_71 L xs) rfl ?_
      refine wg_aload_n (d66_72 L xs) rfl ?_
      refine wg_iload (d66_73 L xs) rfl ?_
      refine wg_iload (d66_75 L xs) rfl ?_
      refine wg_invs (d66_77 L xs) (kd := 6) (mj := 68) (n := 3) rfl (Or.inl rfl) (ys := [.int (nI (t_co (gl l) st to)), .int (nI st), .ref a]) (r := [.ref r]) rfl rfl (Nat.le_of_ble_eq_true rfl) (by have h9 := tm_kind (L := L) (xs := xs) (d := d + 1) (fr := st) (to := t_co (gl l) st to) H hl (by omega) (by omega); rw [hk] at h9; exact h9) ?_
      rintro _ _ ⟨rfl, rfl⟩
      refine wg_puti (d66_80 L xs) (cj := 4) (k0 := 0) rfl Hr.1 (tm_c Hr) (Nat.le_of_ble_eq_true rfl) rfl rfl (tm_cI0 Hr) ?_
      rw [mg_I_M]
      refine wg_aload_n (d66_83 L xs) rfl ?_
      refine wg_iload (d66_84 L xs) rfl ?_
      refine wg_if_eq (d66_86 L xs) (t := 96) (by decide) (fun _ => ?_) (fun hn => absurd (by decide) hn)
      refine wg_iload (d66_96 L xs) rfl ?_
      refine wg_puti (d66_98 L xs) (cj := 4) (k0 := 2) rfl Hr.1 (tm_c Hr) (Nat.le_of_ble_eq_true rfl) rfl rfl (tm_cI2 Hr) ?_
      rw [mg_M_I]
      refine wg_aload_n (d66_101 L xs) rfl ?_
      refine wg_iload (d66_102 L xs) rfl ?_
      refine wg_puti (d66_104 L xs) (cj := 4) (k0 := 3) rfl Hr.1 (tm_c Hr) (Nat.le_of_ble_eq_true rfl) rfl rfl (tm_cI3 Hr) ?_
      rw [mg_M_I]
      refine wg_aload_n (d66_107 L xs) rfl ?_
      refine wg_iload (d66_108 L xs) rfl ?_
      refine wg_if_eq (d66_110 L xs) (t := 127) (by decide) (fun _ => ?_) (fun hn => absurd (by decide) hn)
      refine wg_bipush (d66_127 L xs) (x := 32) (by decide) ?_
      refine wg_puti (d66_129 L xs) (cj := 4) (k0 := 4) rfl Hr.1 (tm_c Hr) (Nat.le_of_ble_eq_true rfl) rfl rfl (tm_cI4 Hr) ?_
      rw [mg_M_I]
      refine wg_aload_n (d66_132 L xs) rfl ?_
      refine wg_get (d66_133 L xs) (kd := 1) (cj := 4) (k0 := 4) rfl (Or.inl rfl) Hr.1 (tm_c Hr) rfl ?_
      refine wg_top (y := 32) (by rw [mg_M_own]; rfl) ?_
      refine wg_iconst (d66_136 L xs) (x := (-1)) (by decide) ?_
      refine wg_icmp_ne (d66_137 L xs) (t := 142) (by decide) (fun _ => ?_) (fun hn => absurd (by decide) hn)
      refine wg_aload_n (d66_142 L xs) rfl ?_
      refine wg_get (d66_143 L xs) (kd := 1) (cj := 4) (k0 := 0) rfl (Or.inl rfl) Hr.1 (tm_c Hr) rfl ?_
      refine wg_top (y := 4) (by rw [mg_M_own]; rfl) ?_
      refine wg_tswIn (d66_146 L xs) (of := 106) (t := 252) (by decide) (by decide) (by decide) ?_
      refine wg_aload_n (d66_252 L xs) rfl ?_
      refine wg_aload_n (d66_253 L xs) rfl ?_
      refine wg_aload_n (d66_254 L xs) rfl ?_
      refine wg_get (d66_255 L xs) (kd := 1) (cj := 4) (k0 := 2) rfl (Or.inl rfl) Hr.1 (tm_c Hr) rfl ?_
      refine wg_top (y := (nI (t_sl (gl l) st to))) (by rw [mg_M_own]; rfl) ?_
      refine wg_aload_n (d66_258 L xs) rfl ?_
      refine wg_get (d66_259 L xs) (kd := 1) (cj := 4) (k0 := 3) rfl (Or.inl rfl) Hr.1 (tm_c Hr) rfl ?_
      refine wg_top (y := (nI (t_sl (gl l) st to))) (by rw [mg_M_own]; rfl) ?_
      refine wg_invv (d66_262 L xs) (kd := 7) (mj := 40) (n := 2) rfl (Or.inl rfl) (ys := [.int (nI (t_sl (gl l) st to)), .int (nI (t_sl (gl l) st to))]) (r := [.ref r]) rfl rfl H.1 (tx_c H) rfl (Nat.le_of_ble_eq_true rfl) (ts_addr H (hold_M hl hra) (by omega) (by omega)) ?_
      rintro _ _ ⟨rfl, rfl⟩
      refine wg_invv (d66_265 L xs) (kd := 7) (mj := 69) (n := 1) rfl (Or.inl rfl) (ys := [.long (oL (f_addr (gl l) (t_sl (gl l) st to) (t_sl (gl l) st to + 1 - (t_sl (gl l) st to)) 0 0 (t_sl (gl l) st to) (t_sl (gl l) st to)))]) (r := []) rfl rfl Hr.1 (tm_c Hr) rfl (Nat.le_of_ble_eq_true rfl) (tm_adr Hr (fun v hv => f_addr_lt _ _ _ _ _ _ hv (by decide) (by decide))) ?_
      rintro _ _ ⟨rfl, rfl⟩
      rw [mg_M_I]
      have htf : t_tf (gl l) st to = t_sl (gl l) st to := by unfold t_tf; rw [if_neg (by omega)]
      cases ha : f_addr (gl l) (t_sl (gl l) st to) (t_sl (gl l) st to + 1 - (t_sl (gl l) st to)) 0 0 (t_sl (gl l) st to) (t_sl (gl l) st to) with
      | none => exact wg_iret (d66_268 L xs) rfl rfl (tm_post_n (by rw [t_rest_k hk hb, t_rk, if_neg (by decide), if_neg (by decide), if_neg (by decide), htf, ha]; rfl))
      | some v => exact wg_iret (d66_268 L xs) rfl (nar_b _) (tm_post_s (T := (4, res, (t_sl (gl l) st to), t_sl (gl l) st to, b, v)) (by rw [t_rest_k hk hb, t_rk, if_neg (by decide), if_neg (by decide), if_neg (by decide), htf, ha]; rfl) rfl (fun _ => hr1) rfl rfl (by first | rfl | (intro _; rfl) | (intro _; have h9 := hb; unfold t_bits at h9; rw [if_neg (by omega)] at h9; cases h9; rfl)) (fun _ => oL_i))
    · refine wg_iconst (d66_64 L xs) (x := 1) (by decide) ?_
      refine wg_goto (d66_65 L xs) (t := 69) (by decide) ?_
      refine wg_istore (d66_69 L xs) (ls' := [some (.ref r), some (.ref a), some (.int (nI fr)), some (.int (nI to)), some (.int (nI st)), some (.int (nI (t_sl (gl l) st to))), some (.int (nI (t_co (gl l) st to))), some (.int 0), some (.int 1)]) (Nat.le_of_ble_eq_true rfl) rfl ?_
      refine wg_aload_n (d66_71 L xs) rfl ?_
      refine wg_aload_n (d66_72 L xs) rfl ?_
      refine wg_iload (d66_73 L xs) rfl ?_
      refine wg_iload (d66_75 L xs) rfl ?_
      refine wg_invs (d66_77 L xs) (kd := 6) (mj := 68) (n := 3) rfl (Or.inl rfl) (ys := [.int (nI (t_co (gl l) st to)), .int (nI st), .ref a]) (r := [.ref r]) rfl rfl (Nat.le_of_ble_eq_true rfl) (by have h9 := tm_kind (L := L) (xs := xs) (d := d + 1) (fr := st) (to := t_co (gl l) st to) H hl (by omega) (by omega); rw [hk] at h9; exact h9) ?_
      rintro _ _ ⟨rfl, rfl⟩
      refine wg_puti (d66_80 L xs) (cj := 4) (k0 := 0) rfl Hr.1 (tm_c Hr) (Nat.le_of_ble_eq_true rfl) rfl rfl (tm_cI0 Hr) ?_
      rw [mg_I_M]
      refine wg_aload_n (d66_83 L xs) rfl ?_
      refine wg_iload (d66_84 L xs) rfl ?_
      refine wg_if_eq (d66_86 L xs) (t := 96) (by decide) (fun _ => ?_) (fun hn => absurd (by decide) hn)
      refine wg_iload (d66_96 L xs) rfl ?_
      refine wg_puti (d66_98 L xs) (cj := 4) (k0 := 2) rfl Hr.1 (tm_c Hr) (Nat.le_of_ble_eq_true rfl) rfl rfl (tm_cI2 Hr) ?_
      rw [mg_M_I]
      refine wg_aload_n (d66_101 L xs) rfl ?_
      refine wg_iload (d66_102 L xs) rfl ?_
      refine wg_puti (d66_104 L xs) (cj := 4) (k0 := 3) rfl Hr.1 (tm_c Hr) (Nat.le_of_ble_eq_true rfl) rfl rfl (tm_cI3 Hr) ?_
      rw [mg_M_I]
      refine wg_aload_n (d66_107 L xs) rfl ?_
      refine wg_iload (d66_108 L xs) rfl ?_
      refine wg_if_eq (d66_110 L xs) (t := 127) (by decide) (fun hp => absurd hp (by decide)) (fun _ => ?_)
      refine wg_aload_n (d66_113 L xs) rfl ?_
      refine wg_iload (d66_114 L xs) rfl ?_
      refine wg_iconst (d66_116 L xs) (x := 1) (by decide) ?_
      refine wg_iadd (d66_117 L xs) ?_
      refine wg_top (y := (nI ((t_sl (gl l) st to) + 1))) (nI_add (t_sl (gl l) st to) 1) ?_
      refine wg_iload_n (d66_118 L xs) rfl ?_
      refine wg_bipush (d66_119 L xs) (x := 32) (by decide) ?_
      refine wg_invv (d66_121 L xs) (kd := 7) (mj := 41) (n := 3) rfl (Or.inl rfl) (ys := [.int 32, .int (nI to), .int (nI ((t_sl (gl l) st to) + 1))]) (r := [.ref r]) rfl rfl H.1 (tx_c H) rfl (Nat.le_of_ble_eq_true rfl) (ts_num (o := some b) (fr := t_sl (gl l) st to + 1) (to := to) (most := 32) H (hold_M hl hra) (by omega) (by decide) (by omega) (by have h9 := hb; unfold t_bits at h9; rw [if_pos (by omega)] at h9; exact h9)) ?_
      rintro _ _ ⟨rfl, rfl⟩
      refine wg_goto (d66_124 L xs) (t := 129) (by decide) ?_
      refine wg_puti (d66_129 L xs) (cj := 4) (k0 := 4) rfl Hr.1 (tm_c Hr) (Nat.le_of_ble_eq_true rfl) rfl rfl (tm_cI4 Hr) ?_
      rw [mg_M_I]
      refine wg_aload_n (d66_132 L xs) rfl ?_
      refine wg_get (d66_133 L xs) (kd := 1) (cj := 4) (k0 := 4) rfl (Or.inl rfl) Hr.1 (tm_c Hr) rfl ?_
      refine wg_top (y := (nI b)) (by rw [mg_M_own]; rfl) ?_
      refine wg_iconst (d66_136 L xs) (x := (-1)) (by decide) ?_
      refine wg_icmp_ne (d66_137 L xs) (t := 142) (by decide) (fun h8 => ?_) (fun h8 => absurd (Classical.not_not.mp h8) (nI_neg1 (by omega)))
      refine wg_aload_n (d66_142 L xs) rfl ?_
      refine wg_get (d66_143 L xs) (kd := 1) (cj := 4) (k0 := 0) rfl (Or.inl rfl) Hr.1 (tm_c Hr) rfl ?_
      refine wg_top (y := 4) (by rw [mg_M_own]; rfl) ?_
      refine wg_tswIn (d66_146 L xs) (of := 106) (t := 252) (by decide) (by decide) (by decide) ?_
      refine wg_aload_n (d66_252 L xs) rfl ?_
      refine wg_aload_n (d66_253 L xs) rfl ?_
      refine wg_aload_n (d66_254 L xs) rfl ?_
      refine wg_get (d66_255 L xs) (kd := 1) (cj := 4) (k0 := 2) rfl (Or.inl rfl) Hr.1 (tm_c Hr) rfl ?_
      refine wg_top (y := (nI (t_sl (gl l) st to))) (by rw [mg_M_own]; rfl) ?_
      refine wg_aload_n (d66_258 L xs) rfl ?_
      refine wg_get (d66_259 L xs) (kd := 1) (cj := 4) (k0 := 3) rfl (Or.inl rfl) Hr.1 (tm_c Hr) rfl ?_
      refine wg_top (y := (nI (t_sl (gl l) st to))) (by rw [mg_M_own]; rfl) ?_
      refine wg_invv (d66_262 L xs) (kd := 7) (mj := 40) (n := 2) rfl (Or.inl rfl) (ys := [.int (nI (t_sl (gl l) st to)), .int (nI (t_sl (gl l) st to))]) (r := [.ref r]) rfl rfl H.1 (tx_c H) rfl (Nat.le_of_ble_eq_true rfl) (ts_addr H (hold_M hl hra) (by omega) (by omega)) ?_
      rintro _ _ ⟨rfl, rfl⟩
      refine wg_invv (d66_265 L xs) (kd := 7) (mj := 69) (n := 1) rfl (Or.inl rfl) (ys := [.long (oL (f_addr (gl l) (t_sl (gl l) st to) (t_sl (gl l) st to + 1 - (t_sl (gl l) st to)) 0 0 (t_sl (gl l) st to) (t_sl (gl l) st to)))]) (r := []) rfl rfl Hr.1 (tm_c Hr) rfl (Nat.le_of_ble_eq_true rfl) (tm_adr Hr (fun v hv => f_addr_lt _ _ _ _ _ _ hv (by decide) (by decide))) ?_
      rintro _ _ ⟨rfl, rfl⟩
      rw [mg_M_I]
      have htf : t_tf (gl l) st to = t_sl (gl l) st to := by unfold t_tf; rw [if_neg (by omega)]
      cases ha : f_addr (gl l) (t_sl (gl l) st to) (t_sl (gl l) st to + 1 - (t_sl (gl l) st to)) 0 0 (t_sl (gl l) st to) (t_sl (gl l) st to) with
      | none => exact wg_iret (d66_268 L xs) rfl rfl (tm_post_n (by rw [t_rest_k hk hb, t_rk, if_neg (by decide), if_neg (by decide), if_neg (by decide), htf, ha]; rfl))
      | some v => exact wg_iret (d66_268 L xs) rfl (nar_b _) (tm_post_s (T := (4, res, (t_sl (gl l) st to), t_sl (gl l) st to, b, v)) (by rw [t_rest_k hk hb, t_rk, if_neg (by decide), if_neg (by decide), if_neg (by decide), htf, ha]; rfl) rfl (fun _ => hr1) rfl rfl (by first | rfl | (intro _; rfl) | (intro _; have h9 := hb; unfold t_bits at h9; rw [if_neg (by omega)] at h9; cases h9; rfl)) (fun _ => oL_i))
  · refine wg_iconst (d66_51 L xs) (x := 1) (by decide) ?_
    refine wg_goto (d66_52 L xs) (t := 56) (by decide) ?_
    refine wg_istore (d66_56 L xs) (ls' := [some (.ref r), some (.ref a), some (.int (nI fr)), some (.int (nI to)), some (.int (nI st)), some (.int (nI (t_sl (gl l) st to))), some (.int (nI (t_co (gl l) st to))), some (.int 1), none]) (Nat.le_of_ble_eq_true rfl) rfl ?_
    refine wg_iload (d66_58 L xs) rfl ?_
    refine wg_iload_n (d66_60 L xs) rfl ?_
    refine wn_icmp_ge (d66_61 L xs) (x := t_sl (gl l) st to) (y := to) (by omega) (by omega) (t := 68) (by decide) (fun h9 => ?_) (fun h9 => ?_)
    · refine wg_iconst (d66_68 L xs) (x := 0) (by decide) ?_
      refine wg_istore (d66_69 L xs) (ls' := [some (.ref r), some (.ref a), some (.int (nI fr)), some (.int (nI to)), some (.int (nI st)), some (.int (nI (t_sl (gl l) st to))), some (.int (nI (t_co (gl l) st to))), some (.int 1), some (.int 0)]) (Nat.le_of_ble_eq_true rfl) rfl ?_
      refine wg_aload_n (d66_71 L xs) rfl ?_
      refine wg_aload_n (d66_72 L xs) rfl ?_
      refine wg_iload (d66_73 L xs) rfl ?_
      refine wg_iload (d66_75 L xs) rfl ?_
      refine wg_invs (d66_77 L xs) (kd := 6) (mj := 68) (n := 3) rfl (Or.inl rfl) (ys := [.int (nI (t_co (gl l) st to)), .int (nI st), .ref a]) (r := [.ref r]) rfl rfl (Nat.le_of_ble_eq_true rfl) (by have h9 := tm_kind (L := L) (xs := xs) (d := d + 1) (fr := st) (to := t_co (gl l) st to) H hl (by omega) (by omega); rw [hk] at h9; exact h9) ?_
      rintro _ _ ⟨rfl, rfl⟩
      refine wg_puti (d66_80 L xs) (cj := 4) (k0 := 0) rfl Hr.1 (tm_c Hr) (Nat.le_of_ble_eq_true rfl) rfl rfl (tm_cI0 Hr) ?_
      rw [mg_I_M]
      refine wg_aload_n (d66_83 L xs) rfl ?_
      refine wg_iload (d66_84 L xs) rfl ?_
      refine wg_if_eq (d66_86 L xs) (t := 96) (by decide) (fun hp => absurd hp (by decide)) (fun _ => ?_)
      refine wg_iload (d66_89 L xs) rfl ?_
      refine wg_iconst (d66_91 L xs) (x := 1) (by decide) ?_
      refine wg_iadd (d66_92 L xs) ?_
      refine wg_top (y := (nI ((t_co (gl l) st to) + 1))) (nI_add (t_co (gl l) st to) 1) ?_
      refine wg_goto (d66_93 L xs) (t := 98) (by decide) ?_
      refine wg_puti (d66_98 L xs) (cj := 4) (k0 := 2) rfl Hr.1 (tm_c Hr) (Nat.le_of_ble_eq_true rfl) rfl rfl (tm_cI2 Hr) ?_
      rw [mg_M_I]
      refine wg_aload_n (d66_101 L xs) rfl ?_
      refine wg_iload (d66_102 L xs) rfl ?_
      refine wg_puti (d66_104 L xs) (cj := 4) (k0 := 3) rfl Hr.1 (tm_c Hr) (Nat.le_of_ble_eq_true rfl) rfl rfl (tm_cI3 Hr) ?_
      rw [mg_M_I]
      refine wg_aload_n (d66_107 L xs) rfl ?_
      refine wg_iload (d66_108 L xs) rfl ?_
      refine wg_if_eq (d66_110 L xs) (t := 127) (by decide) (fun _ => ?_) (fun hn => absurd (by decide) hn)
      refine wg_bipush (d66_127 L xs) (x := 32) (by decide) ?_
      refine wg_puti (d66_129 L xs) (cj := 4) (k0 := 4) rfl Hr.1 (tm_c Hr) (Nat.le_of_ble_eq_true rfl) rfl rfl (tm_cI4 Hr) ?_
      rw [mg_M_I]
      refine wg_aload_n (d66_132 L xs) rfl ?_
      refine wg_get (d66_133 L xs) (kd := 1) (cj := 4) (k0 := 4) rfl (Or.inl rfl) Hr.1 (tm_c Hr) rfl ?_
      refine wg_top (y := 32) (by rw [mg_M_own]; rfl) ?_
      refine wg_iconst (d66_136 L xs) (x := (-1)) (by decide) ?_
      refine wg_icmp_ne (d66_137 L xs) (t := 142) (by decide) (fun _ => ?_) (fun hn => absurd (by decide) hn)
      refine wg_aload_n (d66_142 L xs) rfl ?_
      refine wg_get (d66_143 L xs) (kd := 1) (cj := 4) (k0 := 0) rfl (Or.inl rfl) Hr.1 (tm_c Hr) rfl ?_
      refine wg_top (y := 4) (by rw [mg_M_own]; rfl) ?_
      refine wg_tswIn (d66_146 L xs) (of := 106) (t := 252) (by decide) (by decide) (by decide) ?_
      refine wg_aload_n (d66_252 L xs) rfl ?_
      refine wg_aload_n (d66_253 L xs) rfl ?_
      refine wg_aload_n (d66_254 L xs) rfl ?_
      refine wg_get (d66_255 L xs) (kd := 1) (cj := 4) (k0 := 2) rfl (Or.inl rfl) Hr.1 (tm_c Hr) rfl ?_
      refine wg_top (y := (nI ((t_co (gl l) st to) + 1))) (by rw [mg_M_own]; rfl) ?_
      refine wg_aload_n (d66_258 L xs) rfl ?_
      refine wg_get (d66_259 L xs) (kd := 1) (cj := 4) (k0 := 3) rfl (Or.inl rfl) Hr.1 (tm_c Hr) rfl ?_
      refine wg_top (y := (nI (t_sl (gl l) st to))) (by rw [mg_M_own]; rfl) ?_
      refine wg_invv (d66_262 L xs) (kd := 7) (mj := 40) (n := 2) rfl (Or.inl rfl) (ys := [.int (nI (t_sl (gl l) st to)), .int (nI ((t_co (gl l) st to) + 1))]) (r := [.ref r]) rfl rfl H.1 (tx_c H) rfl (Nat.le_of_ble_eq_true rfl) (ts_addr H (hold_M hl hra) (by omega) (by omega)) ?_
      rintro _ _ ⟨rfl, rfl⟩
      refine wg_invv (d66_265 L xs) (kd := 7) (mj := 69) (n := 1) rfl (Or.inl rfl) (ys := [.long (oL (f_addr (gl l) (t_sl (gl l) st to) (t_sl (gl l) st to + 1 - ((t_co (gl l) st to) + 1)) 0 0 ((t_co (gl l) st to) + 1) ((t_co (gl l) st to) + 1)))]) (r := []) rfl rfl Hr.1 (tm_c Hr) rfl (Nat.le_of_ble_eq_true rfl) (tm_adr Hr (fun v hv => f_addr_lt _ _ _ _ _ _ hv (by decide) (by decide))) ?_
      rintro _ _ ⟨rfl, rfl⟩
      rw [mg_M_I]
      have htf : t_tf (gl l) st to = t_co (gl l) st to + 1 := by unfold t_tf; rw [if_pos (by omega)]
      cases ha : f_addr (gl l) (t_sl (gl l) st to) (t_sl (gl l) st to + 1 - (t_co (gl l) st to + 1)) 0 0 (t_co (gl l) st to + 1) (t_co (gl l) st to + 1) with
      | none => exact wg_iret (d66_268 L xs) rfl rfl (tm_post_n (by rw [t_rest_k hk hb, t_rk, if_neg (by decide), if_neg (by decide), if_neg (by decide), htf, ha]; rfl))
      | some v => exact wg_iret (d66_268 L xs) rfl (nar_b _) (tm_post_s (T := (4, res, (t_co (gl l) st to + 1), t_sl (gl l) st to, b, v)) (by rw [t_rest_k hk hb, t_rk, if_neg (by decide), if_neg (by decide), if_neg (by decide), htf, ha]; rfl) rfl (fun _ => hr1) rfl rfl (by first | rfl | (intro _; rfl) | (intro _; have h9 := hb; unfold t_bits at h9; rw [if_neg (by omega)] at h9; cases h9; rfl)) (fun _ => oL_i))
    · refine wg_iconst (d66_64 L xs) (x := 1) (by decide) ?_
      refine wg_goto (d66_65 L xs) (t := 69) (by decide) ?_
      refine wg_istore (d66_69 L xs) (ls' := [some (.ref r), some (.ref a), some (.int (nI fr)), some (.int (nI to)), some (.int (nI st)), some (.int (nI (t_sl (gl l) st to))), some (.int (nI (t_co (gl l) st to))), some (.int 1), some (.int 1)]) (Nat.le_of_ble_eq_true rfl) rfl ?_
      refine wg_aload_n (d66_71 L xs) rfl ?_
      refine wg_aload_n (d66_72 L xs) rfl ?_
      refine wg_iload (d66_73 L xs) rfl ?_
      refine wg_iload (d66_75 L xs) rfl ?_
      refine wg_invs (d66_77 L xs) (kd := 6) (mj := 68) (n := 3) rfl (Or.inl rfl) (ys := [.int (nI (t_co (gl l) st to)), .int (nI st), .ref a]) (r := [.ref r]) rfl rfl (Nat.le_of_ble_eq_true rfl) (by have h9 := tm_kind (L := L) (xs := xs) (d := d + 1) (fr := st) (to := t_co (gl l) st to) H hl (by omega) (by omega); rw [hk] at h9; exact h9) ?_
      rintro _ _ ⟨rfl, rfl⟩
      refine wg_puti (d66_80 L xs) (cj := 4) (k0 := 0) rfl Hr.1 (tm_c Hr) (Nat.le_of_ble_eq_true rfl) rfl rfl (tm_cI0 Hr) ?_
      rw [mg_I_M]
      refine wg_aload_n (d66_83 L xs) rfl ?_
      refine wg_iload (d66_84 L xs) rfl ?_
      refine wg_if_eq (d66_86 L xs) (t := 96) (by decide) (fun hp => absurd hp (by decide)) (fun _ => ?_)
      refine wg_iload (d66_89 L xs) rfl ?_
      refine wg_iconst (d66_91 L xs) (x := 1) (by decide) ?_
      refine wg_iadd (d66_92 L xs) ?_
      refine wg_top (y := (nI ((t_co (gl l) st to) + 1))) (nI_add (t_co (gl l) st to) 1) ?_
      refine wg_goto (d66_93 L xs) (t := 98) (by decide) ?_
      refine wg_puti (d66_98 L xs) (cj := 4) (k0 := 2) rfl Hr.1 (tm_c Hr) (Nat.le_of_ble_eq_true rfl) rfl rfl (tm_cI2 Hr) ?_
      rw [mg_M_I]
      refine wg_aload_n (d66_101 L xs) rfl ?_
      refine wg_iload (d66_102 L xs) rfl ?_
      refine wg_puti (d66_104 L xs) (cj := 4) (k0 := 3) rfl Hr.1 (tm_c Hr) (Nat.le_of_ble_eq_true rfl) rfl rfl (tm_cI3 Hr) ?_
      rw [mg_M_I]
      refine wg_aload_n (d66_107 L xs) rfl ?_
      refine wg_iload (d66_108 L xs) rfl ?_
      refine wg_if_eq (d66_110 L xs) (t := 127) (by decide) (fun hp => absurd hp (by decide)) (fun _ => ?_)
      refine wg_aload_n (d66_113 L xs) rfl ?_
      refine wg_iload (d66_114 L xs) rfl ?_
      refine wg_iconst (d66_116 L xs) (x := 1) (by decide) ?_
      refine wg_iadd (d66_117 L xs) ?_
      refine wg_top (y := (nI ((t_sl (gl l) st to) + 1))) (nI_add (t_sl (gl l) st to) 1) ?_
      refine wg_iload_n (d66_118 L xs) rfl ?_
      refine wg_bipush (d66_119 L xs) (x := 32) (by decide) ?_
      refine wg_invv (d66_121 L xs) (kd := 7) (mj := 41) (n := 3) rfl (Or.inl rfl) (ys := [.int 32, .int (nI to), .int (nI ((t_sl (gl l) st to) + 1))]) (r := [.ref r]) rfl rfl H.1 (tx_c H) rfl (Nat.le_of_ble_eq_true rfl) (ts_num (o := some b) (fr := t_sl (gl l) st to + 1) (to := to) (most := 32) H (hold_M hl hra) (by omega) (by decide) (by omega) (by have h9 := hb; unfold t_bits at h9; rw [if_pos (by omega)] at h9; exact h9)) ?_
      rintro _ _ ⟨rfl, rfl⟩
      refine wg_goto (d66_124 L xs) (t := 129) (by decide) ?_
      refine wg_puti (d66_129 L xs) (cj := 4) (k0 := 4) rfl Hr.1 (tm_c Hr) (Nat.le_of_ble_eq_true rfl) rfl rfl (tm_cI4 Hr) ?_
      rw [mg_M_I]
      refine wg_aload_n (d66_132 L xs) rfl ?_
      refine wg_get (d66_133 L xs) (kd := 1) (cj := 4) (k0 := 4) rfl (Or.inl rfl) Hr.1 (tm_c Hr) rfl ?_
      refine wg_top (y := (nI b)) (by rw [mg_M_own]; rfl) ?_
      refine wg_iconst (d66_136 L xs) (x := (-1)) (by decide) ?_
      refine wg_icmp_ne (d66_137 L xs) (t := 142) (by decide) (fun h15 => ?_) (fun h15 => absurd (Classical.not_not.mp h15) (nI_neg1 (by omega)))
      refine wg_aload_n (d66_142 L xs) rfl ?_
      refine wg_get (d66_143 L xs) (kd := 1) (cj := 4) (k0 := 0) rfl (Or.inl rfl) Hr.1 (tm_c Hr) rfl ?_
      refine wg_top (y := 4) (by rw [mg_M_own]; rfl) ?_
      refine wg_tswIn (d66_146 L xs) (of := 106) (t := 252) (by decide) (by decide) (by decide) ?_
      refine wg_aload_n (d66_252 L xs) rfl ?_
      refine wg_aload_n (d66_253 L xs) rfl ?_
      refine wg_aload_n (d66_254 L xs) rfl ?_
      refine wg_get (d66_255 L xs) (kd := 1) (cj := 4) (k0 := 2) rfl (Or.inl rfl) Hr.1 (tm_c Hr) rfl ?_
      refine wg_top (y := (nI ((t_co (gl l) st to) + 1))) (by rw [mg_M_own]; rfl) ?_
      refine wg_aload_n (d66_258 L xs) rfl ?_
      refine wg_get (d66_259 L xs) (kd := 1) (cj := 4) (k0 := 3) rfl (Or.inl rfl) Hr.1 (tm_c Hr) rfl ?_
      refine wg_top (y := (nI (t_sl (gl l) st to))) (by rw [mg_M_own]; rfl) ?_
      refine wg_invv (d66_262 L xs) (kd := 7) (mj := 40) (n := 2) rfl (Or.inl rfl) (ys := [.int (nI (t_sl (gl l) st to)), .int (nI ((t_co (gl l) st to) + 1))]) (r := [.ref r]) rfl rfl H.1 (tx_c H) rfl (Nat.le_of_ble_eq_true rfl) (ts_addr H (hold_M hl hra) (by omega) (by omega)) ?_
      rintro _ _ ⟨rfl, rfl⟩
      refine wg_invv (d66_265 L xs) (kd := 7) (mj := 69) (n := 1) rfl (Or.inl rfl) (ys := [.long (oL (f_addr (gl l) (t_sl (gl l) st to) (t_sl (gl l) st to + 1 - ((t_co (gl l) st to) + 1)) 0 0 ((t_co (gl l) st to) + 1) ((t_co (gl l) st to) + 1)))]) (r := []) rfl rfl Hr.1 (tm_c Hr) rfl (Nat.le_of_ble_eq_true rfl) (tm_adr Hr (fun v hv => f_addr_lt _ _ _ _ _ _ hv (by decide) (by decide))) ?_
      rintro _ _ ⟨rfl, rfl⟩
      rw [mg_M_I]
      have htf : t_tf (gl l) st to = t_co (gl l) st to + 1 := by unfold t_tf; rw [if_pos (by omega)]
      cases ha : f_addr (gl l) (t_sl (gl l) st to) (t_sl (gl l) st to + 1 - (t_co (gl l) st to + 1)) 0 0 (t_co (gl l) st to + 1) (t_co (gl l) st to + 1) with
      | none => exact wg_iret (d66_268 L xs) rfl rfl (tm_post_n (by rw [t_rest_k hk hb, t_rk, if_neg (by decide), if_neg (by decide), if_neg (by decide), htf, ha]; rfl))
      | some v => exact wg_iret (d66_268 L xs) rfl (nar_b _) (tm_post_s (T := (4, res, (t_co (gl l) st to + 1), t_sl (gl l) st to, b, v)) (by rw [t_rest_k hk hb, t_rk, if_neg (by decide), if_neg (by decide), if_neg (by decide), htf, ha]; rfl) rfl (fun _ => hr1) rfl rfl (by first | rfl | (intro _; rfl) | (intro _; have h9 := hb; unfold t_bits at h9; rw [if_neg (by omega)] at h9; cases h9; rfl)) (fun _ => oL_i))
theorem tm_rest_5 {fr to st res b : Nat} (H : isT a) (hl : hold s a l) (Hr : isM r) (hra : ¬ a = r) (hto : to < 2 ^ 29) (hst : st ≤ to) (hr1 : s.1 r 1 = nI res) (hk : t_kind (gl l) st (t_co (gl l) st to) = some 5) (hb : t_bits (gl l) st to = some b) : wp L xs (d + 4) 66 21 [some (.ref r), some (.ref a), some (.int (nI fr)), some (.int (nI to)), some (.int (nI st)), none, none, none, none] [] s (tm_post s r (t_rest (gl l) st to res)) := by
  obtain ⟨hs1, hs2, hs3⟩ := t_sl_le (g := gl l) hst
  have hq0 := bI_lt (t_tgt (gl l) (t_co (gl l) st to + 1) (t_sl (gl l) st to))
  have hq1 := bI_lt (t_tgt (gl l) (t_sl (gl l) st to) (t_sl (gl l) st to))
  have hb100 : b ≤ 32 := by
    have h9 := hb
    unfold t_bits at h9
    split at h9
    · exact t_num_le h9
    · cases h9; exact Nat.le_refl _
  refine wg_aload_n (d66_21 L xs) rfl ?_
  refine wg_bipush (d66_22 L xs) (x := 47) (by decide) ?_
  refine wg_iload (d66_24 L xs) rfl ?_
  refine wg_iload_n (d66_26 L xs) rfl ?_
  refine wg_invv (d66_27 L xs) (kd := 7) (mj := 37) (n := 3) rfl (Or.inl rfl) (ys := [.int (nI to), .int (nI st), .int 47]) (r := []) rfl rfl H.1 (tx_c H) rfl (Nat.le_of_ble_eq_true rfl) (ts_find (c := 47) (fr := st) (to := to) H hl (by decide) (by omega) (by omega) rfl) ?_
  rintro _ _ ⟨rfl, rfl⟩
  refine wg_istore (d66_30 L xs) (ls' := [some (.ref r), some (.ref a), some (.int (nI fr)), some (.int (nI to)), some (.int (nI st)), some (.int (nI (t_sl (gl l) st to))), none, none, none]) (Nat.le_of_ble_eq_true rfl) rfl ?_
  refine wg_aload_n (d66_32 L xs) rfl ?_
  refine wg_bipush (d66_33 L xs) (x := 58) (by decide) ?_
  refine wg_iload (d66_35 L xs) rfl ?_
  refine wg_iload (d66_37 L xs) rfl ?_
  refine wg_invv (d66_39 L xs) (kd := 7) (mj := 37) (n := 3) rfl (Or.inl rfl) (ys := [.int (nI (t_sl (gl l) st to)), .int (nI st), .int 58]) (r := []) rfl rfl H.1 (tx_c H) rfl (Nat.le_of_ble_eq_true rfl) (ts_find (c := 58) (fr := st) (to := t_sl (gl l) st to) H hl (by decide) (by omega) (by omega) rfl) ?_
  rintro _ _ ⟨rfl, rfl⟩
  refine wg_istore (d66_42 L xs) (ls' := [some (.ref r), some (.ref a), some (.int (nI fr)), some (.int (nI to)), some (.int (nI st)), some (.int (nI (t_sl (gl l) st to))), some (.int (nI (t_co (gl l) st to))), none, none]) (Nat.le_of_ble_eq_true rfl) rfl ?_
  refine wg_iload (d66_44 L xs) rfl ?_
  refine wg_iload (d66_46 L xs) rfl ?_
  refine wn_icmp_ge (d66_48 L xs) (x := t_co (gl l) st to) (y := t_sl (gl l) st to) (by omega) (by omega) (t := 55) (by decide) (fun h1 => ?_) (fun h1 => ?_)
  · refine wg_iconst (d66_55 L xs) (x := 0) (by decide) ?_
    refine wg_istore (d66_56 L xs) (ls' := [some (.ref r), some (.ref a), some (.int (nI fr)), some (.int (nI to)), some (.int (nI st)), some (.int (nI (t_sl (gl l) st to))), some (.int (nI (t_co (gl l) st to))), some (.int 0), none]) (Nat.le_of_ble_eq_true rfl) rfl ?_
    refine wg_iload (d66_58 L xs) rfl ?_
    refine wg_iload_n (d66_60 L xs) rfl ?_
    refine wn_icmp_ge (d66_61 L xs) (x := t_sl (gl l) st to) (y := to) (by omega) (by omega) (t := 68) (by decide) (fun h2 => ?_) (fun h2 => ?_)
    · refine wg_iconst (d66_68 L xs) (x := 0) (by decide) ?_
      refine wg_istore (d66_69 L xs) (ls' := [some (.ref r), some (.ref a), some (.int (nI fr)), some (.int (nI to)), some (.int (nI st)), some (.int (nI (t_sl (gl l) st to))), some (.int (nI (t_co (gl l) st to))), some (.int 0), some (.int 0)]) (Nat.le_of_ble_eq_true rfl) rfl ?_
      refine wg_aload_n (d66_71 L xs) rfl ?_
      refine wg_aload_n (d66_72 L xs) rfl ?_
      refine wg_iload (d66_73 L xs) rfl ?_
      refine wg_iload (d66_75 L xs) rfl ?_
      refine wg_invs (d66_77 L xs) (kd := 6) (mj := 68) (n := 3) rfl (Or.inl rfl) (ys := [.int (nI (t_co (gl l) st to)), .int (nI st), .ref a]) (r := [.ref r]) rfl rfl (Nat.le_of_ble_eq_true rfl) (by have h9 := tm_kind (L := L) (xs := xs) (d := d + 1) (fr := st) (to := t_co (gl l) st to) H hl (by omega) (by omega); rw [hk] at h9; exact h9) ?_
      rintro _ _ ⟨rfl, rfl⟩
      refine wg_puti (d66_80 L xs) (cj := 4) (k0 := 0) rfl Hr.1 (tm_c Hr) (Nat.le_of_ble_eq_true rfl) rfl rfl (tm_cI0 Hr) ?_
      rw [mg_I_M]
      refine wg_aload_n (d66_83 L xs) rfl ?_
      refine wg_iload (d66_84 L xs) rfl ?_
      refine wg_if_eq (d66_86 L xs) (t := 96) (by decide) (fun _ => ?_) (fun hn => absurd (by decide) hn)
      refine wg_iload (d66_96 L xs) rfl ?_
      refine wg_puti (d66_98 L xs) (cj := 4) (k0 := 2) rfl Hr.1 (tm_c Hr) (Nat.le_of_ble_eq_true rfl) rfl rfl (tm_cI2 Hr) ?_
      rw [mg_M_I]
      refine wg_aload_n (d66_101 L xs) rfl ?_
      refine wg_iload (d66_102 L xs) rfl ?_
      refine wg_puti (d66_104 L xs) (cj := 4) (k0 := 3) rfl Hr.1 (tm_c Hr) (Nat.le_of_ble_eq_true rfl) rfl rfl (tm_cI3 Hr) ?_
      rw [mg_M_I]
      refine wg_aload_n (d66_107 L xs) rfl ?_
      refine wg_iload (d66_108 L xs) rfl ?_
      refine wg_if_eq (d66_110 L xs) (t := 127) (by decide) (fun _ => ?_) (fun hn => absurd (by decide) hn)
      refine wg_bipush (d66_127 L xs) (x := 32) (by decide) ?_
      refine wg_puti (d66_129 L xs) (cj := 4) (k0 := 4) rfl Hr.1 (tm_c Hr) (Nat.le_of_ble_eq_true rfl) rfl rfl (tm_cI4 Hr) ?_
      rw [mg_M_I]
      refine wg_aload_n (d66_132 L xs) rfl ?_
      refine wg_get (d66_133 L xs) (kd := 1) (cj := 4) (k0 := 4) rfl (Or.inl rfl) Hr.1 (tm_c Hr) rfl ?_
      refine wg_top (y := 32) (by rw [mg_M_own]; rfl) ?_
      refine wg_iconst (d66_136 L xs) (x := (-1)) (by decide) ?_
      refine wg_icmp_ne (d66_137 L xs) (t := 142) (by decide) (fun _ => ?_) (fun hn => absurd (by decide) hn)
      refine wg_aload_n (d66_142 L xs) rfl ?_
      refine wg_get (d66_143 L xs) (kd := 1) (cj := 4) (k0 := 0) rfl (Or.inl rfl) Hr.1 (tm_c Hr) rfl ?_
      refine wg_top (y := 5) (by rw [mg_M_own]; rfl) ?_
      refine wg_tswIn (d66_146 L xs) (of := 54) (t := 200) (by decide) (by decide) (by decide) ?_
      refine wg_iload (d66_200 L xs) rfl ?_
      refine wg_if_ne (d66_202 L xs) (t := 224) (by decide) (fun hp => absurd hp (by decide)) (fun _ => ?_)
      refine wg_aload_n (d66_205 L xs) rfl ?_
      refine wg_aload_n (d66_206 L xs) rfl ?_
      refine wg_get (d66_207 L xs) (kd := 1) (cj := 4) (k0 := 2) rfl (Or.inl rfl) Hr.1 (tm_c Hr) rfl ?_
      refine wg_top (y := (nI (t_sl (gl l) st to))) (by rw [mg_M_own]; rfl) ?_
      refine wg_aload_n (d66_210 L xs) rfl ?_
      refine wg_get (d66_211 L xs) (kd := 1) (cj := 4) (k0 := 3) rfl (Or.inl rfl) Hr.1 (tm_c Hr) rfl ?_
      refine wg_top (y := (nI (t_sl (gl l) st to))) (by rw [mg_M_own]; rfl) ?_
      refine wg_invs (d66_214 L xs) (kd := 6) (mj := 64) (n := 3) rfl (Or.inl rfl) (ys := [.int (nI (t_sl (gl l) st to)), .int (nI (t_sl (gl l) st to)), .ref a]) (r := []) rfl rfl (Nat.le_of_ble_eq_true rfl) (tm_tgt H (hold_M hl hra) (by omega) (by omega)) ?_
      rintro _ _ ⟨rfl, rfl⟩
      refine wn_if_eq (d66_217 L xs) (x := bI (t_tgt (gl l) (t_sl (gl l) st to) (t_sl (gl l) st to))) (by omega) (t := 224) (by decide) (fun h7 => ?_) (fun h7 => ?_)
      · refine wg_iconst (d66_224 L xs) (x := 0) (by decide) ?_
        have htf : t_tf (gl l) st to = t_sl (gl l) st to := by unfold t_tf; rw [if_neg (by omega)]
        exact wg_iret (d66_225 L xs) rfl rfl (tm_post_n (by rw [t_rest_k hk hb, t_rk, if_neg (by decide), if_pos (by decide)]; rw [htf, if_neg (fun q => absurd q.2 (by rw [bI_f (b := t_tgt (gl l) (t_sl (gl l) st to) (t_sl (gl l) st to)) (by omega)]; decide))]))
      · refine wg_iconst (d66_220 L xs) (x := 1) (by decide) ?_
        refine wg_goto (d66_221 L xs) (t := 225) (by decide) ?_
        have htf : t_tf (gl l) st to = t_sl (gl l) st to := by unfold t_tf; rw [if_neg (by omega)]
        exact wg_iret (d66_225 L xs) rfl rfl (tm_post_s (T := (5, res, t_tf (gl l) st to, t_sl (gl l) st to, b, 0)) (by rw [t_rest_k hk hb, t_rk, if_neg (by decide), if_pos (by decide)]; rw [htf, if_pos ⟨by omega, bI_t (by omega)⟩, ← htf]) rfl (fun _ => hr1) (by rw [htf]; rfl) rfl (by first | rfl | (intro _; rfl) | (intro _; have h9 := hb; unfold t_bits at h9; rw [if_neg (by omega)] at h9; cases h9; rfl)) (fun q => absurd (show (5 : Nat) = 4 from q) (by decide)))
    · refine wg_iconst (d66_64 L xs) (x := 1) (by decide) ?_
      refine wg_goto (d66_65 L xs) (t := 69) (by decide) ?_
      refine wg_istore (d66_69 L xs) (ls' := [some (.ref r), some (.ref a), some (.int (nI fr)), some (.int (nI to)), some (.int (nI st)), some (.int (nI (t_sl (gl l) st to))), some (.int (nI (t_co (gl l) st to))), some (.int 0), some (.int 1)]) (Nat.le_of_ble_eq_true rfl) rfl ?_
      refine wg_aload_n (d66_71 L xs) rfl ?_
      refine wg_aload_n (d66_72 L xs) rfl ?_
      refine wg_iload (d66_73 L xs) rfl ?_
      refine wg_iload (d66_75 L xs) rfl ?_
      refine wg_invs (d66_77 L xs) (kd := 6) (mj := 68) (n := 3) rfl (Or.inl rfl) (ys := [.int (nI (t_co (gl l) st to)), .int (nI st), .ref a]) (r := [.ref r]) rfl rfl (Nat.le_of_ble_eq_true rfl) (by have h9 := tm_kind (L := L) (xs := xs) (d := d + 1) (fr := st) (to := t_co (gl l) st to) H hl (by omega) (by omega); rw [hk] at h9; exact h9) ?_
      rintro _ _ ⟨rfl, rfl⟩
      refine wg_puti (d66_80 L xs) (cj := 4) (k0 := 0) rfl Hr.1 (tm_c Hr) (Nat.le_of_ble_eq_true rfl) rfl rfl (tm_cI0 Hr) ?_
      rw [mg_I_M]
      refine wg_aload_n (d66_83 L xs) rfl ?_
      refine wg_iload (d66_84 L xs) rfl ?_
      refine wg_if_eq (d66_86 L xs) (t := 96) (by decide) (fun _ => ?_) (fun hn => absurd (by decide) hn)
      refine wg_iload (d66_96 L xs) rfl ?_
      refine wg_puti (d66_98 L xs) (cj := 4) (k0 := 2) rfl Hr.1 (tm_c Hr) (Nat.le_of_ble_eq_true rfl) rfl rfl (tm_cI2 Hr) ?_
      rw [mg_M_I]
      refine wg_aload_n (d66_101 L xs) rfl ?_
      refine wg_iload (d66_102 L xs) rfl ?_
      refine wg_puti (d66_104 L xs) (cj := 4) (k0 := 3) rfl Hr.1 (tm_c Hr) (Nat.le_of_ble_eq_true rfl) rfl rfl (tm_cI3 Hr) ?_
      rw [mg_M_I]
      refine wg_aload_n (d66_107 L xs) rfl ?_
      refine wg_iload (d66_108 L xs) rfl ?_
      refine wg_if_eq (d66_110 L xs) (t := 127) (by decide) (fun hp => absurd hp (by decide)) (fun _ => ?_)
      refine wg_aload_n (d66_113 L xs) rfl ?_
      refine wg_iload (d66_114 L xs) rfl ?_
      refine wg_iconst (d66_116 L xs) (x := 1) (by decide) ?_
      refine wg_iadd (d66_117 L xs) ?_
      refine wg_top (y := (nI ((t_sl (gl l) st to) + 1))) (nI_add (t_sl (gl l) st to) 1) ?_
      refine wg_iload_n (d66_118 L xs) rfl ?_
      refine wg_bipush (d66_119 L xs) (x := 32) (by decide) ?_
      refine wg_invv (d66_121 L xs) (kd := 7) (mj := 41) (n := 3) rfl (Or.inl rfl) (ys := [.int 32, .int (nI to), .int (nI ((t_sl (gl l) st to) + 1))]) (r := [.ref r]) rfl rfl H.1 (tx_c H) rfl (Nat.le_of_ble_eq_true rfl) (ts_num (o := some b) (fr := t_sl (gl l) st to + 1) (to := to) (most := 32) H (hold_M hl hra) (by omega) (by decide) (by omega) (by have h9 := hb; unfold t_bits at h9; rw [if_pos (by omega)] at h9; exact h9)) ?_
      rintro _ _ ⟨rfl, rfl⟩
      refine wg_goto (d66_124 L xs) (t := 129) (by decide) ?_
      refine wg_puti (d66_129 L xs) (cj := 4) (k0 := 4) rfl Hr.1 (tm_c Hr) (Nat.le_of_ble_eq_true rfl) rfl rfl (tm_cI4 Hr) ?_
      rw [mg_M_I]
      refine wg_aload_n (d66_132 L xs) rfl ?_
      refine wg_get (d66_133 L xs) (kd := 1) (cj := 4) (k0 := 4) rfl (Or.inl rfl) Hr.1 (tm_c Hr) rfl ?_
      refine wg_top (y := (nI b)) (by rw [mg_M_own]; rfl) ?_
      refine wg_iconst (d66_136 L xs) (x := (-1)) (by decide) ?_
      refine wg_icmp_ne (d66_137 L xs) (t := 142) (by decide) (fun h10 => ?_) (fun h10 => absurd (Classical.not_not.mp h10) (nI_neg1 (by omega)))
      refine wg_aload_n (d66_142 L xs) rfl ?_
      refine wg_get (d66_143 L xs) (kd := 1) (cj := 4) (k0 := 0) rfl (Or.inl rfl) Hr.1 (tm_c Hr) rfl ?_
      refine wg_top (y := 5) (by rw [mg_M_own]; rfl) ?_
      refine wg_tswIn (d66_146 L xs) (of := 54) (t := 200) (by decide) (by decide) (by decide) ?_
      refine wg_iload (d66_200 L xs) rfl ?_
      refine wg_if_ne (d66_202 L xs) (t := 224) (by decide) (fun _ => ?_) (fun hn => absurd (by decide) hn)
      refine wg_iconst (d66_224 L xs) (x := 0) (by decide) ?_
      have htf : t_tf (gl l) st to = t_sl (gl l) st to := by unfold t_tf; rw [if_neg (by omega)]
      exact wg_iret (d66_225 L xs) rfl rfl (tm_post_n (by rw [t_rest_k hk hb, t_rk, if_neg (by decide), if_pos (by decide)]; rw [if_neg (fun q => absurd q.1 (by omega))]))
  · refine wg_iconst (d66_51 L xs) (x := 1) (by decide) ?_
    refine wg_goto (d66_52 L xs) (t := 56) (by decide) ?_
    refine wg_istore (d66_56 L xs) (ls' := [some (.ref r), some (.ref a), some (.int (nI fr)), some (.int (nI to)), some (.int (nI st)), some (.int (nI (t_sl (gl l) st to))), some (.int (nI (t_co (gl l) st to))), some (.int 1), none]) (Nat.le_of_ble_eq_true rfl) rfl ?_
    refine wg_iload (d66_58 L xs) rfl ?_
    refine wg_iload_n (d66_60 L xs) rfl ?_
    refine wn_icmp_ge (d66_61 L xs) (x := t_sl (gl l) st to) (y := to) (by omega) (by omega) (t := 68) (by decide) (fun h12 => ?_) (fun h12 => ?_)
    · refine wg_iconst (d66_68 L xs) (x := 0) (by decide) ?_
      refine wg_istore (d66_69 L xs) (ls' := [some (.ref r), some (.ref a), some (.int (nI fr)), some (.int (nI to)), some (.int (nI st)), some (.int (nI (t_sl (gl l) st to))), some (.int (nI (t_co (gl l) st to))), some (.int 1), some (.int 0)]) (Nat.le_of_ble_eq_true rfl) rfl ?_
      refine wg_aload_n (d66_71 L xs) rfl ?_
      refine wg_aload_n (d66_72 L xs) rfl ?_
      refine wg_iload (d66_73 L xs) rfl ?_
      refine wg_iload (d66_75 L xs) rfl ?_
      refine wg_invs (d66_77 L xs) (kd := 6) (mj := 68) (n := 3) rfl (Or.inl rfl) (ys := [.int (nI (t_co (gl l) st to)), .int (nI st), .ref a]) (r := [.ref r]) rfl rfl (Nat.le_of_ble_eq_true rfl) (by have h9 := tm_kind (L := L) (xs := xs) (d := d + 1) (fr := st) (to := t_co (gl l) st to) H hl (by omega) (by omega); rw [hk] at h9; exact h9) ?_
      rintro _ _ ⟨rfl, rfl⟩
      refine wg_puti (d66_80 L xs) (cj := 4) (k0 := 0) rfl Hr.1 (tm_c Hr) (Nat.le_of_ble_eq_true rfl) rfl rfl (tm_cI0 Hr) ?_
      rw [mg_I_M]
      refine wg_aload_n (d66_83 L xs) rfl ?_
      refine wg_iload (d66_84 L xs) rfl ?_
      refine wg_if_eq (d66_86 L xs) (t := 96) (by decide) (fun hp => absurd hp (by decide)) (fun _ => ?_)
      refine wg_iload (d66_89 L xs) rfl ?_
      refine wg_iconst (d66_91 L xs) (x := 1) (by decide) ?_
      refine wg_iadd (d66_92 L xs) ?_
      refine wg_top (y := (nI ((t_co (gl l) st to) + 1))) (nI_add (t_co (gl l) st to) 1) ?_
      refine wg_goto (d66_93 L xs) (t := 98) (by decide) ?_
      refine wg_puti (d66_98 L xs) (cj := 4) (k0 := 2) rfl Hr.1 (tm_c Hr) (Nat.le_of_ble_eq_true rfl) rfl rfl (tm_cI2 Hr) ?_
      rw [mg_M_I]
      refine wg_aload_n (d66_101 L xs) rfl ?_
      refine wg_iload (d66_102 L xs) rfl ?_
      refine wg_puti (d66_104 L xs) (cj := 4) (k0 := 3) rfl Hr.1 (tm_c Hr) (Nat.le_of_ble_eq_true rfl) rfl rfl (tm_cI3 Hr) ?_
      rw [mg_M_I]
      refine wg_aload_n (d66_107 L xs) rfl ?_
      refine wg_iload (d66_108 L xs) rfl ?_
      refine wg_if_eq (d66_110 L xs) (t := 127) (by decide) (fun _ => ?_) (fun hn => absurd (by decide) hn)
      refine wg_bipush (d66_127 L xs) (x := 32) (by decide) ?_
      refine wg_puti (d66_129 L xs) (cj := 4) (k0 := 4) rfl Hr.1 (tm_c Hr) (Nat.le_of_ble_eq_true rfl) rfl rfl (tm_cI4 Hr) ?_
      rw [mg_M_I]
      refine wg_aload_n (d66_132 L xs) rfl ?_
      refine wg_get (d66_133 L xs) (kd := 1) (cj := 4) (k0 := 4) rfl (Or.inl rfl) Hr.1 (tm_c Hr) rfl ?_
      refine wg_top (y := 32) (by rw [mg_M_own]; rfl) ?_
      refine wg_iconst (d66_136 L xs) (x := (-1)) (by decide) ?_
      refine wg_icmp_ne (d66_137 L xs) (t := 142) (by decide) (fun _ => ?_) (fun hn => absurd (by decide) hn)
      refine wg_aload_n (d66_142 L xs) rfl ?_
      refine wg_get (d66_143 L xs) (kd := 1) (cj := 4) (k0 := 0) rfl (Or.inl rfl) Hr.1 (tm_c Hr) rfl ?_
      refine wg_top (y := 5) (by rw [mg_M_own]; rfl) ?_
      refine wg_tswIn (d66_146 L xs) (of := 54) (t := 200) (by decide) (by decide) (by decide) ?_
      refine wg_iload (d66_200 L xs) rfl ?_
      refine wg_if_ne (d66_202 L xs) (t := 224) (by decide) (fun hp => absurd hp (by decide)) (fun _ => ?_)
      refine wg_aload_n (d66_205 L xs) rfl ?_
      refine wg_aload_n (d66_206 L xs) rfl ?_
      refine wg_get (d66_207 L xs) (kd := 1) (cj := 4) (k0 := 2) rfl (Or.inl rfl) Hr.1 (tm_c Hr) rfl ?_
      refine wg_top (y := (nI ((t_co (gl l) st to) + 1))) (by rw [mg_M_own]; rfl) ?_
      refine wg_aload_n (d66_210 L xs) rfl ?_
      refine wg_get (d66_211 L xs) (kd := 1) (cj := 4) (k0 := 3) rfl (Or.inl rfl) Hr.1 (tm_c Hr) rfl ?_
      refine wg_top (y := (nI (t_sl (gl l) st to))) (by rw [mg_M_own]; rfl) ?_
      refine wg_invs (d66_214 L xs) (kd := 6) (mj := 64) (n := 3) rfl (Or.inl rfl) (ys := [.int (nI (t_sl (gl l) st to)), .int (nI ((t_co (gl l) st to) + 1)), .ref a]) (r := []) rfl rfl (Nat.le_of_ble_eq_true rfl) (tm_tgt H (hold_M hl hra) (by omega) (by omega)) ?_
      rintro _ _ ⟨rfl, rfl⟩
      refine wn_if_eq (d66_217 L xs) (x := bI (t_tgt (gl l) ((t_co (gl l) st to) + 1) (t_sl (gl l) st to))) (by omega) (t := 224) (by decide) (fun h17 => ?_) (fun h17 => ?_)
      · refine wg_iconst (d66_224 L xs) (x := 0) (by decide) ?_
        have htf : t_tf (gl l) st to = t_co (gl l) st to + 1 := by unfold t_tf; rw [if_pos (by omega)]
        exact wg_iret (d66_225 L xs) rfl rfl (tm_post_n (by rw [t_rest_k hk hb, t_rk, if_neg (by decide), if_pos (by decide)]; rw [htf, if_neg (fun q => absurd q.2 (by rw [bI_f (b := t_tgt (gl l) (t_co (gl l) st to + 1) (t_sl (gl l) st to)) (by omega)]; decide))]))
      · refine wg_iconst (d66_220 L xs) (x := 1) (by decide) ?_
        refine wg_goto (d66_221 L xs) (t := 225) (by decide) ?_
        have htf : t_tf (gl l) st to = t_co (gl l) st to + 1 := by unfold t_tf; rw [if_pos (by omega)]
        exact wg_iret (d66_225 L xs) rfl rfl (tm_post_s (T := (5, res, t_tf (gl l) st to, t_sl (gl l) st to, b, 0)) (by rw [t_rest_k hk hb, t_rk, if_neg (by decide), if_pos (by decide)]; rw [htf, if_pos ⟨by omega, bI_t (by omega)⟩, ← htf]) rfl (fun _ => hr1) (by rw [htf]; rfl) rfl (by first | rfl | (intro _; rfl) | (intro _; have h9 := hb; unfold t_bits at h9; rw [if_neg (by omega)] at h9; cases h9; rfl)) (fun q => absurd (show (5 : Nat) = 4 from q) (by decide)))
    · refine wg_iconst (d66_64 L xs) (x := 1) (by decide) ?_
      refine wg_goto (d66_65 L xs) (t := 69) (by decide) ?_
      refine wg_istore (d66_69 L xs) (ls' := [some (.ref r), some (.ref a), some (.int (nI fr)), some (.int (nI to)), some (.int (nI st)), some (.int (nI (t_sl (gl l) st to))), some (.int (nI (t_co (gl l) st to))), some (.int 1), some (.int 1)]) (Nat.le_of_ble_eq_true rfl) rfl ?_
      refine wg_aload_n (d66_71 L xs) rfl ?_
      refine wg_aload_n (d66_72 L xs) rfl ?_
      refine wg_iload (d66_73 L xs) rfl ?_
      refine wg_iload (d66_75 L xs) rfl ?_
      refine wg_invs (d66_77 L xs) (kd := 6) (mj := 68) (n := 3) rfl (Or.inl rfl) (ys := [.int (nI (t_co (gl l) st to)), .int (nI st), .ref a]) (r := [.ref r]) rfl rfl (Nat.le_of_ble_eq_true rfl) (by have h9 := tm_kind (L := L) (xs := xs) (d := d + 1) (fr := st) (to := t_co (gl l) st to) H hl (by omega) (by omega); rw [hk] at h9; exact h9) ?_
      rintro _ _ ⟨rfl, rfl⟩
      refine wg_puti (d66_80 L xs) (cj := 4) (k0 := 0) rfl Hr.1 (tm_c Hr) (Nat.le_of_ble_eq_true rfl) rfl rfl (tm_cI0 Hr) ?_
      rw [mg_I_M]
      refine wg_aload_n (d66_83 L xs) rfl ?_
      refine wg_iload (d66_84 L xs) rfl ?_
      refine wg_if_eq (d66_86 L xs) (t := 96) (by decide) (fun hp => absurd hp (by decide)) (fun _ => ?_)
      refine wg_iload (d66_89 L xs) rfl ?_
      refine wg_iconst (d66_91 L xs) (x := 1) (by decide) ?_
      refine wg_iadd (d66_92 L xs) ?_
      refine wg_top (y := (nI ((t_co (gl l) st to) + 1))) (nI_add (t_co (gl l) st to) 1) ?_
      refine wg_goto (d66_93 L xs) (t := 98) (by decide) ?_
      refine wg_puti (d66_98 L xs) (cj := 4) (k0 := 2) rfl Hr.1 (tm_c Hr) (Nat.le_of_ble_eq_true rfl) rfl rfl (tm_cI2 Hr) ?_
      rw [mg_M_I]
      refine wg_aload_n (d66_101 L xs) rfl ?_
      refine wg_iload (d66_102 L xs) rfl ?_
      refine wg_puti (d66_104 L xs) (cj := 4) (k0 := 3) rfl Hr.1 (tm_c Hr) (Nat.le_of_ble_eq_true rfl) rfl rfl (tm_cI3 Hr) ?_
      rw [mg_M_I]
      refine wg_aload_n (d66_107 L xs) rfl ?_
      refine wg_iload (d66_108 L xs) rfl ?_
      refine wg_if_eq (d66_110 L xs) (t := 127) (by decide) (fun hp => absurd hp (by decide)) (fun _ => ?_)
      refine wg_aload_n (d66_113 L xs) rfl ?_
      refine wg_iload (d66_114 L xs) rfl ?_
      refine wg_iconst (d66_116 L xs) (x := 1) (by decide) ?_
      refine wg_iadd (d66_117 L xs) ?_
      refine wg_top (y := (nI ((t_sl (gl l) st to) + 1))) (nI_add (t_sl (gl l) st to) 1) ?_
      refine wg_iload_n (d66_118 L xs) rfl ?_
      refine wg_bipush (d66_119 L xs) (x := 32) (by decide) ?_
      refine wg_invv (d66_121 L xs) (kd := 7) (mj := 41) (n := 3) rfl (Or.inl rfl) (ys := [.int 32, .int (nI to), .int (nI ((t_sl (gl l) st to) + 1))]) (r := [.ref r]) rfl rfl H.1 (tx_c H) rfl (Nat.le_of_ble_eq_true rfl) (ts_num (o := some b) (fr := t_sl (gl l) st to + 1) (to := to) (most := 32) H (hold_M hl hra) (by omega) (by decide) (by omega) (by have h9 := hb; unfold t_bits at h9; rw [if_pos (by omega)] at h9; exact h9)) ?_
      rintro _ _ ⟨rfl, rfl⟩
      refine wg_goto (d66_124 L xs) (t := 129) (by decide) ?_
      refine wg_puti (d66_129 L xs) (cj := 4) (k0 := 4) rfl Hr.1 (tm_c Hr) (Nat.le_of_ble_eq_true rfl) rfl rfl (tm_cI4 Hr) ?_
      rw [mg_M_I]
      refine wg_aload_n (d66_132 L xs) rfl ?_
      refine wg_get (d66_133 L xs) (kd := 1) (cj := 4) (k0 := 4) rfl (Or.inl rfl) Hr.1 (tm_c Hr) rfl ?_
      refine wg_top (y := (nI b)) (by rw [mg_M_own]; rfl) ?_
      refine wg_iconst (d66_136 L xs) (x := (-1)) (by decide) ?_
      refine wg_icmp_ne (d66_137 L xs) (t := 142) (by decide) (fun h20 => ?_) (fun h20 => absurd (Classical.not_not.mp h20) (nI_neg1 (by omega)))
      refine wg_aload_n (d66_142 L xs) rfl ?_
      refine wg_get (d66_143 L xs) (kd := 1) (cj := 4) (k0 := 0) rfl (Or.inl rfl) Hr.1 (tm_c Hr) rfl ?_
      refine wg_top (y := 5) (by rw [mg_M_own]; rfl) ?_
      refine wg_tswIn (d66_146 L xs) (of := 54) (t := 200) (by decide) (by decide) (by decide) ?_
      refine wg_iload (d66_200 L xs) rfl ?_
      refine wg_if_ne (d66_202 L xs) (t := 224) (by decide) (fun _ => ?_) (fun hn => absurd (by decide) hn)
      refine wg_iconst (d66_224 L xs) (x := 0) (by decide) ?_
      have htf : t_tf (gl l) st to = t_co (gl l) st to + 1 := by unfold t_tf; rw [if_pos (by omega)]
      exact wg_iret (d66_225 L xs) rfl rfl (tm_post_n (by rw [t_rest_k hk hb, t_rk, if_neg (by decide), if_pos (by decide)]; rw [if_neg (fun q => absurd q.1 (by omega))]))
end TM2
