/-! the checker: an expanded name evaluated, a redirection, a match -/
theorem d72_0 (L : Nat) (xs : Nat → Int32) : decode (ax_code (mgT L xs) 72) 0 = .ok (.aload_n 2, 1) := by
  show decode prog_2_method_16_code 0 = _
  decide +kernel
theorem d72_1 (L : Nat) (xs : Nat → Int32) : decode (ax_code (mgT L xs) 72) 1 = .ok (.getfield 148, 3) := by
  show decode prog_2_method_16_code 1 = _
  decide +kernel
theorem d72_4 (L : Nat) (xs : Nat → Int32) : decode (ax_code (mgT L xs) 72) 4 = .ok (.ifCond .ne 5, 3) := by
  show decode prog_2_method_16_code 4 = _
  decide +kernel
theorem d72_7 (L : Nat) (xs : Nat → Int32) : decode (ax_code (mgT L xs) 72) 7 = .ok (.iconst 1, 1) := by
  show decode prog_2_method_16_code 7 = _
  decide +kernel
theorem d72_8 (L : Nat) (xs : Nat → Int32) : decode (ax_code (mgT L xs) 72) 8 = .ok (.ireturn, 1) := by
  show decode prog_2_method_16_code 8 = _
  decide +kernel
theorem d72_9 (L : Nat) (xs : Nat → Int32) : decode (ax_code (mgT L xs) 72) 9 = .ok (.aload_n 2, 1) := by
  show decode prog_2_method_16_code 9 = _
  decide +kernel
theorem d72_10 (L : Nat) (xs : Nat → Int32) : decode (ax_code (mgT L xs) 72) 10 = .ok (.getfield 148, 3) := by
  show decode prog_2_method_16_code 10 = _
  decide +kernel
theorem d72_13 (L : Nat) (xs : Nat → Int32) : decode (ax_code (mgT L xs) 72) 13 = .ok (.iconst 4, 1) := by
  show decode prog_2_method_16_code 13 = _
  decide +kernel
theorem d72_14 (L : Nat) (xs : Nat → Int32) : decode (ax_code (mgT L xs) 72) 14 = .ok (.if_icmp .ne 27, 3) := by
  show decode prog_2_method_16_code 14 = _
  decide +kernel
theorem d72_17 (L : Nat) (xs : Nat → Int32) : decode (ax_code (mgT L xs) 72) 17 = .ok (.aload_n 2, 1) := by
  show decode prog_2_method_16_code 17 = _
  decide +kernel
theorem d72_18 (L : Nat) (xs : Nat → Int32) : decode (ax_code (mgT L xs) 72) 18 = .ok (.getfield 180, 3) := by
  show decode prog_2_method_16_code 18 = _
  decide +kernel
theorem d72_21 (L : Nat) (xs : Nat → Int32) : decode (ax_code (mgT L xs) 72) 21 = .ok (.aload_n 0, 1) := by
  show decode prog_2_method_16_code 21 = _
  decide +kernel
theorem d72_22 (L : Nat) (xs : Nat → Int32) : decode (ax_code (mgT L xs) 72) 22 = .ok (.getfield 53, 3) := by
  show decode prog_2_method_16_code 22 = _
  decide +kernel
theorem d72_25 (L : Nat) (xs : Nat → Int32) : decode (ax_code (mgT L xs) 72) 25 = .ok (.aload_n 2, 1) := by
  show decode prog_2_method_16_code 25 = _
  decide +kernel
theorem d72_26 (L : Nat) (xs : Nat → Int32) : decode (ax_code (mgT L xs) 72) 26 = .ok (.getfield 181, 3) := by
  show decode prog_2_method_16_code 26 = _
  decide +kernel
theorem d72_29 (L : Nat) (xs : Nat → Int32) : decode (ax_code (mgT L xs) 72) 29 = .ok (.invokestatic 184, 3) := by
  show decode prog_2_method_16_code 29 = _
  decide +kernel
theorem d72_32 (L : Nat) (xs : Nat → Int32) : decode (ax_code (mgT L xs) 72) 32 = .ok (.ifCond .eq 7, 3) := by
  show decode prog_2_method_16_code 32 = _
  decide +kernel
theorem d72_35 (L : Nat) (xs : Nat → Int32) : decode (ax_code (mgT L xs) 72) 35 = .ok (.iconst 1, 1) := by
  show decode prog_2_method_16_code 35 = _
  decide +kernel
theorem d72_36 (L : Nat) (xs : Nat → Int32) : decode (ax_code (mgT L xs) 72) 36 = .ok (.goto 4, 3) := by
  show decode prog_2_method_16_code 36 = _
  decide +kernel
theorem d72_39 (L : Nat) (xs : Nat → Int32) : decode (ax_code (mgT L xs) 72) 39 = .ok (.iconst 0, 1) := by
  show decode prog_2_method_16_code 39 = _
  decide +kernel
theorem d72_40 (L : Nat) (xs : Nat → Int32) : decode (ax_code (mgT L xs) 72) 40 = .ok (.ireturn, 1) := by
  show decode prog_2_method_16_code 40 = _
  decide +kernel
theorem d72_41 (L : Nat) (xs : Nat → Int32) : decode (ax_code (mgT L xs) 72) 41 = .ok (.aload_n 0, 1) := by
  show decode prog_2_method_16_code 41 = _
  decide +kernel
theorem d72_42 (L : Nat) (xs : Nat → Int32) : decode (ax_code (mgT L xs) 72) 42 = .ok (.invokevirtual 170, 3) := by
  show decode prog_2_method_16_code 42 = _
  decide +kernel
theorem d72_45 (L : Nat) (xs : Nat → Int32) : decode (ax_code (mgT L xs) 72) 45 = .ok (.ifCond .ne 6, 3) := by
  show decode prog_2_method_16_code 45 = _
  decide +kernel
theorem d72_48 (L : Nat) (xs : Nat → Int32) : decode (ax_code (mgT L xs) 72) 48 = .ok (.bipush 6, 2) := by
  show decode prog_2_method_16_code 48 = _
  decide +kernel
theorem d72_50 (L : Nat) (xs : Nat → Int32) : decode (ax_code (mgT L xs) 72) 50 = .ok (.ireturn, 1) := by
  show decode prog_2_method_16_code 50 = _
  decide +kernel
theorem d72_51 (L : Nat) (xs : Nat → Int32) : decode (ax_code (mgT L xs) 72) 51 = .ok (.aload_n 0, 1) := by
  show decode prog_2_method_16_code 51 = _
  decide +kernel
theorem d72_52 (L : Nat) (xs : Nat → Int32) : decode (ax_code (mgT L xs) 72) 52 = .ok (.getfield 13, 3) := by
  show decode prog_2_method_16_code 52 = _
  decide +kernel
theorem d72_55 (L : Nat) (xs : Nat → Int32) : decode (ax_code (mgT L xs) 72) 55 = .ok (.iload_n 3, 1) := by
  show decode prog_2_method_16_code 55 = _
  decide +kernel
theorem d72_56 (L : Nat) (xs : Nat → Int32) : decode (ax_code (mgT L xs) 72) 56 = .ok (.aaload, 1) := by
  show decode prog_2_method_16_code 56 = _
  decide +kernel
theorem d72_57 (L : Nat) (xs : Nat → Int32) : decode (ax_code (mgT L xs) 72) 57 = .ok (.getfield 50, 3) := by
  show decode prog_2_method_16_code 57 = _
  decide +kernel
theorem d72_60 (L : Nat) (xs : Nat → Int32) : decode (ax_code (mgT L xs) 72) 60 = .ok (.astore 4, 2) := by
  show decode prog_2_method_16_code 60 = _
  decide +kernel
theorem d72_62 (L : Nat) (xs : Nat → Int32) : decode (ax_code (mgT L xs) 72) 62 = .ok (.aload_n 2, 1) := by
  show decode prog_2_method_16_code 62 = _
  decide +kernel
theorem d72_63 (L : Nat) (xs : Nat → Int32) : decode (ax_code (mgT L xs) 72) 63 = .ok (.invokevirtual 188, 3) := by
  show decode prog_2_method_16_code 63 = _
  decide +kernel
theorem d72_66 (L : Nat) (xs : Nat → Int32) : decode (ax_code (mgT L xs) 72) 66 = .ok (.ifCond .eq 24, 3) := by
  show decode prog_2_method_16_code 66 = _
  decide +kernel
theorem d72_69 (L : Nat) (xs : Nat → Int32) : decode (ax_code (mgT L xs) 72) 69 = .ok (.aload_n 0, 1) := by
  show decode prog_2_method_16_code 69 = _
  decide +kernel
theorem d72_70 (L : Nat) (xs : Nat → Int32) : decode (ax_code (mgT L xs) 72) 70 = .ok (.aload_n 1, 1) := by
  show decode prog_2_method_16_code 70 = _
  decide +kernel
theorem d72_71 (L : Nat) (xs : Nat → Int32) : decode (ax_code (mgT L xs) 72) 71 = .ok (.aload_n 2, 1) := by
  show decode prog_2_method_16_code 71 = _
  decide +kernel
theorem d72_72 (L : Nat) (xs : Nat → Int32) : decode (ax_code (mgT L xs) 72) 72 = .ok (.getfield 160, 3) := by
  show decode prog_2_method_16_code 72 = _
  decide +kernel
theorem d72_75 (L : Nat) (xs : Nat → Int32) : decode (ax_code (mgT L xs) 72) 75 = .ok (.aload_n 2, 1) := by
  show decode prog_2_method_16_code 75 = _
  decide +kernel
theorem d72_76 (L : Nat) (xs : Nat → Int32) : decode (ax_code (mgT L xs) 72) 76 = .ok (.getfield 163, 3) := by
  show decode prog_2_method_16_code 76 = _
  decide +kernel
theorem d72_79 (L : Nat) (xs : Nat → Int32) : decode (ax_code (mgT L xs) 72) 79 = .ok (.aload 4, 2) := by
  show decode prog_2_method_16_code 79 = _
  decide +kernel
theorem d72_81 (L : Nat) (xs : Nat → Int32) : decode (ax_code (mgT L xs) 72) 81 = .ok (.invokevirtual 173, 3) := by
  show decode prog_2_method_16_code 81 = _
  decide +kernel
theorem d72_84 (L : Nat) (xs : Nat → Int32) : decode (ax_code (mgT L xs) 72) 84 = .ok (.aload_n 0, 1) := by
  show decode prog_2_method_16_code 84 = _
  decide +kernel
theorem d72_85 (L : Nat) (xs : Nat → Int32) : decode (ax_code (mgT L xs) 72) 85 = .ok (.getfield 22, 3) := by
  show decode prog_2_method_16_code 85 = _
  decide +kernel
theorem d72_88 (L : Nat) (xs : Nat → Int32) : decode (ax_code (mgT L xs) 72) 88 = .ok (.astore 4, 2) := by
  show decode prog_2_method_16_code 88 = _
  decide +kernel
theorem d72_90 (L : Nat) (xs : Nat → Int32) : decode (ax_code (mgT L xs) 72) 90 = .ok (.aload_n 2, 1) := by
  show decode prog_2_method_16_code 90 = _
  decide +kernel
theorem d72_91 (L : Nat) (xs : Nat → Int32) : decode (ax_code (mgT L xs) 72) 91 = .ok (.getfield 148, 3) := by
  show decode prog_2_method_16_code 91 = _
  decide +kernel
theorem d72_94 (L : Nat) (xs : Nat → Int32) : decode (ax_code (mgT L xs) 72) 94 = .ok (.iconst 1, 1) := by
  show decode prog_2_method_16_code 94 = _
  decide +kernel
theorem d72_95 (L : Nat) (xs : Nat → Int32) : decode (ax_code (mgT L xs) 72) 95 = .ok (.if_icmp .ne 12, 3) := by
  show decode prog_2_method_16_code 95 = _
  decide +kernel
theorem d72_98 (L : Nat) (xs : Nat → Int32) : decode (ax_code (mgT L xs) 72) 98 = .ok (.aload_n 0, 1) := by
  show decode prog_2_method_16_code 98 = _
  decide +kernel
theorem d72_99 (L : Nat) (xs : Nat → Int32) : decode (ax_code (mgT L xs) 72) 99 = .ok (.iload_n 3, 1) := by
  show decode prog_2_method_16_code 99 = _
  decide +kernel
theorem d72_100 (L : Nat) (xs : Nat → Int32) : decode (ax_code (mgT L xs) 72) 100 = .ok (.invokevirtual 177, 3) := by
  show decode prog_2_method_16_code 100 = _
  decide +kernel
theorem d72_103 (L : Nat) (xs : Nat → Int32) : decode (ax_code (mgT L xs) 72) 103 = .ok (.invokestatic 191, 3) := by
  show decode prog_2_method_16_code 103 = _
  decide +kernel
theorem d72_106 (L : Nat) (xs : Nat → Int32) : decode (ax_code (mgT L xs) 72) 106 = .ok (.ireturn, 1) := by
  show decode prog_2_method_16_code 106 = _
  decide +kernel
theorem d72_107 (L : Nat) (xs : Nat → Int32) : decode (ax_code (mgT L xs) 72) 107 = .ok (.aload 4, 2) := by
  show decode prog_2_method_16_code 107 = _
  decide +kernel
theorem d72_109 (L : Nat) (xs : Nat → Int32) : decode (ax_code (mgT L xs) 72) 109 = .ok (.invokevirtual 194, 3) := by
  show decode prog_2_method_16_code 109 = _
  decide +kernel
theorem d72_112 (L : Nat) (xs : Nat → Int32) : decode (ax_code (mgT L xs) 72) 112 = .ok (.ifCond .ne 5, 3) := by
  show decode prog_2_method_16_code 112 = _
  decide +kernel
theorem d72_115 (L : Nat) (xs : Nat → Int32) : decode (ax_code (mgT L xs) 72) 115 = .ok (.iconst 0, 1) := by
  show decode prog_2_method_16_code 115 = _
  decide +kernel
theorem d72_116 (L : Nat) (xs : Nat → Int32) : decode (ax_code (mgT L xs) 72) 116 = .ok (.ireturn, 1) := by
  show decode prog_2_method_16_code 116 = _
  decide +kernel
theorem d72_117 (L : Nat) (xs : Nat → Int32) : decode (ax_code (mgT L xs) 72) 117 = .ok (.aload_n 2, 1) := by
  show decode prog_2_method_16_code 117 = _
  decide +kernel
theorem d72_118 (L : Nat) (xs : Nat → Int32) : decode (ax_code (mgT L xs) 72) 118 = .ok (.getfield 148, 3) := by
  show decode prog_2_method_16_code 118 = _
  decide +kernel
theorem d72_121 (L : Nat) (xs : Nat → Int32) : decode (ax_code (mgT L xs) 72) 121 = .ok (.lookupswitch 49 #[(2, 27), (3, 38)], 27) := by
  show decode prog_2_method_16_code 121 = _
  decide +kernel
theorem d72_148 (L : Nat) (xs : Nat → Int32) : decode (ax_code (mgT L xs) 72) 148 = .ok (.aload_n 0, 1) := by
  show decode prog_2_method_16_code 148 = _
  decide +kernel
theorem d72_149 (L : Nat) (xs : Nat → Int32) : decode (ax_code (mgT L xs) 72) 149 = .ok (.aload 4, 2) := by
  show decode prog_2_method_16_code 149 = _
  decide +kernel
theorem d72_151 (L : Nat) (xs : Nat → Int32) : decode (ax_code (mgT L xs) 72) 151 = .ok (.aload_n 2, 1) := by
  show decode prog_2_method_16_code 151 = _
  decide +kernel
theorem d72_152 (L : Nat) (xs : Nat → Int32) : decode (ax_code (mgT L xs) 72) 152 = .ok (.getfield 181, 3) := by
  show decode prog_2_method_16_code 152 = _
  decide +kernel
theorem d72_155 (L : Nat) (xs : Nat → Int32) : decode (ax_code (mgT L xs) 72) 155 = .ok (.invokevirtual 197, 3) := by
  show decode prog_2_method_16_code 155 = _
  decide +kernel
theorem d72_158 (L : Nat) (xs : Nat → Int32) : decode (ax_code (mgT L xs) 72) 158 = .ok (.ireturn, 1) := by
  show decode prog_2_method_16_code 158 = _
  decide +kernel
theorem d72_159 (L : Nat) (xs : Nat → Int32) : decode (ax_code (mgT L xs) 72) 159 = .ok (.aload_n 0, 1) := by
  show decode prog_2_method_16_code 159 = _
  decide +kernel
theorem d72_160 (L : Nat) (xs : Nat → Int32) : decode (ax_code (mgT L xs) 72) 160 = .ok (.aload 4, 2) := by
  show decode prog_2_method_16_code 160 = _
  decide +kernel
theorem d72_162 (L : Nat) (xs : Nat → Int32) : decode (ax_code (mgT L xs) 72) 162 = .ok (.aload_n 2, 1) := by
  show decode prog_2_method_16_code 162 = _
  decide +kernel
theorem d72_163 (L : Nat) (xs : Nat → Int32) : decode (ax_code (mgT L xs) 72) 163 = .ok (.getfield 181, 3) := by
  show decode prog_2_method_16_code 163 = _
  decide +kernel
theorem d72_166 (L : Nat) (xs : Nat → Int32) : decode (ax_code (mgT L xs) 72) 166 = .ok (.invokevirtual 200, 3) := by
  show decode prog_2_method_16_code 166 = _
  decide +kernel
theorem d72_169 (L : Nat) (xs : Nat → Int32) : decode (ax_code (mgT L xs) 72) 169 = .ok (.ireturn, 1) := by
  show decode prog_2_method_16_code 169 = _
  decide +kernel
theorem d72_170 (L : Nat) (xs : Nat → Int32) : decode (ax_code (mgT L xs) 72) 170 = .ok (.aload_n 0, 1) := by
  show decode prog_2_method_16_code 170 = _
  decide +kernel
theorem d72_171 (L : Nat) (xs : Nat → Int32) : decode (ax_code (mgT L xs) 72) 171 = .ok (.aload_n 0, 1) := by
  show decode prog_2_method_16_code 171 = _
  decide +kernel
theorem d72_172 (L : Nat) (xs : Nat → Int32) : decode (ax_code (mgT L xs) 72) 172 = .ok (.getfield 33, 3) := by
  show decode prog_2_method_16_code 172 = _
  decide +kernel
theorem d72_175 (L : Nat) (xs : Nat → Int32) : decode (ax_code (mgT L xs) 72) 175 = .ok (.aload 4, 2) := by
  show decode prog_2_method_16_code 175 = _
  decide +kernel
theorem d72_177 (L : Nat) (xs : Nat → Int32) : decode (ax_code (mgT L xs) 72) 177 = .ok (.iconst 0, 1) := by
  show decode prog_2_method_16_code 177 = _
  decide +kernel
theorem d72_178 (L : Nat) (xs : Nat → Int32) : decode (ax_code (mgT L xs) 72) 178 = .ok (.invokevirtual 87, 3) := by
  show decode prog_2_method_16_code 178 = _
  decide +kernel
theorem d72_181 (L : Nat) (xs : Nat → Int32) : decode (ax_code (mgT L xs) 72) 181 = .ok (.invokevirtual 203, 3) := by
  show decode prog_2_method_16_code 181 = _
  decide +kernel
theorem d72_184 (L : Nat) (xs : Nat → Int32) : decode (ax_code (mgT L xs) 72) 184 = .ok (.ireturn, 1) := by
  show decode prog_2_method_16_code 184 = _
  decide +kernel
theorem d79_0 (L : Nat) (xs : Nat → Int32) : decode (ax_code (mgT L xs) 79) 0 = .ok (.iload_n 1, 1) := by
  show decode prog_2_method_18_code 0 = _
  decide +kernel
theorem d79_1 (L : Nat) (xs : Nat → Int32) : decode (ax_code (mgT L xs) 79) 1 = .ok (.iconst 1, 1) := by
  show decode prog_2_method_18_code 1 = _
  decide +kernel
theorem d79_2 (L : Nat) (xs : Nat → Int32) : decode (ax_code (mgT L xs) 79) 2 = .ok (.iadd, 1) := by
  show decode prog_2_method_18_code 2 = _
  decide +kernel
theorem d79_3 (L : Nat) (xs : Nat → Int32) : decode (ax_code (mgT L xs) 79) 3 = .ok (.istore_n 2, 1) := by
  show decode prog_2_method_18_code 3 = _
  decide +kernel
theorem d79_4 (L : Nat) (xs : Nat → Int32) : decode (ax_code (mgT L xs) 79) 4 = .ok (.iload_n 2, 1) := by
  show decode prog_2_method_18_code 4 = _
  decide +kernel
theorem d79_5 (L : Nat) (xs : Nat → Int32) : decode (ax_code (mgT L xs) 79) 5 = .ok (.aload_n 0, 1) := by
  show decode prog_2_method_18_code 5 = _
  decide +kernel
theorem d79_6 (L : Nat) (xs : Nat → Int32) : decode (ax_code (mgT L xs) 79) 6 = .ok (.getfield 13, 3) := by
  show decode prog_2_method_18_code 6 = _
  decide +kernel
theorem d79_9 (L : Nat) (xs : Nat → Int32) : decode (ax_code (mgT L xs) 79) 9 = .ok (.arraylength, 1) := by
  show decode prog_2_method_18_code 9 = _
  decide +kernel
theorem d79_10 (L : Nat) (xs : Nat → Int32) : decode (ax_code (mgT L xs) 79) 10 = .ok (.if_icmp .ge 13, 3) := by
  show decode prog_2_method_18_code 10 = _
  decide +kernel
theorem d79_13 (L : Nat) (xs : Nat → Int32) : decode (ax_code (mgT L xs) 79) 13 = .ok (.aload_n 0, 1) := by
  show decode prog_2_method_18_code 13 = _
  decide +kernel
theorem d79_14 (L : Nat) (xs : Nat → Int32) : decode (ax_code (mgT L xs) 79) 14 = .ok (.getfield 22, 3) := by
  show decode prog_2_method_18_code 14 = _
  decide +kernel
theorem d79_17 (L : Nat) (xs : Nat → Int32) : decode (ax_code (mgT L xs) 79) 17 = .ok (.invokevirtual 194, 3) := by
  show decode prog_2_method_18_code 17 = _
  decide +kernel
theorem d79_20 (L : Nat) (xs : Nat → Int32) : decode (ax_code (mgT L xs) 79) 20 = .ok (.ifCond .ne 6, 3) := by
  show decode prog_2_method_18_code 20 = _
  decide +kernel
theorem d79_23 (L : Nat) (xs : Nat → Int32) : decode (ax_code (mgT L xs) 79) 23 = .ok (.bipush 6, 2) := by
  show decode prog_2_method_18_code 23 = _
  decide +kernel
theorem d79_25 (L : Nat) (xs : Nat → Int32) : decode (ax_code (mgT L xs) 79) 25 = .ok (.ireturn, 1) := by
  show decode prog_2_method_18_code 25 = _
  decide +kernel
theorem d79_26 (L : Nat) (xs : Nat → Int32) : decode (ax_code (mgT L xs) 79) 26 = .ok (.aload_n 0, 1) := by
  show decode prog_2_method_18_code 26 = _
  decide +kernel
theorem d79_27 (L : Nat) (xs : Nat → Int32) : decode (ax_code (mgT L xs) 79) 27 = .ok (.getfield 13, 3) := by
  show decode prog_2_method_18_code 27 = _
  decide +kernel
theorem d79_30 (L : Nat) (xs : Nat → Int32) : decode (ax_code (mgT L xs) 79) 30 = .ok (.iload_n 2, 1) := by
  show decode prog_2_method_18_code 30 = _
  decide +kernel
theorem d79_31 (L : Nat) (xs : Nat → Int32) : decode (ax_code (mgT L xs) 79) 31 = .ok (.aaload, 1) := by
  show decode prog_2_method_18_code 31 = _
  decide +kernel
theorem d79_32 (L : Nat) (xs : Nat → Int32) : decode (ax_code (mgT L xs) 79) 32 = .ok (.getfield 50, 3) := by
  show decode prog_2_method_18_code 32 = _
  decide +kernel
theorem d79_35 (L : Nat) (xs : Nat → Int32) : decode (ax_code (mgT L xs) 79) 35 = .ok (.astore_n 3, 1) := by
  show decode prog_2_method_18_code 35 = _
  decide +kernel
theorem d79_36 (L : Nat) (xs : Nat → Int32) : decode (ax_code (mgT L xs) 79) 36 = .ok (.aload_n 3, 1) := by
  show decode prog_2_method_18_code 36 = _
  decide +kernel
theorem d79_37 (L : Nat) (xs : Nat → Int32) : decode (ax_code (mgT L xs) 79) 37 = .ok (.invokevirtual 56, 3) := by
  show decode prog_2_method_18_code 37 = _
  decide +kernel
theorem d79_40 (L : Nat) (xs : Nat → Int32) : decode (ax_code (mgT L xs) 79) 40 = .ok (.aload_n 3, 1) := by
  show decode prog_2_method_18_code 40 = _
  decide +kernel
theorem d79_41 (L : Nat) (xs : Nat → Int32) : decode (ax_code (mgT L xs) 79) 41 = .ok (.aload_n 0, 1) := by
  show decode prog_2_method_18_code 41 = _
  decide +kernel
theorem d79_42 (L : Nat) (xs : Nat → Int32) : decode (ax_code (mgT L xs) 79) 42 = .ok (.getfield 22, 3) := by
  show decode prog_2_method_18_code 42 = _
  decide +kernel
theorem d79_45 (L : Nat) (xs : Nat → Int32) : decode (ax_code (mgT L xs) 79) 45 = .ok (.iconst 0, 1) := by
  show decode prog_2_method_18_code 45 = _
  decide +kernel
theorem d79_46 (L : Nat) (xs : Nat → Int32) : decode (ax_code (mgT L xs) 79) 46 = .ok (.aload_n 0, 1) := by
  show decode prog_2_method_18_code 46 = _
  decide +kernel
theorem d79_47 (L : Nat) (xs : Nat → Int32) : decode (ax_code (mgT L xs) 79) 47 = .ok (.getfield 22, 3) := by
  show decode prog_2_method_18_code 47 = _
  decide +kernel
theorem d79_50 (L : Nat) (xs : Nat → Int32) : decode (ax_code (mgT L xs) 79) 50 = .ok (.invokevirtual 70, 3) := by
  show decode prog_2_method_18_code 50 = _
  decide +kernel
theorem d79_53 (L : Nat) (xs : Nat → Int32) : decode (ax_code (mgT L xs) 79) 53 = .ok (.invokevirtual 74, 3) := by
  show decode prog_2_method_18_code 53 = _
  decide +kernel
theorem d79_56 (L : Nat) (xs : Nat → Int32) : decode (ax_code (mgT L xs) 79) 56 = .ok (.aload_n 0, 1) := by
  show decode prog_2_method_18_code 56 = _
  decide +kernel
theorem d79_57 (L : Nat) (xs : Nat → Int32) : decode (ax_code (mgT L xs) 79) 57 = .ok (.iload_n 2, 1) := by
  show decode prog_2_method_18_code 57 = _
  decide +kernel
theorem d79_58 (L : Nat) (xs : Nat → Int32) : decode (ax_code (mgT L xs) 79) 58 = .ok (.invokevirtual 206, 3) := by
  show decode prog_2_method_18_code 58 = _
  decide +kernel
theorem d79_61 (L : Nat) (xs : Nat → Int32) : decode (ax_code (mgT L xs) 79) 61 = .ok (.istore 4, 2) := by
  show decode prog_2_method_18_code 61 = _
  decide +kernel
theorem d79_63 (L : Nat) (xs : Nat → Int32) : decode (ax_code (mgT L xs) 79) 63 = .ok (.iload 4, 2) := by
  show decode prog_2_method_18_code 63 = _
  decide +kernel
theorem d79_65 (L : Nat) (xs : Nat → Int32) : decode (ax_code (mgT L xs) 79) 65 = .ok (.ifCond .ne 8, 3) := by
  show decode prog_2_method_18_code 65 = _
  decide +kernel
theorem d79_68 (L : Nat) (xs : Nat → Int32) : decode (ax_code (mgT L xs) 79) 68 = .ok (.bipush 6, 2) := by
  show decode prog_2_method_18_code 68 = _
  decide +kernel
theorem d79_70 (L : Nat) (xs : Nat → Int32) : decode (ax_code (mgT L xs) 79) 70 = .ok (.goto 5, 3) := by
  show decode prog_2_method_18_code 70 = _
  decide +kernel
theorem d79_73 (L : Nat) (xs : Nat → Int32) : decode (ax_code (mgT L xs) 79) 73 = .ok (.iload 4, 2) := by
  show decode prog_2_method_18_code 73 = _
  decide +kernel
theorem d79_75 (L : Nat) (xs : Nat → Int32) : decode (ax_code (mgT L xs) 79) 75 = .ok (.ireturn, 1) := by
  show decode prog_2_method_18_code 75 = _
  decide +kernel
theorem d84_0 (L : Nat) (xs : Nat → Int32) : decode (ax_code (mgT L xs) 84) 0 = .ok (.aload_n 0, 1) := by
  show decode prog_2_method_15_code 0 = _
  decide +kernel
theorem d84_1 (L : Nat) (xs : Nat → Int32) : decode (ax_code (mgT L xs) 84) 1 = .ok (.invokevirtual 170, 3) := by
  show decode prog_2_method_15_code 1 = _
  decide +kernel
theorem d84_4 (L : Nat) (xs : Nat → Int32) : decode (ax_code (mgT L xs) 84) 4 = .ok (.ifCond .ne 6, 3) := by
  show decode prog_2_method_15_code 4 = _
  decide +kernel
theorem d84_7 (L : Nat) (xs : Nat → Int32) : decode (ax_code (mgT L xs) 84) 7 = .ok (.bipush 6, 2) := by
  show decode prog_2_method_15_code 7 = _
  decide +kernel
theorem d84_9 (L : Nat) (xs : Nat → Int32) : decode (ax_code (mgT L xs) 84) 9 = .ok (.ireturn, 1) := by
  show decode prog_2_method_15_code 9 = _
  decide +kernel
theorem d84_10 (L : Nat) (xs : Nat → Int32) : decode (ax_code (mgT L xs) 84) 10 = .ok (.aload_n 0, 1) := by
  show decode prog_2_method_15_code 10 = _
  decide +kernel
theorem d84_11 (L : Nat) (xs : Nat → Int32) : decode (ax_code (mgT L xs) 84) 11 = .ok (.aload_n 1, 1) := by
  show decode prog_2_method_15_code 11 = _
  decide +kernel
theorem d84_12 (L : Nat) (xs : Nat → Int32) : decode (ax_code (mgT L xs) 84) 12 = .ok (.iload_n 2, 1) := by
  show decode prog_2_method_15_code 12 = _
  decide +kernel
theorem d84_13 (L : Nat) (xs : Nat → Int32) : decode (ax_code (mgT L xs) 84) 13 = .ok (.iload_n 3, 1) := by
  show decode prog_2_method_15_code 13 = _
  decide +kernel
theorem d84_14 (L : Nat) (xs : Nat → Int32) : decode (ax_code (mgT L xs) 84) 14 = .ok (.aload_n 0, 1) := by
  show decode prog_2_method_15_code 14 = _
  decide +kernel
theorem d84_15 (L : Nat) (xs : Nat → Int32) : decode (ax_code (mgT L xs) 84) 15 = .ok (.getfield 13, 3) := by
  show decode prog_2_method_15_code 15 = _
  decide +kernel
theorem d84_18 (L : Nat) (xs : Nat → Int32) : decode (ax_code (mgT L xs) 84) 18 = .ok (.iload 4, 2) := by
  show decode prog_2_method_15_code 18 = _
  decide +kernel
theorem d84_20 (L : Nat) (xs : Nat → Int32) : decode (ax_code (mgT L xs) 84) 20 = .ok (.aaload, 1) := by
  show decode prog_2_method_15_code 20 = _
  decide +kernel
theorem d84_21 (L : Nat) (xs : Nat → Int32) : decode (ax_code (mgT L xs) 84) 21 = .ok (.getfield 50, 3) := by
  show decode prog_2_method_15_code 21 = _
  decide +kernel
theorem d84_24 (L : Nat) (xs : Nat → Int32) : decode (ax_code (mgT L xs) 84) 24 = .ok (.invokevirtual 173, 3) := by
  show decode prog_2_method_15_code 24 = _
  decide +kernel
theorem d84_27 (L : Nat) (xs : Nat → Int32) : decode (ax_code (mgT L xs) 84) 27 = .ok (.aload_n 0, 1) := by
  show decode prog_2_method_15_code 27 = _
  decide +kernel
theorem d84_28 (L : Nat) (xs : Nat → Int32) : decode (ax_code (mgT L xs) 84) 28 = .ok (.iload 4, 2) := by
  show decode prog_2_method_15_code 28 = _
  decide +kernel
theorem d84_30 (L : Nat) (xs : Nat → Int32) : decode (ax_code (mgT L xs) 84) 30 = .ok (.invokevirtual 177, 3) := by
  show decode prog_2_method_15_code 30 = _
  decide +kernel
theorem d84_33 (L : Nat) (xs : Nat → Int32) : decode (ax_code (mgT L xs) 84) 33 = .ok (.ireturn, 1) := by
  show decode prog_2_method_15_code 33 = _
  decide +kernel
def ckP (s : mg_s) (b : Nat) (r : Nat × ckS) (v : Option Value) (s' : mg_s) : Prop := v = some (.int (nI r.1)) ∧ isCk s' r.2 ∧ ckf s s' b
def ckIn (L : Nat) (xs : Nat → Int32) (d : Nat) (p : Nat → Nat) (E : ckE) (dep b : Nat) (inn : List Nat → ckS → Nat × ckS) : Prop := ∀ (s : mg_s) (σ : ckS) (nm : List Nat), ckC s p E → isCk s σ → okS σ → hold s 89 nm → ca L xs d 79 [.ref 87, .int (nI dep)] s (ckP s b (inn nm σ))
def ckEv (L : Nat) (xs : Nat → Int32) (d : Nat) (p : Nat → Nat) (E : ckE) (dep : Nat) (e : List Nat → ckS → Nat × ckS) : Prop := ∀ (s : mg_s) (σ : ckS) (dom : List Nat), ckC s p E → isCk s σ → okS σ → hold s (94 + 4 * dep) dom → ca L xs d 51 [.ref 87, .int (nI dep)] s (ckP s (96 + 4 * dep) (e dom σ))
section CE
variable {L : Nat} {xs : Nat → Int32} {d a b : Nat} {p : Nat → Nat} {E : ckE} {l m dom : List Nat} {inn : List Nat → ckS → Nat × ckS}
theorem ts_name0 {s : mg_s} (H : isT a) (hl : hold s a l) : ca L xs (d + 3) 46 [.ref a] s (fun v s' => v = some (.int (nI (bI (t_name (gl l) 0 l.length)))) ∧ s = s') := by
  have h := tx_isName0 (L := L) (xs := xs) (d := d) H hl.1
  rw [hold_at hl] at h
  exact h
theorem ck_ee0 {dep : Nat} (hdep : dep = 10) : ckIn L xs (d + 1) p E dep b x_six := by
  intro s σ nm C K hσ hn
  refine wg_call (Nat.le_of_ble_eq_true rfl) ?_
  show wp L xs d 79 0 [some (.ref 87), some (.int (nI dep)), none, none, none] [] s _
  refine wg_iload_n (d79_0 L xs) rfl ?_
  refine wg_iconst (d79_1 L xs) (x := 1) (by decide) ?_
  refine wg_iadd (d79_2 L xs) ?_
  refine wg_top (y := (nI (dep + 1))) (nI_add dep 1) ?_
  refine wg_istore_n (d79_3 L xs) (ls' := [some (.ref 87), some (.int (nI dep)), some (.int (nI (dep + 1))), none, none]) (Nat.le_of_ble_eq_true rfl) rfl ?_
  refine wg_iload_n (d79_4 L xs) rfl ?_
  refine wg_aload_n (d79_5 L xs) rfl ?_
  refine wg_get (d79_6 L xs) (kd := 1) (cj := 6) (k0 := 1) rfl (Or.inl rfl) (by decide) rfl rfl ?_
  refine wg_alen (d79_9 L xs) (by decide) rfl (by decide) ?_
  refine wg_top (y := 11) rfl ?_
  refine wn_icmp_ge (d79_10 L xs) (x := dep + 1) (y := 11) (by omega) (by omega) (t := 23) (by decide) (fun h1 => ?_) (fun h1 => by omega)
  refine wg_bipush (d79_23 L xs) (x := 6) (by decide) ?_
  exact wg_iret (d79_25 L xs) rfl rfl ⟨rfl, K, ckf.rf _ _⟩
theorem ck_ee {dep : Nat} {e : List Nat → ckS → Nat × ckS} (hdep : dep < 10) (hI : okI e) (HE : ckEv L xs (d + 20) p E (dep + 1) e) : ckIn L xs (d + 21) p E dep (97 + 4 * dep) (x_in e) := by
  intro s σ nm C K hσ hn
  refine wg_call (Nat.le_of_ble_eq_true rfl) ?_
  have hb := bI_lt (t_name (gl nm) 0 nm.length)
  obtain ⟨lw, hw⟩ : ∃ lw, lw = 93 + 4 * (dep + 1) := ⟨_, rfl⟩
  have HL : isL lw := by rw [hw]; exact isL_all _ (by omega)
  have hlw : s.2.2.2.1 (dep + 1) = some lw := by rw [hw]; exact C.2.2.2.2.2 _ (by omega)
  have hn100 := hn.1.2
  have hnm := tx_m isT_all.2.2.1
  show wp L xs (d + 20) 79 0 [some (.ref 87), some (.int (nI dep)), none, none, none] [] s _
  refine wg_iload_n (d79_0 L xs) rfl ?_
  refine wg_iconst (d79_1 L xs) (x := 1) (by decide) ?_
  refine wg_iadd (d79_2 L xs) ?_
  refine wg_top (y := (nI (dep + 1))) (nI_add dep 1) ?_
  refine wg_istore_n (d79_3 L xs) (ls' := [some (.ref 87), some (.int (nI dep)), some (.int (nI (dep + 1))), none, none]) (Nat.le_of_ble_eq_true rfl) rfl ?_
  refine wg_iload_n (d79_4 L xs) rfl ?_
  refine wg_aload_n (d79_5 L xs) rfl ?_
  refine wg_get (d79_6 L xs) (kd := 1) (cj := 6) (k0 := 1) rfl (Or.inl rfl) (by decide) rfl rfl ?_
  refine wg_alen (d79_9 L xs) (by decide) rfl (by decide) ?_
  refine wg_top (y := 11) rfl ?_
  refine wn_icmp_ge (d79_10 L xs) (x := dep + 1) (y := 11) (by omega) (by omega) (t := 23) (by decide) (fun h1 => by omega) (fun h1 => ?_)
  refine wg_aload_n (d79_13 L xs) rfl ?_
  refine wg_get (d79_14 L xs) (kd := 1) (cj := 6) (k0 := 2) rfl (Or.inl rfl) (by decide) rfl rfl ?_
  refine wg_invv (d79_17 L xs) (kd := 7) (mj := 46) (n := 0) rfl (Or.inl rfl) (ys := []) (r := []) rfl rfl (by decide) rfl rfl (Nat.le_of_ble_eq_true rfl) (ts_name0 isT_all.2.2.1 hn) ?_
  rintro _ _ ⟨rfl, rfl⟩
  refine wn_if_ne (d79_20 L xs) (x := bI (t_name (gl nm) 0 nm.length)) (by omega) (t := 26) (by decide) (fun h2 => ?_) (fun h2 => ?_)
  · have hnl := t_name_len (bI_t (b := t_name (gl nm) 0 nm.length) (by omega))
    refine wg_aload_n (d79_26 L xs) rfl ?_
    refine wg_get (d79_27 L xs) (kd := 1) (cj := 6) (k0 := 1) rfl (Or.inl rfl) (by decide) rfl rfl ?_
    refine wg_iload_n (d79_30 L xs) rfl ?_
    refine wg_aald (d79_31 L xs) (n := 11) (by decide) rfl rfl (vp_in_nI (n := dep + 1) (by omega) (by omega)) (v := .ref lw) (by rw [nI_nat (n := dep + 1) (by omega), hlw]; rfl) ?_
    refine wg_get (d79_32 L xs) (kd := 2) (cj := 5) (k0 := 0) rfl (Or.inr rfl) HL.1 (lf_c HL) rfl ?_
    refine wg_astore_n (d79_35 L xs) (ls' := [some (.ref 87), some (.int (nI dep)), some (.int (nI (dep + 1))), some (.ref (lw + 1)), none]) (Nat.le_of_ble_eq_true rfl) rfl ?_
    refine wg_aload_n (d79_36 L xs) rfl ?_
    refine wg_invv (d79_37 L xs) (kd := 7) (mj := 18) (n := 0) rfl (Or.inl rfl) (ys := []) (r := []) rfl rfl (lf_n HL).1 (tx_c (lf_n HL)) rfl (Nat.le_of_ble_eq_true rfl) (ts_clear (lf_n HL)) ?_
    rintro _ s1 ⟨rfl, e1⟩
    have hn1 := e1.other (b := 89) (by omega) hn
    refine wg_aload_n (d79_40 L xs) rfl ?_
    refine wg_aload_n (d79_41 L xs) rfl ?_
    refine wg_get (d79_42 L xs) (kd := 1) (cj := 6) (k0 := 2) rfl (Or.inl rfl) (by decide) rfl rfl ?_
    refine wg_iconst (d79_45 L xs) (x := 0) (by decide) ?_
    refine wg_aload_n (d79_46 L xs) rfl ?_
    refine wg_get (d79_47 L xs) (kd := 1) (cj := 6) (k0 := 2) rfl (Or.inl rfl) (by decide) rfl rfl ?_
    refine wg_invv (d79_50 L xs) (kd := 7) (mj := 15) (n := 0) rfl (Or.inl rfl) (ys := []) (r := [.int 0, .ref 89, .ref (lw + 1)]) rfl rfl (by decide) rfl rfl (Nat.le_of_ble_eq_true rfl) (ts_size isT_all.2.2.1 hn1) ?_
    rintro _ _ ⟨rfl, rfl⟩
    refine wg_invv (d79_53 L xs) (kd := 7) (mj := 44) (n := 3) rfl (Or.inl rfl) (ys := [.int (nI nm.length), .int 0, .ref 89]) (r := []) rfl rfl (lf_n HL).1 (tx_c (lf_n HL)) rfl (Nat.le_of_ble_eq_true rfl) (ts_addPart (fr := 0) (to := nm.length) (lf_n HL) e1.has isT_all.2.2.1 hn1 (by omega) (by omega) (by decide)) ?_
    rintro _ s2 ⟨rfl, e2⟩
    rw [List.nil_append, seg_all, List.take_of_length_le (by rw [lf_ln HL]; omega)] at e2
    have e3 := e1.trans e2
    have f2 : ckf s s2 (97 + 4 * dep) := ckf_T e3 (by omega) (by omega)
    refine wg_aload_n (d79_56 L xs) rfl ?_
    refine wg_iload_n (d79_57 L xs) rfl ?_
    refine wg_invv (d79_58 L xs) (kd := 7) (mj := 51) (n := 1) rfl (Or.inl rfl) (ys := [.int (nI (dep + 1))]) (r := []) rfl rfl (by decide) rfl rfl (Nat.le_of_ble_eq_true rfl) (HE s2 σ nm (ckC_of C f2 (by omega)) (isCk_T K e3 (by omega) (by omega)) hσ (by have h9 := e3.has; rw [hw, show 93 + 4 * (dep + 1) + 1 = 94 + 4 * (dep + 1) by omega] at h9; exact h9)) ?_
    rintro _ s3 ⟨rfl, K3, f3⟩
    have hr := (hI nm σ hσ).1
    have f4 := f2.trans (f3.less (c := 97 + 4 * dep) (by omega))
    refine wg_istore (d79_61 L xs) (ls' := [some (.ref 87), some (.int (nI dep)), some (.int (nI (dep + 1))), some (.ref (lw + 1)), some (.int (nI ((e nm σ).1)))]) (Nat.le_of_ble_eq_true rfl) rfl ?_
    refine wg_iload (d79_63 L xs) rfl ?_
    refine wn_if_ne (d79_65 L xs) (x := (e nm σ).1) (by omega) (t := 73) (by decide) (fun h3 => ?_) (fun h3 => ?_)
    · refine wg_iload (d79_73 L xs) rfl ?_
      exact wg_iret (d79_75 L xs) rfl rfl (by rw [x_in, if_pos (bI_t (b := t_name (gl nm) 0 nm.length) (by omega))]; exact ⟨by show _ = some (Value.int (nI (if (e nm σ).1 = 0 then 6 else (e nm σ).1))); rw [if_neg (by omega)], K3, f4⟩)
    · refine wg_bipush (d79_68 L xs) (x := 6) (by decide) ?_
      refine wg_goto (d79_70 L xs) (t := 75) (by decide) ?_
      exact wg_iret (d79_75 L xs) rfl rfl (by rw [x_in, if_pos (bI_t (b := t_name (gl nm) 0 nm.length) (by omega))]; exact ⟨by show _ = some (Value.int (nI (if (e nm σ).1 = 0 then 6 else (e nm σ).1))); rw [if_pos (by omega)]; rfl, K3, f4⟩)
  · refine wg_bipush (d79_23 L xs) (x := 6) (by decide) ?_
    exact wg_iret (d79_25 L xs) rfl rfl (by rw [x_in, if_neg (by rw [bI_f (b := t_name (gl nm) 0 nm.length) (by omega)]; decide)]; exact ⟨rfl, K, ckf.rf _ _⟩)
theorem ck_rd {s : mg_s} {σ : ckS} {dep lv rf rt : Nat} (hdep : dep < 11) (hv : lv = 93 + 4 * dep) (HI : ckIn L xs (d + 21) p E dep (97 + 4 * dep) inn) (C : ckC s p E) (K : isCk s σ) (hσ : okS σ) (Ha : isT a) (ha7 : 7 ≤ a) (ha8 : a + 1 < 87) (hl : hold s a l) (hd : hold s (lv + 1) dom) (hft : rf < rt) (hrt : rt < 2 ^ 28) (hT : t_tgt (gl l) rf rt = true) : ca L xs (d + 22) 84 [.ref 87, .ref a, .int (nI rf), .int (nI rt), .int (nI dep)] s (ckP s (97 + 4 * dep) (x_rd E inn l dom rf rt σ)) := by
  refine wg_call (Nat.le_of_ble_eq_true rfl) ?_
  have hn91 := C.2.2.2.1
  have hn94 := C.2.2.2.2.1
  have hv0 : s.2.2.2.1 0 = some 93 := C.2.2.2.2.2 0 (by decide)
  have HL : isL lv := by rw [hv]; exact isL_all _ (by omega)
  have hlv : s.2.2.2.1 dep = some lv := by rw [hv]; exact C.2.2.2.2.2 _ (by omega)
  show wp L xs (d + 21) 84 0 [some (.ref 87), some (.ref a), some (.int (nI rf)), some (.int (nI rt)), some (.int (nI dep))] [] s _
  by_cases hlk : σ.1 < 10
  · skip
    refine wg_aload_n (d84_0 L xs) rfl ?_
    refine wg_invv (d84_1 L xs) (kd := 7) (mj := 74) (n := 0) rfl (Or.inl rfl) (ys := []) (r := []) rfl rfl (by decide) rfl rfl (Nat.le_of_ble_eq_true rfl) (ck_spend1 K.1 hlk) ?_
    rintro _ _ ⟨rfl, rfl⟩
    have K1 := isCk_lk K
    have f1 : ckf s (mg_I s 87 6 (nI (σ.1 + 1))) (97 + 4 * dep) := ckf_I (by decide)
    refine wg_if_ne (d84_4 L xs) (t := 10) (by decide) (fun _ => ?_) (fun hn => absurd (by decide) hn)
    refine wg_aload_n (d84_10 L xs) rfl ?_
    refine wg_aload_n (d84_11 L xs) rfl ?_
    refine wg_iload_n (d84_12 L xs) rfl ?_
    refine wg_iload_n (d84_13 L xs) rfl ?_
    refine wg_aload_n (d84_14 L xs) rfl ?_
    refine wg_get (d84_15 L xs) (kd := 1) (cj := 6) (k0 := 1) rfl (Or.inl rfl) (by decide) rfl rfl ?_
    refine wg_iload (d84_18 L xs) rfl ?_
    refine wg_aald (d84_20 L xs) (n := 11) (by decide) rfl rfl (vp_in_nI (n := dep) (by omega) (by omega)) (v := .ref lv) (by rw [nI_nat (n := dep) (by omega), (show (mg_I s 87 6 (nI (σ.1 + 1))).2.2.2.1 dep = some lv from hlv)]; rfl) ?_
    refine wg_get (d84_21 L xs) (kd := 2) (cj := 5) (k0 := 0) rfl (Or.inr rfl) HL.1 (lf_c HL) rfl ?_
    refine wg_invv (d84_24 L xs) (kd := 7) (mj := 75) (n := 4) rfl (Or.inl rfl) (ys := [.ref (lv + 1), .int (nI rt), .int (nI rf), .ref a]) (r := []) rfl rfl (by decide) rfl rfl (Nat.le_of_ble_eq_true rfl) (ck_exp (fr := rf) (to := rt) Ha (by omega) (lf_n HL) (by omega) (by omega) (by omega) (by have h9 := hT; unfold t_tgt at h9; rw [Bool.and_eq_true] at h9; exact h9.2) (hold_I hl (by omega)) (hold_I hd (by omega)) (hold_I hn91 (by decide)) (hold_I hn94 (by decide)) hv0) ?_
    rintro _ s2 ⟨rfl, e2⟩
    have K2 := isCk_T K1 e2 (by decide) (by decide)
    have f2 := f1.trans (ckf_T (b := 97 + 4 * dep) e2 (by omega) (by decide))
    refine wg_aload_n (d84_27 L xs) rfl ?_
    refine wg_iload (d84_28 L xs) rfl ?_
    refine wg_invv (d84_30 L xs) (kd := 7) (mj := 79) (n := 1) rfl (Or.inl rfl) (ys := [.int (nI dep)]) (r := []) rfl rfl (by decide) rfl rfl (Nat.le_of_ble_eq_true rfl) (HI s2 (st_lk σ) _ (ckC_of C f2 (by omega)) K2 ⟨hlk, hσ.2⟩ e2.has) ?_
    rintro _ s3 ⟨rfl, K3, f3⟩
    exact wg_iret (d84_33 L xs) rfl rfl (by rw [x_rd, if_pos hft, if_pos hlk]; exact ⟨rfl, K3, f2.trans f3⟩)
  · skip
    refine wg_aload_n (d84_0 L xs) rfl ?_
    refine wg_invv (d84_1 L xs) (kd := 7) (mj := 74) (n := 0) rfl (Or.inl rfl) (ys := []) (r := []) rfl rfl (by decide) rfl rfl (Nat.le_of_ble_eq_true rfl) (ck_spend0 K.1 (by have := hσ.1; omega)) ?_
    rintro _ _ ⟨rfl, rfl⟩
    refine wg_if_ne (d84_4 L xs) (t := 10) (by decide) (fun hp => absurd hp (by decide)) (fun _ => ?_)
    refine wg_bipush (d84_7 L xs) (x := 6) (by decide) ?_
    exact wg_iret (d84_9 L xs) rfl rfl (by rw [x_rd, if_pos hft, if_neg hlk]; exact ⟨rfl, K, ckf.rf _ _⟩)
theorem ck_ma {s : mg_s} {σ : ckS} {dep lv fr to : Nat} {t : tmT} (hdep : dep < 11) (hv : lv = 93 + 4 * dep) (hI : okI inn) (HI : ckIn L xs (d + 21) p E dep (97 + 4 * dep) inn) (C : ckC s p E) (K : isCk s σ) (hσ : okS σ) (Ha : isT a) (ha7 : 7 ≤ a) (ha8 : a + 1 < 87) (hl : hold s a l) (hd : hold s (lv + 1) dom) (tm : isTerm s (lv + 3) t) (hfr : fr < to) (hto : to < 2 ^ 28) (ht : t_term (gl l) fr to = some t) (h6 : t.1 < 6) : ca L xs (d + 22) 72 [.ref 87, .ref a, .ref (lv + 3), .int (nI dep)] s (ckP s (97 + 4 * dep) (x_ma E inn l dom t σ)) := by
  refine wg_call (Nat.le_of_ble_eq_true rfl) ?_
  have hn91 := C.2.2.2.1
  have hn94 := C.2.2.2.2.1
  have hv0 : s.2.2.2.1 0 = some 93 := C.2.2.2.2.2 0 (by decide)
  have HL : isL lv := by rw [hv]; exact isL_all _ (by omega)
  have hlv : s.2.2.2.1 dep = some lv := by rw [hv]; exact C.2.2.2.2.2 _ (by omega)
  have hok := t_term_ok hfr ht
  have hok1 := hok.2.1
  have hok2 := hok.2.2.1
  have hok3 := hok.2.2.2.2.2.2
  have hb32 := (hok.2.2.2.1 h6).2.2
  have hbb := bI_lt (c_sb (nI t.2.2.2.2.2) E.2.1 t.2.2.2.2.1)
  have hbt := bI_lt (decide (t.2.2.1 < t.2.2.2.1))
  show wp L xs (d + 21) 72 0 [some (.ref 87), some (.ref a), some (.ref (lv + 3)), some (.int (nI dep)), none] [] s _
  refine wg_aload_n (d72_0 L xs) rfl ?_
  refine wg_get (d72_1 L xs) (kd := 2) (cj := 4) (k0 := 0) rfl (Or.inr rfl) (lf_t HL).1 (tm_c (lf_t HL)) rfl ?_
  refine wg_top (y := (nI t.1)) tm.1 ?_
  refine wn_if_ne (d72_4 L xs) (x := t.1) (by omega) (t := 9) (by decide) (fun h1 => ?_) (fun h1 => ?_)
  · refine wg_aload_n (d72_9 L xs) rfl ?_
    refine wg_get (d72_10 L xs) (kd := 2) (cj := 4) (k0 := 0) rfl (Or.inr rfl) (lf_t HL).1 (tm_c (lf_t HL)) rfl ?_
    refine wg_top (y := (nI t.1)) tm.1 ?_
    refine wg_iconst (d72_13 L xs) (x := 4) (by decide) ?_
    refine wn_icmp_ne (d72_14 L xs) (x := t.1) (y := 4) (by omega) (by omega) (t := 41) (by decide) (fun h2 => ?_) (fun h2 => ?_)
    · by_cases hlk : σ.1 < 10
      · skip
        refine wg_aload_n (d72_41 L xs) rfl ?_
        refine wg_invv (d72_42 L xs) (kd := 7) (mj := 74) (n := 0) rfl (Or.inl rfl) (ys := []) (r := []) rfl rfl (by decide) rfl rfl (Nat.le_of_ble_eq_true rfl) (ck_spend1 K.1 hlk) ?_
        rintro _ _ ⟨rfl, rfl⟩
        have K1 := isCk_lk K
        have f1 : ckf s (mg_I s 87 6 (nI (σ.1 + 1))) (97 + 4 * dep) := ckf_I (by decide)
        have tm1 : isTerm (mg_I s 87 6 (nI (σ.1 + 1))) (lv + 3) t := isTerm_of tm (mg_I_oth (by omega))
        refine wg_if_ne (d72_45 L xs) (t := 51) (by decide) (fun _ => ?_) (fun hn => absurd (by decide) hn)
        refine wg_aload_n (d72_51 L xs) rfl ?_
        refine wg_get (d72_52 L xs) (kd := 1) (cj := 6) (k0 := 1) rfl (Or.inl rfl) (by decide) rfl rfl ?_
        refine wg_iload_n (d72_55 L xs) rfl ?_
        refine wg_aald (d72_56 L xs) (n := 11) (by decide) rfl rfl (vp_in_nI (n := dep) (by omega) (by omega)) (v := .ref lv) (by rw [nI_nat (n := dep) (by omega), (show (mg_I s 87 6 (nI (σ.1 + 1))).2.2.2.1 dep = some lv from hlv)]; rfl) ?_
        refine wg_get (d72_57 L xs) (kd := 2) (cj := 5) (k0 := 0) rfl (Or.inr rfl) HL.1 (lf_c HL) rfl ?_
        refine wg_astore (d72_60 L xs) (ls' := [some (.ref 87), some (.ref a), some (.ref (lv + 3)), some (.int (nI dep)), some (.ref (lv + 1))]) (Nat.le_of_ble_eq_true rfl) rfl ?_
        refine wg_aload_n (d72_62 L xs) rfl ?_
        refine wg_invv (d72_63 L xs) (kd := 7) (mj := 63) (n := 0) rfl (Or.inl rfl) (ys := []) (r := []) rfl rfl (lf_t HL).1 (tm_c (lf_t HL)) rfl (Nat.le_of_ble_eq_true rfl) (tm_has (lf_t HL) tm1.2.2.1 tm1.2.2.2.1 (by omega) (by omega)) ?_
        rintro _ _ ⟨rfl, rfl⟩
        refine wn_if_eq (d72_66 L xs) (x := bI (decide (t.2.2.1 < t.2.2.2.1))) (by omega) (t := 90) (by decide) (fun h2 => ?_) (fun h2 => ?_)
        · have hft : ¬ t.2.2.1 < t.2.2.2.1 := of_decide_eq_false (bI_f (b := decide (t.2.2.1 < t.2.2.2.1)) (by omega))
          have hx : x_ma E inn l dom t σ = x_mb E inn t dom (st_lk σ) := by rw [x_ma, if_neg (by omega), if_neg (by omega), if_pos hlk, x_nm, if_neg hft]
          have hnm : hold (mg_I s 87 6 (nI (σ.1 + 1))) (lv + 1) dom := hold_I hd (by omega)
          have hb2 := bI_lt (t_name (gl dom) 0 dom.length)
          have C2 := ckC_of C f1 (by omega)
          rw [hx]
          refine wg_aload_n (d72_90 L xs) rfl ?_
          refine wg_get (d72_91 L xs) (kd := 2) (cj := 4) (k0 := 0) rfl (Or.inr rfl) (lf_t HL).1 (tm_c (lf_t HL)) rfl ?_
          refine wg_top (y := (nI t.1)) tm1.1 ?_
          refine wg_iconst (d72_94 L xs) (x := 1) (by decide) ?_
          refine wn_icmp_ne (d72_95 L xs) (x := t.1) (y := 1) (by omega) (by omega) (t := 107) (by decide) (fun h1 => ?_) (fun h1 => absurd (hok.2.2.2.2.1 (Or.inl (by omega))) hft)
          refine wg_aload (d72_107 L xs) rfl ?_
          refine wg_invv (d72_109 L xs) (kd := 7) (mj := 46) (n := 0) rfl (Or.inl rfl) (ys := []) (r := []) rfl rfl (lf_n HL).1 (tx_c (lf_n HL)) rfl (Nat.le_of_ble_eq_true rfl) (ts_name0 (lf_n HL) hnm) ?_
          rintro _ _ ⟨rfl, rfl⟩
          refine wn_if_ne (d72_112 L xs) (x := bI (t_name (gl dom) 0 dom.length)) (by omega) (t := 117) (by decide) (fun h2 => ?_) (fun h2 => ?_)
          · have hnn := bI_t (b := t_name (gl dom) 0 dom.length) (by omega)
            have hnl := t_name_len hnn
            rw [x_mb, if_neg (by omega), if_pos hnn]
            have h5 : t.1 = 2 ∨ t.1 = 3 ∨ t.1 = 5 := by omega
            rcases h5 with h5 | h5 | h5
            · skip
              refine wg_aload_n (d72_117 L xs) rfl ?_
              refine wg_get (d72_118 L xs) (kd := 2) (cj := 4) (k0 := 0) rfl (Or.inr rfl) (lf_t HL).1 (tm_c (lf_t HL)) rfl ?_
              refine wg_top (y := 2) (by rw [tm1.1, h5]; rfl) ?_
              refine wg_lsw (d72_121 L xs) (of := 27) (t := 148) (by decide) (by decide) (by decide) ?_
              refine wg_aload_n (d72_148 L xs) rfl ?_
              refine wg_aload (d72_149 L xs) rfl ?_
              refine wg_aload_n (d72_151 L xs) rfl ?_
              refine wg_get (d72_152 L xs) (kd := 2) (cj := 4) (k0 := 4) rfl (Or.inr rfl) (lf_t HL).1 (tm_c (lf_t HL)) rfl ?_
              refine wg_top (y := (nI t.2.2.2.2.1)) (tm1.2.2.2.2.1 h6) ?_
              refine wg_invv (d72_155 L xs) (kd := 7) (mj := 81) (n := 2) rfl (Or.inl rfl) (ys := [.int (nI t.2.2.2.2.1), .ref (lv + 1)]) (r := []) rfl rfl (by decide) rfl rfl (Nat.le_of_ble_eq_true rfl) (ck_host C2.1 (lf_n HL) hnm (by omega) (by omega) (by omega) C2.2.2.1 K1.2.1 (by have := hσ.2; show σ.2.1 < 1000; omega) hb32) ?_
              rintro _ s4 ⟨rfl, e4⟩
              have e4 : ckh (mg_I s 87 6 (nI (σ.1 + 1))) s4 dom (x_host E.1 E.2.1 dom t.2.2.2.2.1 σ.2.1).2 := e4
              exact wg_iret (d72_158 L xs) rfl rfl (by rw [x_mc, if_pos h5]; exact ⟨rfl, isCk_h K1 e4, f1.trans (ckf_h e4)⟩)
            · skip
              refine wg_aload_n (d72_117 L xs) rfl ?_
              refine wg_get (d72_118 L xs) (kd := 2) (cj := 4) (k0 := 0) rfl (Or.inr rfl) (lf_t HL).1 (tm_c (lf_t HL)) rfl ?_
              refine wg_top (y := 3) (by rw [tm1.1, h5]; rfl) ?_
              refine wg_lsw (d72_121 L xs) (of := 38) (t := 159) (by decide) (by decide) (by decide) ?_
              refine wg_aload_n (d72_159 L xs) rfl ?_
              refine wg_aload (d72_160 L xs) rfl ?_
              refine wg_aload_n (d72_162 L xs) rfl ?_
              refine wg_get (d72_163 L xs) (kd := 2) (cj := 4) (k0 := 4) rfl (Or.inr rfl) (lf_t HL).1 (tm_c (lf_t HL)) rfl ?_
              refine wg_top (y := (nI t.2.2.2.2.1)) (tm1.2.2.2.2.1 h6) ?_
              refine wg_invv (d72_166 L xs) (kd := 7) (mj := 83) (n := 2) rfl (Or.inl rfl) (ys := [.int (nI t.2.2.2.2.1), .ref (lv + 1)]) (r := []) rfl rfl (by decide) rfl rfl (Nat.le_of_ble_eq_true rfl) (ck_mail C2.1 (lf_n HL) hnm (by omega) (by omega) (by omega) C2.2.2.1 K1.2.1 (by have := hσ.2; show σ.2.1 < 900; omega) hb32 C2.2.1) ?_
              rintro _ s4 ⟨rfl, e4⟩
              have e4 : ckh (mg_I s 87 6 (nI (σ.1 + 1))) s4 (x_mail E.1 E.2.1 dom t.2.2.2.2.1 σ.2.1).2.2 (x_mail E.1 E.2.1 dom t.2.2.2.2.1 σ.2.1).2.1 := e4
              exact wg_iret (d72_169 L xs) rfl rfl (by rw [x_mc, if_neg (by omega), if_pos h5]; exact ⟨rfl, isCk_h K1 e4, f1.trans (ckf_h e4)⟩)
            · skip
              refine wg_aload_n (d72_117 L xs) rfl ?_
              refine wg_get (d72_118 L xs) (kd := 2) (cj := 4) (k0 := 0) rfl (Or.inr rfl) (lf_t HL).1 (tm_c (lf_t HL)) rfl ?_
              refine wg_top (y := 5) (by rw [tm1.1, h5]; rfl) ?_
              refine wg_lsw (d72_121 L xs) (of := 49) (t := 170) (by decide) (by decide) (by decide) ?_
              refine wg_aload_n (d72_170 L xs) rfl ?_
              refine wg_aload_n (d72_171 L xs) rfl ?_
              refine wg_get (d72_172 L xs) (kd := 1) (cj := 6) (k0 := 0) rfl (Or.inl rfl) (by decide) rfl rfl ?_
              refine wg_aload (d72_175 L xs) rfl ?_
              refine wg_iconst (d72_177 L xs) (x := 0) (by decide) ?_
              refine wg_invv (d72_178 L xs) (kd := 7) (mj := 53) (n := 2) rfl (Or.inl rfl) (ys := [.int 0, .ref (lv + 1)]) (r := [.ref 87]) rfl rfl (by decide) rfl rfl (Nat.le_of_ble_eq_true rfl) (tb_ask (kd := 0) C2.1 (lf_n HL) hnm (by omega) (by omega) (by decide)) ?_
              rintro _ s3 ⟨rfl, e3⟩
              refine wg_invv (d72_181 L xs) (kd := 7) (mj := 82) (n := 1) rfl (Or.inl rfl) (ys := [.int (oI (f_ask dom 0 E.1 0))]) (r := []) rfl rfl (by decide) rfl rfl (Nat.le_of_ble_eq_true rfl) (ck_cnt (o := f_ask dom 0 E.1 0) ((congrFun (e3.i (b := 87) (by decide)) 7).trans K1.2.1) (by have := hσ.2; show σ.2.1 < 1000; omega) (fun n hn => by have := f_ask_lt _ _ _ hn; have := C2.1.2.1; omega)) ?_
              rintro _ s4 ⟨rfl, e4⟩
              have e4 : ckh (mg_I s 87 6 (nI (σ.1 + 1))) s4 dom (v_cnt (f_ask dom 0 E.1 0) σ.2.1).2 := ⟨s3, e3, e4⟩
              exact wg_iret (d72_184 L xs) rfl rfl (by rw [x_mc, if_neg (by omega), if_neg (by omega)]; exact ⟨rfl, isCk_h K1 e4, f1.trans (ckf_h e4)⟩)
          · refine wg_iconst (d72_115 L xs) (x := 0) (by decide) ?_
            exact wg_iret (d72_116 L xs) rfl rfl (by rw [x_mb, if_neg (by omega), if_neg (by rw [bI_f (b := t_name (gl dom) 0 dom.length) (by omega)]; decide)]; exact ⟨rfl, K1, f1⟩)
        · have hft : t.2.2.1 < t.2.2.2.1 := of_decide_eq_true (bI_t (b := decide (t.2.2.1 < t.2.2.2.1)) (by omega))
          refine wg_aload_n (d72_69 L xs) rfl ?_
          refine wg_aload_n (d72_70 L xs) rfl ?_
          refine wg_aload_n (d72_71 L xs) rfl ?_
          refine wg_get (d72_72 L xs) (kd := 2) (cj := 4) (k0 := 2) rfl (Or.inr rfl) (lf_t HL).1 (tm_c (lf_t HL)) rfl ?_
          refine wg_top (y := (nI t.2.2.1)) tm1.2.2.1 ?_
          refine wg_aload_n (d72_75 L xs) rfl ?_
          refine wg_get (d72_76 L xs) (kd := 2) (cj := 4) (k0 := 3) rfl (Or.inr rfl) (lf_t HL).1 (tm_c (lf_t HL)) rfl ?_
          refine wg_top (y := (nI t.2.2.2.1)) tm1.2.2.2.1 ?_
          refine wg_aload (d72_79 L xs) rfl ?_
          refine wg_invv (d72_81 L xs) (kd := 7) (mj := 75) (n := 4) rfl (Or.inl rfl) (ys := [.ref (lv + 1), .int (nI t.2.2.2.1), .int (nI t.2.2.1), .ref a]) (r := []) rfl rfl (by decide) rfl rfl (Nat.le_of_ble_eq_true rfl) (ck_exp (fr := t.2.2.1) (to := t.2.2.2.1) Ha (by omega) (lf_n HL) (by omega) (by omega) (by omega) (by have h9 := hok.2.2.2.2.2.1 (by omega) hft; unfold t_tgt at h9; rw [Bool.and_eq_true] at h9; exact h9.2) (hold_I hl (by omega)) (hold_I hd (by omega)) (hold_I hn91 (by decide)) (hold_I hn94 (by decide)) hv0) ?_
          rintro _ s2 ⟨rfl, e2⟩
          have K2 := isCk_T K1 e2 (by decide) (by decide)
          have f2 := f1.trans (ckf_T (b := 97 + 4 * dep) e2 (by omega) (by decide))
          have tm2 : isTerm s2 (lv + 3) t := isTerm_of tm1 (e2.i (by omega))
          refine wg_aload_n (d72_84 L xs) rfl ?_
          refine wg_get (d72_85 L xs) (kd := 1) (cj := 6) (k0 := 2) rfl (Or.inl rfl) (by decide) rfl rfl ?_
          refine wg_astore (d72_88 L xs) (ls' := [some (.ref 87), some (.ref a), some (.ref (lv + 3)), some (.int (nI dep)), some (.ref 89)]) (Nat.le_of_ble_eq_true rfl) rfl ?_
          have hx : x_ma E inn l dom t σ = x_mb E inn t (x_w E l dom t.2.2.1 t.2.2.2.1) (st_lk σ) := by rw [x_ma, if_neg (by omega), if_neg (by omega), if_pos hlk, x_nm, if_pos hft]
          have hnm : hold s2 89 (x_w E l dom t.2.2.1 t.2.2.2.1) := e2.has
          have hb2 := bI_lt (t_name (gl (x_w E l dom t.2.2.1 t.2.2.2.1)) 0 (x_w E l dom t.2.2.1 t.2.2.2.1).length)
          have C2 := ckC_of C f2 (by omega)
          rw [hx]
          refine wg_aload_n (d72_90 L xs) rfl ?_
          refine wg_get (d72_91 L xs) (kd := 2) (cj := 4) (k0 := 0) rfl (Or.inr rfl) (lf_t HL).1 (tm_c (lf_t HL)) rfl ?_
          refine wg_top (y := (nI t.1)) tm2.1 ?_
          refine wg_iconst (d72_94 L xs) (x := 1) (by decide) ?_
          refine wn_icmp_ne (d72_95 L xs) (x := t.1) (y := 1) (by omega) (by omega) (t := 107) (by decide) (fun h1 => ?_) (fun h1 => ?_)
          · refine wg_aload (d72_107 L xs) rfl ?_
            refine wg_invv (d72_109 L xs) (kd := 7) (mj := 46) (n := 0) rfl (Or.inl rfl) (ys := []) (r := []) rfl rfl (by decide) rfl rfl (Nat.le_of_ble_eq_true rfl) (ts_name0 isT_all.2.2.1 hnm) ?_
            rintro _ _ ⟨rfl, rfl⟩
            refine wn_if_ne (d72_112 L xs) (x := bI (t_name (gl (x_w E l dom t.2.2.1 t.2.2.2.1)) 0 (x_w E l dom t.2.2.1 t.2.2.2.1).length)) (by omega) (t := 117) (by decide) (fun h2 => ?_) (fun h2 => ?_)
            · have hnn := bI_t (b := t_name (gl (x_w E l dom t.2.2.1 t.2.2.2.1)) 0 (x_w E l dom t.2.2.1 t.2.2.2.1).length) (by omega)
              have hnl := t_name_len hnn
              rw [x_mb, if_neg (by omega), if_pos hnn]
              have h5 : t.1 = 2 ∨ t.1 = 3 ∨ t.1 = 5 := by omega
              rcases h5 with h5 | h5 | h5
              · skip
                refine wg_aload_n (d72_117 L xs) rfl ?_
                refine wg_get (d72_118 L xs) (kd := 2) (cj := 4) (k0 := 0) rfl (Or.inr rfl) (lf_t HL).1 (tm_c (lf_t HL)) rfl ?_
                refine wg_top (y := 2) (by rw [tm2.1, h5]; rfl) ?_
                refine wg_lsw (d72_121 L xs) (of := 27) (t := 148) (by decide) (by decide) (by decide) ?_
                refine wg_aload_n (d72_148 L xs) rfl ?_
                refine wg_aload (d72_149 L xs) rfl ?_
                refine wg_aload_n (d72_151 L xs) rfl ?_
                refine wg_get (d72_152 L xs) (kd := 2) (cj := 4) (k0 := 4) rfl (Or.inr rfl) (lf_t HL).1 (tm_c (lf_t HL)) rfl ?_
                refine wg_top (y := (nI t.2.2.2.2.1)) (tm2.2.2.2.2.1 h6) ?_
                refine wg_invv (d72_155 L xs) (kd := 7) (mj := 81) (n := 2) rfl (Or.inl rfl) (ys := [.int (nI t.2.2.2.2.1), .ref 89]) (r := []) rfl rfl (by decide) rfl rfl (Nat.le_of_ble_eq_true rfl) (ck_host C2.1 isT_all.2.2.1 hnm (by omega) (by omega) (by omega) C2.2.2.1 K2.2.1 (by have := hσ.2; show σ.2.1 < 1000; omega) hb32) ?_
                rintro _ s4 ⟨rfl, e4⟩
                have e4 : ckh s2 s4 (x_w E l dom t.2.2.1 t.2.2.2.1) (x_host E.1 E.2.1 (x_w E l dom t.2.2.1 t.2.2.2.1) t.2.2.2.2.1 σ.2.1).2 := e4
                exact wg_iret (d72_158 L xs) rfl rfl (by rw [x_mc, if_pos h5]; exact ⟨rfl, isCk_h K2 e4, f2.trans (ckf_h e4)⟩)
              · skip
                refine wg_aload_n (d72_117 L xs) rfl ?_
                refine wg_get (d72_118 L xs) (kd := 2) (cj := 4) (k0 := 0) rfl (Or.inr rfl) (lf_t HL).1 (tm_c (lf_t HL)) rfl ?_
                refine wg_top (y := 3) (by rw [tm2.1, h5]; rfl) ?_
                refine wg_lsw (d72_121 L xs) (of := 38) (t := 159) (by decide) (by decide) (by decide) ?_
                refine wg_aload_n (d72_159 L xs) rfl ?_
                refine wg_aload (d72_160 L xs) rfl ?_
                refine wg_aload_n (d72_162 L xs) rfl ?_
                refine wg_get (d72_163 L xs) (kd := 2) (cj := 4) (k0 := 4) rfl (Or.inr rfl) (lf_t HL).1 (tm_c (lf_t HL)) rfl ?_
                refine wg_top (y := (nI t.2.2.2.2.1)) (tm2.2.2.2.2.1 h6) ?_
                refine wg_invv (d72_166 L xs) (kd := 7) (mj := 83) (n := 2) rfl (Or.inl rfl) (ys := [.int (nI t.2.2.2.2.1), .ref 89]) (r := []) rfl rfl (by decide) rfl rfl (Nat.le_of_ble_eq_true rfl) (ck_mail C2.1 isT_all.2.2.1 hnm (by omega) (by omega) (by omega) C2.2.2.1 K2.2.1 (by have := hσ.2; show σ.2.1 < 900; omega) hb32 C2.2.1) ?_
                rintro _ s4 ⟨rfl, e4⟩
                have e4 : ckh s2 s4 (x_mail E.1 E.2.1 (x_w E l dom t.2.2.1 t.2.2.2.1) t.2.2.2.2.1 σ.2.1).2.2 (x_mail E.1 E.2.1 (x_w E l dom t.2.2.1 t.2.2.2.1) t.2.2.2.2.1 σ.2.1).2.1 := e4
                exact wg_iret (d72_169 L xs) rfl rfl (by rw [x_mc, if_neg (by omega), if_pos h5]; exact ⟨rfl, isCk_h K2 e4, f2.trans (ckf_h e4)⟩)
              · skip
                refine wg_aload_n (d72_117 L xs) rfl ?_
                refine wg_get (d72_118 L xs) (kd := 2) (cj := 4) (k0 := 0) rfl (Or.inr rfl) (lf_t HL).1 (tm_c (lf_t HL)) rfl ?_
                refine wg_top (y := 5) (by rw [tm2.1, h5]; rfl) ?_
                refine wg_lsw (d72_121 L xs) (of := 49) (t := 170) (by decide) (by decide) (by decide) ?_
                refine wg_aload_n (d72_170 L xs) rfl ?_
                refine wg_aload_n (d72_171 L xs) rfl ?_
                refine wg_get (d72_172 L xs) (kd := 1) (cj := 6) (k0 := 0) rfl (Or.inl rfl) (by decide) rfl rfl ?_
                refine wg_aload (d72_175 L xs) rfl ?_
                refine wg_iconst (d72_177 L xs) (x := 0) (by decide) ?_
                refine wg_invv (d72_178 L xs) (kd := 7) (mj := 53) (n := 2) rfl (Or.inl rfl) (ys := [.int 0, .ref 89]) (r := [.ref 87]) rfl rfl (by decide) rfl rfl (Nat.le_of_ble_eq_true rfl) (tb_ask (kd := 0) C2.1 isT_all.2.2.1 hnm (by omega) (by omega) (by decide)) ?_
                rintro _ s3 ⟨rfl, e3⟩
                refine wg_invv (d72_181 L xs) (kd := 7) (mj := 82) (n := 1) rfl (Or.inl rfl) (ys := [.int (oI (f_ask (x_w E l dom t.2.2.1 t.2.2.2.1) 0 E.1 0))]) (r := []) rfl rfl (by decide) rfl rfl (Nat.le_of_ble_eq_true rfl) (ck_cnt (o := f_ask (x_w E l dom t.2.2.1 t.2.2.2.1) 0 E.1 0) ((congrFun (e3.i (b := 87) (by decide)) 7).trans K2.2.1) (by have := hσ.2; show σ.2.1 < 1000; omega) (fun n hn => by have := f_ask_lt _ _ _ hn; have := C2.1.2.1; omega)) ?_
                rintro _ s4 ⟨rfl, e4⟩
                have e4 : ckh s2 s4 (x_w E l dom t.2.2.1 t.2.2.2.1) (v_cnt (f_ask (x_w E l dom t.2.2.1 t.2.2.2.1) 0 E.1 0) σ.2.1).2 := ⟨s3, e3, e4⟩
                exact wg_iret (d72_184 L xs) rfl rfl (by rw [x_mc, if_neg (by omega), if_neg (by omega)]; exact ⟨rfl, isCk_h K2 e4, f2.trans (ckf_h e4)⟩)
            · refine wg_iconst (d72_115 L xs) (x := 0) (by decide) ?_
              exact wg_iret (d72_116 L xs) rfl rfl (by rw [x_mb, if_neg (by omega), if_neg (by rw [bI_f (b := t_name (gl (x_w E l dom t.2.2.1 t.2.2.2.1)) 0 (x_w E l dom t.2.2.1 t.2.2.2.1).length) (by omega)]; decide)]; exact ⟨rfl, K2, f2⟩)
          · refine wg_aload_n (d72_98 L xs) rfl ?_
            refine wg_iload_n (d72_99 L xs) rfl ?_
            refine wg_invv (d72_100 L xs) (kd := 7) (mj := 79) (n := 1) rfl (Or.inl rfl) (ys := [.int (nI dep)]) (r := []) rfl rfl (by decide) rfl rfl (Nat.le_of_ble_eq_true rfl) (HI s2 (st_lk σ) _ C2 K2 ⟨hlk, hσ.2⟩ hnm) ?_
            rintro _ s3 ⟨rfl, K3, f3⟩
            have hr3 := (hI (x_w E l dom t.2.2.1 t.2.2.2.1) (st_lk σ) ⟨hlk, hσ.2⟩).1
            refine wg_invs (d72_103 L xs) (kd := 6) (mj := 80) (n := 1) rfl (Or.inl rfl) (ys := [.int (nI ((inn (x_w E l dom t.2.2.1 t.2.2.2.1) (st_lk σ)).1))]) (r := []) rfl rfl (Nat.le_of_ble_eq_true rfl) (ck_incl hr3) ?_
            rintro _ _ ⟨rfl, rfl⟩
            exact wg_iret (d72_106 L xs) rfl rfl (by rw [x_mb, if_pos (by omega)]; exact ⟨rfl, K3, f2.trans f3⟩)
      · skip
        refine wg_aload_n (d72_41 L xs) rfl ?_
        refine wg_invv (d72_42 L xs) (kd := 7) (mj := 74) (n := 0) rfl (Or.inl rfl) (ys := []) (r := []) rfl rfl (by decide) rfl rfl (Nat.le_of_ble_eq_true rfl) (ck_spend0 K.1 (by have := hσ.1; omega)) ?_
        rintro _ _ ⟨rfl, rfl⟩
        refine wg_if_ne (d72_45 L xs) (t := 51) (by decide) (fun hp => absurd hp (by decide)) (fun _ => ?_)
        refine wg_bipush (d72_48 L xs) (x := 6) (by decide) ?_
        exact wg_iret (d72_50 L xs) rfl rfl (by rw [x_ma, if_neg (by omega), if_neg (by omega), if_neg hlk]; exact ⟨rfl, K, ckf.rf _ _⟩)
    · refine wg_aload_n (d72_17 L xs) rfl ?_
      refine wg_get (d72_18 L xs) (kd := 2) (cj := 4) (k0 := 5) rfl (Or.inr rfl) (lf_t HL).1 (tm_c (lf_t HL)) rfl ?_
      refine wg_top (y := (nI t.2.2.2.2.2)) (tm.2.2.2.2.2 (by omega)) ?_
      refine wg_aload_n (d72_21 L xs) rfl ?_
      refine wg_get (d72_22 L xs) (kd := 1) (cj := 6) (k0 := 4) rfl (Or.inl rfl) (by decide) rfl rfl ?_
      refine wg_top (y := E.2.1) C.2.2.1 ?_
      refine wg_aload_n (d72_25 L xs) rfl ?_
      refine wg_get (d72_26 L xs) (kd := 2) (cj := 4) (k0 := 4) rfl (Or.inr rfl) (lf_t HL).1 (tm_c (lf_t HL)) rfl ?_
      refine wg_top (y := (nI t.2.2.2.2.1)) (tm.2.2.2.2.1 h6) ?_
      refine wg_invs (d72_29 L xs) (kd := 6) (mj := 73) (n := 3) rfl (Or.inl rfl) (ys := [.int (nI t.2.2.2.2.1), .int E.2.1, .int (nI t.2.2.2.2.2)]) (r := []) rfl rfl (Nat.le_of_ble_eq_true rfl) (ck_same (by omega)) ?_
      rintro _ _ ⟨rfl, rfl⟩
      refine wn_if_eq (d72_32 L xs) (x := bI (c_sb (nI t.2.2.2.2.2) E.2.1 t.2.2.2.2.1)) (by omega) (t := 39) (by decide) (fun h3 => ?_) (fun h3 => ?_)
      · refine wg_iconst (d72_39 L xs) (x := 0) (by decide) ?_
        exact wg_iret (d72_40 L xs) rfl rfl (by rw [x_ma, if_neg (by omega), if_pos (by omega)]; exact ⟨by rw [bI_f (b := c_sb (nI t.2.2.2.2.2) E.2.1 t.2.2.2.2.1) (by omega)]; rfl, K, ckf.rf _ _⟩)
      · refine wg_iconst (d72_35 L xs) (x := 1) (by decide) ?_
        refine wg_goto (d72_36 L xs) (t := 40) (by decide) ?_
        exact wg_iret (d72_40 L xs) rfl rfl (by rw [x_ma, if_neg (by omega), if_pos (by omega)]; exact ⟨by rw [bI_t (b := c_sb (nI t.2.2.2.2.2) E.2.1 t.2.2.2.2.1) (by omega)]; rfl, K, ckf.rf _ _⟩)
  · refine wg_iconst (d72_7 L xs) (x := 1) (by decide) ?_
    exact wg_iret (d72_8 L xs) rfl rfl (by rw [x_ma, if_pos (by omega)]; exact ⟨rfl, K, ckf.rf _ _⟩)
end CE
