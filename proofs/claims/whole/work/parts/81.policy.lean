/-! the class: a policy read -/
theorem d93_0 (L : Nat) (xs : Nat → Int32) : decode (ax_code (mgT L xs) 93) 0 = .ok (.aload_n 0, 1) := by
  show decode prog_5_method_6_code 0 = _
  decide +kernel
theorem d93_1 (L : Nat) (xs : Nat → Int32) : decode (ax_code (mgT L xs) 93) 1 = .ok (.iconst (-1), 1) := by
  show decode prog_5_method_6_code 1 = _
  decide +kernel
theorem d93_2 (L : Nat) (xs : Nat → Int32) : decode (ax_code (mgT L xs) 93) 2 = .ok (.putfield 9, 3) := by
  show decode prog_5_method_6_code 2 = _
  decide +kernel
theorem d93_5 (L : Nat) (xs : Nat → Int32) : decode (ax_code (mgT L xs) 93) 5 = .ok (.aload_n 0, 1) := by
  show decode prog_5_method_6_code 5 = _
  decide +kernel
theorem d93_6 (L : Nat) (xs : Nat → Int32) : decode (ax_code (mgT L xs) 93) 6 = .ok (.iconst (-1), 1) := by
  show decode prog_5_method_6_code 6 = _
  decide +kernel
theorem d93_7 (L : Nat) (xs : Nat → Int32) : decode (ax_code (mgT L xs) 93) 7 = .ok (.putfield 15, 3) := by
  show decode prog_5_method_6_code 7 = _
  decide +kernel
theorem d93_10 (L : Nat) (xs : Nat → Int32) : decode (ax_code (mgT L xs) 93) 10 = .ok (.aload_n 0, 1) := by
  show decode prog_5_method_6_code 10 = _
  decide +kernel
theorem d93_11 (L : Nat) (xs : Nat → Int32) : decode (ax_code (mgT L xs) 93) 11 = .ok (.iconst (-1), 1) := by
  show decode prog_5_method_6_code 11 = _
  decide +kernel
theorem d93_12 (L : Nat) (xs : Nat → Int32) : decode (ax_code (mgT L xs) 93) 12 = .ok (.putfield 18, 3) := by
  show decode prog_5_method_6_code 12 = _
  decide +kernel
theorem d93_15 (L : Nat) (xs : Nat → Int32) : decode (ax_code (mgT L xs) 93) 15 = .ok (.aload_n 0, 1) := by
  show decode prog_5_method_6_code 15 = _
  decide +kernel
theorem d93_16 (L : Nat) (xs : Nat → Int32) : decode (ax_code (mgT L xs) 93) 16 = .ok (.iconst (-1), 1) := by
  show decode prog_5_method_6_code 16 = _
  decide +kernel
theorem d93_17 (L : Nat) (xs : Nat → Int32) : decode (ax_code (mgT L xs) 93) 17 = .ok (.putfield 21, 3) := by
  show decode prog_5_method_6_code 17 = _
  decide +kernel
theorem d93_20 (L : Nat) (xs : Nat → Int32) : decode (ax_code (mgT L xs) 93) 20 = .ok (.ldc 24, 2) := by
  show decode prog_5_method_6_code 20 = _
  decide +kernel
theorem d93_22 (L : Nat) (xs : Nat → Int32) : decode (ax_code (mgT L xs) 93) 22 = .ok (.invokevirtual 26, 3) := by
  show decode prog_5_method_6_code 22 = _
  decide +kernel
theorem d93_25 (L : Nat) (xs : Nat → Int32) : decode (ax_code (mgT L xs) 93) 25 = .ok (.istore_n 2, 1) := by
  show decode prog_5_method_6_code 25 = _
  decide +kernel
theorem d93_26 (L : Nat) (xs : Nat → Int32) : decode (ax_code (mgT L xs) 93) 26 = .ok (.aload_n 1, 1) := by
  show decode prog_5_method_6_code 26 = _
  decide +kernel
theorem d93_27 (L : Nat) (xs : Nat → Int32) : decode (ax_code (mgT L xs) 93) 27 = .ok (.iconst 0, 1) := by
  show decode prog_5_method_6_code 27 = _
  decide +kernel
theorem d93_28 (L : Nat) (xs : Nat → Int32) : decode (ax_code (mgT L xs) 93) 28 = .ok (.iload_n 2, 1) := by
  show decode prog_5_method_6_code 28 = _
  decide +kernel
theorem d93_29 (L : Nat) (xs : Nat → Int32) : decode (ax_code (mgT L xs) 93) 29 = .ok (.aload_n 1, 1) := by
  show decode prog_5_method_6_code 29 = _
  decide +kernel
theorem d93_30 (L : Nat) (xs : Nat → Int32) : decode (ax_code (mgT L xs) 93) 30 = .ok (.invokevirtual 32, 3) := by
  show decode prog_5_method_6_code 30 = _
  decide +kernel
theorem d93_33 (L : Nat) (xs : Nat → Int32) : decode (ax_code (mgT L xs) 93) 33 = .ok (.invokestatic 37, 3) := by
  show decode prog_5_method_6_code 33 = _
  decide +kernel
theorem d93_36 (L : Nat) (xs : Nat → Int32) : decode (ax_code (mgT L xs) 93) 36 = .ok (.ldc 24, 2) := by
  show decode prog_5_method_6_code 36 = _
  decide +kernel
theorem d93_38 (L : Nat) (xs : Nat → Int32) : decode (ax_code (mgT L xs) 93) 38 = .ok (.invokevirtual 43, 3) := by
  show decode prog_5_method_6_code 38 = _
  decide +kernel
theorem d93_41 (L : Nat) (xs : Nat → Int32) : decode (ax_code (mgT L xs) 93) 41 = .ok (.ifCond .ne 5, 3) := by
  show decode prog_5_method_6_code 41 = _
  decide +kernel
theorem d93_44 (L : Nat) (xs : Nat → Int32) : decode (ax_code (mgT L xs) 93) 44 = .ok (.iconst 0, 1) := by
  show decode prog_5_method_6_code 44 = _
  decide +kernel
theorem d93_45 (L : Nat) (xs : Nat → Int32) : decode (ax_code (mgT L xs) 93) 45 = .ok (.ireturn, 1) := by
  show decode prog_5_method_6_code 45 = _
  decide +kernel
theorem d93_46 (L : Nat) (xs : Nat → Int32) : decode (ax_code (mgT L xs) 93) 46 = .ok (.aload_n 1, 1) := by
  show decode prog_5_method_6_code 46 = _
  decide +kernel
theorem d93_47 (L : Nat) (xs : Nat → Int32) : decode (ax_code (mgT L xs) 93) 47 = .ok (.invokevirtual 32, 3) := by
  show decode prog_5_method_6_code 47 = _
  decide +kernel
theorem d93_50 (L : Nat) (xs : Nat → Int32) : decode (ax_code (mgT L xs) 93) 50 = .ok (.iload_n 2, 1) := by
  show decode prog_5_method_6_code 50 = _
  decide +kernel
theorem d93_51 (L : Nat) (xs : Nat → Int32) : decode (ax_code (mgT L xs) 93) 51 = .ok (.if_icmp .le 15, 3) := by
  show decode prog_5_method_6_code 51 = _
  decide +kernel
theorem d93_54 (L : Nat) (xs : Nat → Int32) : decode (ax_code (mgT L xs) 93) 54 = .ok (.aload_n 1, 1) := by
  show decode prog_5_method_6_code 54 = _
  decide +kernel
theorem d93_55 (L : Nat) (xs : Nat → Int32) : decode (ax_code (mgT L xs) 93) 55 = .ok (.iload_n 2, 1) := by
  show decode prog_5_method_6_code 55 = _
  decide +kernel
theorem d93_56 (L : Nat) (xs : Nat → Int32) : decode (ax_code (mgT L xs) 93) 56 = .ok (.invokevirtual 47, 3) := by
  show decode prog_5_method_6_code 56 = _
  decide +kernel
theorem d93_59 (L : Nat) (xs : Nat → Int32) : decode (ax_code (mgT L xs) 93) 59 = .ok (.bipush 59, 2) := by
  show decode prog_5_method_6_code 59 = _
  decide +kernel
theorem d93_61 (L : Nat) (xs : Nat → Int32) : decode (ax_code (mgT L xs) 93) 61 = .ok (.if_icmp .eq 5, 3) := by
  show decode prog_5_method_6_code 61 = _
  decide +kernel
theorem d93_64 (L : Nat) (xs : Nat → Int32) : decode (ax_code (mgT L xs) 93) 64 = .ok (.iconst 0, 1) := by
  show decode prog_5_method_6_code 64 = _
  decide +kernel
theorem d93_65 (L : Nat) (xs : Nat → Int32) : decode (ax_code (mgT L xs) 93) 65 = .ok (.ireturn, 1) := by
  show decode prog_5_method_6_code 65 = _
  decide +kernel
theorem d93_66 (L : Nat) (xs : Nat → Int32) : decode (ax_code (mgT L xs) 93) 66 = .ok (.iload_n 2, 1) := by
  show decode prog_5_method_6_code 66 = _
  decide +kernel
theorem d93_67 (L : Nat) (xs : Nat → Int32) : decode (ax_code (mgT L xs) 93) 67 = .ok (.iconst 1, 1) := by
  show decode prog_5_method_6_code 67 = _
  decide +kernel
theorem d93_68 (L : Nat) (xs : Nat → Int32) : decode (ax_code (mgT L xs) 93) 68 = .ok (.iadd, 1) := by
  show decode prog_5_method_6_code 68 = _
  decide +kernel
theorem d93_69 (L : Nat) (xs : Nat → Int32) : decode (ax_code (mgT L xs) 93) 69 = .ok (.istore_n 3, 1) := by
  show decode prog_5_method_6_code 69 = _
  decide +kernel
theorem d93_70 (L : Nat) (xs : Nat → Int32) : decode (ax_code (mgT L xs) 93) 70 = .ok (.iload_n 3, 1) := by
  show decode prog_5_method_6_code 70 = _
  decide +kernel
theorem d93_71 (L : Nat) (xs : Nat → Int32) : decode (ax_code (mgT L xs) 93) 71 = .ok (.istore 4, 2) := by
  show decode prog_5_method_6_code 71 = _
  decide +kernel
theorem d93_73 (L : Nat) (xs : Nat → Int32) : decode (ax_code (mgT L xs) 93) 73 = .ok (.iload 4, 2) := by
  show decode prog_5_method_6_code 73 = _
  decide +kernel
theorem d93_75 (L : Nat) (xs : Nat → Int32) : decode (ax_code (mgT L xs) 93) 75 = .ok (.aload_n 1, 1) := by
  show decode prog_5_method_6_code 75 = _
  decide +kernel
theorem d93_76 (L : Nat) (xs : Nat → Int32) : decode (ax_code (mgT L xs) 93) 76 = .ok (.invokevirtual 32, 3) := by
  show decode prog_5_method_6_code 76 = _
  decide +kernel
theorem d93_79 (L : Nat) (xs : Nat → Int32) : decode (ax_code (mgT L xs) 93) 79 = .ok (.if_icmp .gt 74, 3) := by
  show decode prog_5_method_6_code 79 = _
  decide +kernel
theorem d93_82 (L : Nat) (xs : Nat → Int32) : decode (ax_code (mgT L xs) 93) 82 = .ok (.iload 4, 2) := by
  show decode prog_5_method_6_code 82 = _
  decide +kernel
theorem d93_84 (L : Nat) (xs : Nat → Int32) : decode (ax_code (mgT L xs) 93) 84 = .ok (.aload_n 1, 1) := by
  show decode prog_5_method_6_code 84 = _
  decide +kernel
theorem d93_85 (L : Nat) (xs : Nat → Int32) : decode (ax_code (mgT L xs) 93) 85 = .ok (.invokevirtual 32, 3) := by
  show decode prog_5_method_6_code 85 = _
  decide +kernel
theorem d93_88 (L : Nat) (xs : Nat → Int32) : decode (ax_code (mgT L xs) 93) 88 = .ok (.if_icmp .eq 14, 3) := by
  show decode prog_5_method_6_code 88 = _
  decide +kernel
theorem d93_91 (L : Nat) (xs : Nat → Int32) : decode (ax_code (mgT L xs) 93) 91 = .ok (.aload_n 1, 1) := by
  show decode prog_5_method_6_code 91 = _
  decide +kernel
theorem d93_92 (L : Nat) (xs : Nat → Int32) : decode (ax_code (mgT L xs) 93) 92 = .ok (.iload 4, 2) := by
  show decode prog_5_method_6_code 92 = _
  decide +kernel
theorem d93_94 (L : Nat) (xs : Nat → Int32) : decode (ax_code (mgT L xs) 93) 94 = .ok (.invokevirtual 47, 3) := by
  show decode prog_5_method_6_code 94 = _
  decide +kernel
theorem d93_97 (L : Nat) (xs : Nat → Int32) : decode (ax_code (mgT L xs) 93) 97 = .ok (.bipush 59, 2) := by
  show decode prog_5_method_6_code 97 = _
  decide +kernel
theorem d93_99 (L : Nat) (xs : Nat → Int32) : decode (ax_code (mgT L xs) 93) 99 = .ok (.if_icmp .ne 48, 3) := by
  show decode prog_5_method_6_code 99 = _
  decide +kernel
theorem d93_102 (L : Nat) (xs : Nat → Int32) : decode (ax_code (mgT L xs) 93) 102 = .ok (.aload_n 1, 1) := by
  show decode prog_5_method_6_code 102 = _
  decide +kernel
theorem d93_103 (L : Nat) (xs : Nat → Int32) : decode (ax_code (mgT L xs) 93) 103 = .ok (.iload_n 3, 1) := by
  show decode prog_5_method_6_code 103 = _
  decide +kernel
theorem d93_104 (L : Nat) (xs : Nat → Int32) : decode (ax_code (mgT L xs) 93) 104 = .ok (.iload 4, 2) := by
  show decode prog_5_method_6_code 104 = _
  decide +kernel
theorem d93_106 (L : Nat) (xs : Nat → Int32) : decode (ax_code (mgT L xs) 93) 106 = .ok (.invokevirtual 51, 3) := by
  show decode prog_5_method_6_code 106 = _
  decide +kernel
theorem d93_109 (L : Nat) (xs : Nat → Int32) : decode (ax_code (mgT L xs) 93) 109 = .ok (.istore 5, 2) := by
  show decode prog_5_method_6_code 109 = _
  decide +kernel
theorem d93_111 (L : Nat) (xs : Nat → Int32) : decode (ax_code (mgT L xs) 93) 111 = .ok (.aload_n 1, 1) := by
  show decode prog_5_method_6_code 111 = _
  decide +kernel
theorem d93_112 (L : Nat) (xs : Nat → Int32) : decode (ax_code (mgT L xs) 93) 112 = .ok (.iload 5, 2) := by
  show decode prog_5_method_6_code 112 = _
  decide +kernel
theorem d93_114 (L : Nat) (xs : Nat → Int32) : decode (ax_code (mgT L xs) 93) 114 = .ok (.iload 4, 2) := by
  show decode prog_5_method_6_code 114 = _
  decide +kernel
theorem d93_116 (L : Nat) (xs : Nat → Int32) : decode (ax_code (mgT L xs) 93) 116 = .ok (.invokevirtual 54, 3) := by
  show decode prog_5_method_6_code 116 = _
  decide +kernel
theorem d93_119 (L : Nat) (xs : Nat → Int32) : decode (ax_code (mgT L xs) 93) 119 = .ok (.istore 6, 2) := by
  show decode prog_5_method_6_code 119 = _
  decide +kernel
theorem d93_121 (L : Nat) (xs : Nat → Int32) : decode (ax_code (mgT L xs) 93) 121 = .ok (.iload 5, 2) := by
  show decode prog_5_method_6_code 121 = _
  decide +kernel
theorem d93_123 (L : Nat) (xs : Nat → Int32) : decode (ax_code (mgT L xs) 93) 123 = .ok (.iload 6, 2) := by
  show decode prog_5_method_6_code 123 = _
  decide +kernel
theorem d93_125 (L : Nat) (xs : Nat → Int32) : decode (ax_code (mgT L xs) 93) 125 = .ok (.if_icmp .ge 17, 3) := by
  show decode prog_5_method_6_code 125 = _
  decide +kernel
theorem d93_128 (L : Nat) (xs : Nat → Int32) : decode (ax_code (mgT L xs) 93) 128 = .ok (.aload_n 0, 1) := by
  show decode prog_5_method_6_code 128 = _
  decide +kernel
theorem d93_129 (L : Nat) (xs : Nat → Int32) : decode (ax_code (mgT L xs) 93) 129 = .ok (.aload_n 1, 1) := by
  show decode prog_5_method_6_code 129 = _
  decide +kernel
theorem d93_130 (L : Nat) (xs : Nat → Int32) : decode (ax_code (mgT L xs) 93) 130 = .ok (.iload 5, 2) := by
  show decode prog_5_method_6_code 130 = _
  decide +kernel
theorem d93_132 (L : Nat) (xs : Nat → Int32) : decode (ax_code (mgT L xs) 93) 132 = .ok (.iload 6, 2) := by
  show decode prog_5_method_6_code 132 = _
  decide +kernel
theorem d93_134 (L : Nat) (xs : Nat → Int32) : decode (ax_code (mgT L xs) 93) 134 = .ok (.invokevirtual 57, 3) := by
  show decode prog_5_method_6_code 134 = _
  decide +kernel
theorem d93_137 (L : Nat) (xs : Nat → Int32) : decode (ax_code (mgT L xs) 93) 137 = .ok (.ifCond .ne 5, 3) := by
  show decode prog_5_method_6_code 137 = _
  decide +kernel
theorem d93_140 (L : Nat) (xs : Nat → Int32) : decode (ax_code (mgT L xs) 93) 140 = .ok (.iconst 0, 1) := by
  show decode prog_5_method_6_code 140 = _
  decide +kernel
theorem d93_141 (L : Nat) (xs : Nat → Int32) : decode (ax_code (mgT L xs) 93) 141 = .ok (.ireturn, 1) := by
  show decode prog_5_method_6_code 141 = _
  decide +kernel
theorem d93_142 (L : Nat) (xs : Nat → Int32) : decode (ax_code (mgT L xs) 93) 142 = .ok (.iload 4, 2) := by
  show decode prog_5_method_6_code 142 = _
  decide +kernel
theorem d93_144 (L : Nat) (xs : Nat → Int32) : decode (ax_code (mgT L xs) 93) 144 = .ok (.iconst 1, 1) := by
  show decode prog_5_method_6_code 144 = _
  decide +kernel
theorem d93_145 (L : Nat) (xs : Nat → Int32) : decode (ax_code (mgT L xs) 93) 145 = .ok (.iadd, 1) := by
  show decode prog_5_method_6_code 145 = _
  decide +kernel
theorem d93_146 (L : Nat) (xs : Nat → Int32) : decode (ax_code (mgT L xs) 93) 146 = .ok (.istore_n 3, 1) := by
  show decode prog_5_method_6_code 146 = _
  decide +kernel
theorem d93_147 (L : Nat) (xs : Nat → Int32) : decode (ax_code (mgT L xs) 93) 147 = .ok (.iinc 4 1, 3) := by
  show decode prog_5_method_6_code 147 = _
  decide +kernel
theorem d93_150 (L : Nat) (xs : Nat → Int32) : decode (ax_code (mgT L xs) 93) 150 = .ok (.goto (-77), 3) := by
  show decode prog_5_method_6_code 150 = _
  decide +kernel
theorem d93_153 (L : Nat) (xs : Nat → Int32) : decode (ax_code (mgT L xs) 93) 153 = .ok (.aload_n 0, 1) := by
  show decode prog_5_method_6_code 153 = _
  decide +kernel
theorem d93_154 (L : Nat) (xs : Nat → Int32) : decode (ax_code (mgT L xs) 93) 154 = .ok (.getfield 9, 3) := by
  show decode prog_5_method_6_code 154 = _
  decide +kernel
theorem d93_157 (L : Nat) (xs : Nat → Int32) : decode (ax_code (mgT L xs) 93) 157 = .ok (.iconst (-1), 1) := by
  show decode prog_5_method_6_code 157 = _
  decide +kernel
theorem d93_158 (L : Nat) (xs : Nat → Int32) : decode (ax_code (mgT L xs) 93) 158 = .ok (.if_icmp .eq 7, 3) := by
  show decode prog_5_method_6_code 158 = _
  decide +kernel
theorem d93_161 (L : Nat) (xs : Nat → Int32) : decode (ax_code (mgT L xs) 93) 161 = .ok (.iconst 1, 1) := by
  show decode prog_5_method_6_code 161 = _
  decide +kernel
theorem d93_162 (L : Nat) (xs : Nat → Int32) : decode (ax_code (mgT L xs) 93) 162 = .ok (.goto 4, 3) := by
  show decode prog_5_method_6_code 162 = _
  decide +kernel
theorem d93_165 (L : Nat) (xs : Nat → Int32) : decode (ax_code (mgT L xs) 93) 165 = .ok (.iconst 0, 1) := by
  show decode prog_5_method_6_code 165 = _
  decide +kernel
theorem d93_166 (L : Nat) (xs : Nat → Int32) : decode (ax_code (mgT L xs) 93) 166 = .ok (.ireturn, 1) := by
  show decode prog_5_method_6_code 166 = _
  decide +kernel
theorem d96_0 (L : Nat) (xs : Nat → Int32) : decode (ax_code (mgT L xs) 96) 0 = .ok (.iload_n 2, 1) := by
  show decode prog_5_method_7_code 0 = _
  decide +kernel
theorem d96_1 (L : Nat) (xs : Nat → Int32) : decode (ax_code (mgT L xs) 96) 1 = .ok (.istore 4, 2) := by
  show decode prog_5_method_7_code 1 = _
  decide +kernel
theorem d96_3 (L : Nat) (xs : Nat → Int32) : decode (ax_code (mgT L xs) 96) 3 = .ok (.iload 4, 2) := by
  show decode prog_5_method_7_code 3 = _
  decide +kernel
theorem d96_5 (L : Nat) (xs : Nat → Int32) : decode (ax_code (mgT L xs) 96) 5 = .ok (.iload_n 3, 1) := by
  show decode prog_5_method_7_code 5 = _
  decide +kernel
theorem d96_6 (L : Nat) (xs : Nat → Int32) : decode (ax_code (mgT L xs) 96) 6 = .ok (.if_icmp .ge 21, 3) := by
  show decode prog_5_method_7_code 6 = _
  decide +kernel
theorem d96_9 (L : Nat) (xs : Nat → Int32) : decode (ax_code (mgT L xs) 96) 9 = .ok (.aload_n 1, 1) := by
  show decode prog_5_method_7_code 9 = _
  decide +kernel
theorem d96_10 (L : Nat) (xs : Nat → Int32) : decode (ax_code (mgT L xs) 96) 10 = .ok (.iload 4, 2) := by
  show decode prog_5_method_7_code 10 = _
  decide +kernel
theorem d96_12 (L : Nat) (xs : Nat → Int32) : decode (ax_code (mgT L xs) 96) 12 = .ok (.invokevirtual 47, 3) := by
  show decode prog_5_method_7_code 12 = _
  decide +kernel
theorem d96_15 (L : Nat) (xs : Nat → Int32) : decode (ax_code (mgT L xs) 96) 15 = .ok (.invokestatic 61, 3) := by
  show decode prog_5_method_7_code 15 = _
  decide +kernel
theorem d96_18 (L : Nat) (xs : Nat → Int32) : decode (ax_code (mgT L xs) 96) 18 = .ok (.ifCond .eq 9, 3) := by
  show decode prog_5_method_7_code 18 = _
  decide +kernel
theorem d96_21 (L : Nat) (xs : Nat → Int32) : decode (ax_code (mgT L xs) 96) 21 = .ok (.iinc 4 1, 3) := by
  show decode prog_5_method_7_code 21 = _
  decide +kernel
theorem d96_24 (L : Nat) (xs : Nat → Int32) : decode (ax_code (mgT L xs) 96) 24 = .ok (.goto (-21), 3) := by
  show decode prog_5_method_7_code 24 = _
  decide +kernel
theorem d96_27 (L : Nat) (xs : Nat → Int32) : decode (ax_code (mgT L xs) 96) 27 = .ok (.iload 4, 2) := by
  show decode prog_5_method_7_code 27 = _
  decide +kernel
theorem d96_29 (L : Nat) (xs : Nat → Int32) : decode (ax_code (mgT L xs) 96) 29 = .ok (.iconst 1, 1) := by
  show decode prog_5_method_7_code 29 = _
  decide +kernel
theorem d96_30 (L : Nat) (xs : Nat → Int32) : decode (ax_code (mgT L xs) 96) 30 = .ok (.iadd, 1) := by
  show decode prog_5_method_7_code 30 = _
  decide +kernel
theorem d96_31 (L : Nat) (xs : Nat → Int32) : decode (ax_code (mgT L xs) 96) 31 = .ok (.istore 5, 2) := by
  show decode prog_5_method_7_code 31 = _
  decide +kernel
theorem d96_33 (L : Nat) (xs : Nat → Int32) : decode (ax_code (mgT L xs) 96) 33 = .ok (.iload 4, 2) := by
  show decode prog_5_method_7_code 33 = _
  decide +kernel
theorem d96_35 (L : Nat) (xs : Nat → Int32) : decode (ax_code (mgT L xs) 96) 35 = .ok (.iload_n 2, 1) := by
  show decode prog_5_method_7_code 35 = _
  decide +kernel
theorem d96_36 (L : Nat) (xs : Nat → Int32) : decode (ax_code (mgT L xs) 96) 36 = .ok (.if_icmp .eq 33, 3) := by
  show decode prog_5_method_7_code 36 = _
  decide +kernel
theorem d96_39 (L : Nat) (xs : Nat → Int32) : decode (ax_code (mgT L xs) 96) 39 = .ok (.aload_n 1, 1) := by
  show decode prog_5_method_7_code 39 = _
  decide +kernel
theorem d96_40 (L : Nat) (xs : Nat → Int32) : decode (ax_code (mgT L xs) 96) 40 = .ok (.iload 4, 2) := by
  show decode prog_5_method_7_code 40 = _
  decide +kernel
theorem d96_42 (L : Nat) (xs : Nat → Int32) : decode (ax_code (mgT L xs) 96) 42 = .ok (.invokevirtual 47, 3) := by
  show decode prog_5_method_7_code 42 = _
  decide +kernel
theorem d96_45 (L : Nat) (xs : Nat → Int32) : decode (ax_code (mgT L xs) 96) 45 = .ok (.bipush 61, 2) := by
  show decode prog_5_method_7_code 45 = _
  decide +kernel
theorem d96_47 (L : Nat) (xs : Nat → Int32) : decode (ax_code (mgT L xs) 96) 47 = .ok (.if_icmp .ne 22, 3) := by
  show decode prog_5_method_7_code 47 = _
  decide +kernel
theorem d96_50 (L : Nat) (xs : Nat → Int32) : decode (ax_code (mgT L xs) 96) 50 = .ok (.iload 5, 2) := by
  show decode prog_5_method_7_code 50 = _
  decide +kernel
theorem d96_52 (L : Nat) (xs : Nat → Int32) : decode (ax_code (mgT L xs) 96) 52 = .ok (.iload_n 3, 1) := by
  show decode prog_5_method_7_code 52 = _
  decide +kernel
theorem d96_53 (L : Nat) (xs : Nat → Int32) : decode (ax_code (mgT L xs) 96) 53 = .ok (.if_icmp .ge 16, 3) := by
  show decode prog_5_method_7_code 53 = _
  decide +kernel
theorem d96_56 (L : Nat) (xs : Nat → Int32) : decode (ax_code (mgT L xs) 96) 56 = .ok (.aload_n 1, 1) := by
  show decode prog_5_method_7_code 56 = _
  decide +kernel
theorem d96_57 (L : Nat) (xs : Nat → Int32) : decode (ax_code (mgT L xs) 96) 57 = .ok (.bipush 32, 2) := by
  show decode prog_5_method_7_code 57 = _
  decide +kernel
theorem d96_59 (L : Nat) (xs : Nat → Int32) : decode (ax_code (mgT L xs) 96) 59 = .ok (.iload 5, 2) := by
  show decode prog_5_method_7_code 59 = _
  decide +kernel
theorem d96_61 (L : Nat) (xs : Nat → Int32) : decode (ax_code (mgT L xs) 96) 61 = .ok (.iload_n 3, 1) := by
  show decode prog_5_method_7_code 61 = _
  decide +kernel
theorem d96_62 (L : Nat) (xs : Nat → Int32) : decode (ax_code (mgT L xs) 96) 62 = .ok (.invokevirtual 65, 3) := by
  show decode prog_5_method_7_code 62 = _
  decide +kernel
theorem d96_65 (L : Nat) (xs : Nat → Int32) : decode (ax_code (mgT L xs) 96) 65 = .ok (.iload_n 3, 1) := by
  show decode prog_5_method_7_code 65 = _
  decide +kernel
theorem d96_66 (L : Nat) (xs : Nat → Int32) : decode (ax_code (mgT L xs) 96) 66 = .ok (.if_icmp .ge 5, 3) := by
  show decode prog_5_method_7_code 66 = _
  decide +kernel
theorem d96_69 (L : Nat) (xs : Nat → Int32) : decode (ax_code (mgT L xs) 96) 69 = .ok (.iconst 0, 1) := by
  show decode prog_5_method_7_code 69 = _
  decide +kernel
theorem d96_70 (L : Nat) (xs : Nat → Int32) : decode (ax_code (mgT L xs) 96) 70 = .ok (.ireturn, 1) := by
  show decode prog_5_method_7_code 70 = _
  decide +kernel
theorem d96_71 (L : Nat) (xs : Nat → Int32) : decode (ax_code (mgT L xs) 96) 71 = .ok (.aload_n 0, 1) := by
  show decode prog_5_method_7_code 71 = _
  decide +kernel
theorem d96_72 (L : Nat) (xs : Nat → Int32) : decode (ax_code (mgT L xs) 96) 72 = .ok (.getfield 9, 3) := by
  show decode prog_5_method_7_code 72 = _
  decide +kernel
theorem d96_75 (L : Nat) (xs : Nat → Int32) : decode (ax_code (mgT L xs) 96) 75 = .ok (.iconst (-1), 1) := by
  show decode prog_5_method_7_code 75 = _
  decide +kernel
theorem d96_76 (L : Nat) (xs : Nat → Int32) : decode (ax_code (mgT L xs) 96) 76 = .ok (.if_icmp .ne 40, 3) := by
  show decode prog_5_method_7_code 76 = _
  decide +kernel
theorem d96_79 (L : Nat) (xs : Nat → Int32) : decode (ax_code (mgT L xs) 96) 79 = .ok (.aload_n 1, 1) := by
  show decode prog_5_method_7_code 79 = _
  decide +kernel
theorem d96_80 (L : Nat) (xs : Nat → Int32) : decode (ax_code (mgT L xs) 96) 80 = .ok (.iload_n 2, 1) := by
  show decode prog_5_method_7_code 80 = _
  decide +kernel
theorem d96_81 (L : Nat) (xs : Nat → Int32) : decode (ax_code (mgT L xs) 96) 81 = .ok (.iload 4, 2) := by
  show decode prog_5_method_7_code 81 = _
  decide +kernel
theorem d96_83 (L : Nat) (xs : Nat → Int32) : decode (ax_code (mgT L xs) 96) 83 = .ok (.ldc 69, 2) := by
  show decode prog_5_method_7_code 83 = _
  decide +kernel
theorem d96_85 (L : Nat) (xs : Nat → Int32) : decode (ax_code (mgT L xs) 96) 85 = .ok (.invokevirtual 43, 3) := by
  show decode prog_5_method_7_code 85 = _
  decide +kernel
theorem d96_88 (L : Nat) (xs : Nat → Int32) : decode (ax_code (mgT L xs) 96) 88 = .ok (.ifCond .eq 28, 3) := by
  show decode prog_5_method_7_code 88 = _
  decide +kernel
theorem d96_91 (L : Nat) (xs : Nat → Int32) : decode (ax_code (mgT L xs) 96) 91 = .ok (.aload_n 0, 1) := by
  show decode prog_5_method_7_code 91 = _
  decide +kernel
theorem d96_92 (L : Nat) (xs : Nat → Int32) : decode (ax_code (mgT L xs) 96) 92 = .ok (.aload_n 1, 1) := by
  show decode prog_5_method_7_code 92 = _
  decide +kernel
theorem d96_93 (L : Nat) (xs : Nat → Int32) : decode (ax_code (mgT L xs) 96) 93 = .ok (.iload 5, 2) := by
  show decode prog_5_method_7_code 93 = _
  decide +kernel
theorem d96_95 (L : Nat) (xs : Nat → Int32) : decode (ax_code (mgT L xs) 96) 95 = .ok (.iload_n 3, 1) := by
  show decode prog_5_method_7_code 95 = _
  decide +kernel
theorem d96_96 (L : Nat) (xs : Nat → Int32) : decode (ax_code (mgT L xs) 96) 96 = .ok (.invokestatic 71, 3) := by
  show decode prog_5_method_7_code 96 = _
  decide +kernel
theorem d96_99 (L : Nat) (xs : Nat → Int32) : decode (ax_code (mgT L xs) 96) 99 = .ok (.putfield 9, 3) := by
  show decode prog_5_method_7_code 99 = _
  decide +kernel
theorem d96_102 (L : Nat) (xs : Nat → Int32) : decode (ax_code (mgT L xs) 96) 102 = .ok (.aload_n 0, 1) := by
  show decode prog_5_method_7_code 102 = _
  decide +kernel
theorem d96_103 (L : Nat) (xs : Nat → Int32) : decode (ax_code (mgT L xs) 96) 103 = .ok (.getfield 9, 3) := by
  show decode prog_5_method_7_code 103 = _
  decide +kernel
theorem d96_106 (L : Nat) (xs : Nat → Int32) : decode (ax_code (mgT L xs) 96) 106 = .ok (.iconst (-1), 1) := by
  show decode prog_5_method_7_code 106 = _
  decide +kernel
theorem d96_107 (L : Nat) (xs : Nat → Int32) : decode (ax_code (mgT L xs) 96) 107 = .ok (.if_icmp .eq 7, 3) := by
  show decode prog_5_method_7_code 107 = _
  decide +kernel
theorem d96_110 (L : Nat) (xs : Nat → Int32) : decode (ax_code (mgT L xs) 96) 110 = .ok (.iconst 1, 1) := by
  show decode prog_5_method_7_code 110 = _
  decide +kernel
theorem d96_111 (L : Nat) (xs : Nat → Int32) : decode (ax_code (mgT L xs) 96) 111 = .ok (.goto 4, 3) := by
  show decode prog_5_method_7_code 111 = _
  decide +kernel
theorem d96_114 (L : Nat) (xs : Nat → Int32) : decode (ax_code (mgT L xs) 96) 114 = .ok (.iconst 0, 1) := by
  show decode prog_5_method_7_code 114 = _
  decide +kernel
theorem d96_115 (L : Nat) (xs : Nat → Int32) : decode (ax_code (mgT L xs) 96) 115 = .ok (.ireturn, 1) := by
  show decode prog_5_method_7_code 115 = _
  decide +kernel
theorem d96_116 (L : Nat) (xs : Nat → Int32) : decode (ax_code (mgT L xs) 96) 116 = .ok (.aload_n 0, 1) := by
  show decode prog_5_method_7_code 116 = _
  decide +kernel
theorem d96_117 (L : Nat) (xs : Nat → Int32) : decode (ax_code (mgT L xs) 96) 117 = .ok (.getfield 15, 3) := by
  show decode prog_5_method_7_code 117 = _
  decide +kernel
theorem d96_120 (L : Nat) (xs : Nat → Int32) : decode (ax_code (mgT L xs) 96) 120 = .ok (.iconst (-1), 1) := by
  show decode prog_5_method_7_code 120 = _
  decide +kernel
theorem d96_121 (L : Nat) (xs : Nat → Int32) : decode (ax_code (mgT L xs) 96) 121 = .ok (.if_icmp .ne 40, 3) := by
  show decode prog_5_method_7_code 121 = _
  decide +kernel
theorem d96_124 (L : Nat) (xs : Nat → Int32) : decode (ax_code (mgT L xs) 96) 124 = .ok (.aload_n 1, 1) := by
  show decode prog_5_method_7_code 124 = _
  decide +kernel
theorem d96_125 (L : Nat) (xs : Nat → Int32) : decode (ax_code (mgT L xs) 96) 125 = .ok (.iload_n 2, 1) := by
  show decode prog_5_method_7_code 125 = _
  decide +kernel
theorem d96_126 (L : Nat) (xs : Nat → Int32) : decode (ax_code (mgT L xs) 96) 126 = .ok (.iload 4, 2) := by
  show decode prog_5_method_7_code 126 = _
  decide +kernel
theorem d96_128 (L : Nat) (xs : Nat → Int32) : decode (ax_code (mgT L xs) 96) 128 = .ok (.ldc 75, 2) := by
  show decode prog_5_method_7_code 128 = _
  decide +kernel
theorem d96_130 (L : Nat) (xs : Nat → Int32) : decode (ax_code (mgT L xs) 96) 130 = .ok (.invokevirtual 43, 3) := by
  show decode prog_5_method_7_code 130 = _
  decide +kernel
theorem d96_133 (L : Nat) (xs : Nat → Int32) : decode (ax_code (mgT L xs) 96) 133 = .ok (.ifCond .eq 28, 3) := by
  show decode prog_5_method_7_code 133 = _
  decide +kernel
theorem d96_136 (L : Nat) (xs : Nat → Int32) : decode (ax_code (mgT L xs) 96) 136 = .ok (.aload_n 0, 1) := by
  show decode prog_5_method_7_code 136 = _
  decide +kernel
theorem d96_137 (L : Nat) (xs : Nat → Int32) : decode (ax_code (mgT L xs) 96) 137 = .ok (.aload_n 1, 1) := by
  show decode prog_5_method_7_code 137 = _
  decide +kernel
theorem d96_138 (L : Nat) (xs : Nat → Int32) : decode (ax_code (mgT L xs) 96) 138 = .ok (.iload 5, 2) := by
  show decode prog_5_method_7_code 138 = _
  decide +kernel
theorem d96_140 (L : Nat) (xs : Nat → Int32) : decode (ax_code (mgT L xs) 96) 140 = .ok (.iload_n 3, 1) := by
  show decode prog_5_method_7_code 140 = _
  decide +kernel
theorem d96_141 (L : Nat) (xs : Nat → Int32) : decode (ax_code (mgT L xs) 96) 141 = .ok (.invokestatic 71, 3) := by
  show decode prog_5_method_7_code 141 = _
  decide +kernel
theorem d96_144 (L : Nat) (xs : Nat → Int32) : decode (ax_code (mgT L xs) 96) 144 = .ok (.putfield 15, 3) := by
  show decode prog_5_method_7_code 144 = _
  decide +kernel
theorem d96_147 (L : Nat) (xs : Nat → Int32) : decode (ax_code (mgT L xs) 96) 147 = .ok (.aload_n 0, 1) := by
  show decode prog_5_method_7_code 147 = _
  decide +kernel
theorem d96_148 (L : Nat) (xs : Nat → Int32) : decode (ax_code (mgT L xs) 96) 148 = .ok (.getfield 15, 3) := by
  show decode prog_5_method_7_code 148 = _
  decide +kernel
theorem d96_151 (L : Nat) (xs : Nat → Int32) : decode (ax_code (mgT L xs) 96) 151 = .ok (.iconst (-1), 1) := by
  show decode prog_5_method_7_code 151 = _
  decide +kernel
theorem d96_152 (L : Nat) (xs : Nat → Int32) : decode (ax_code (mgT L xs) 96) 152 = .ok (.if_icmp .eq 7, 3) := by
  show decode prog_5_method_7_code 152 = _
  decide +kernel
theorem d96_155 (L : Nat) (xs : Nat → Int32) : decode (ax_code (mgT L xs) 96) 155 = .ok (.iconst 1, 1) := by
  show decode prog_5_method_7_code 155 = _
  decide +kernel
theorem d96_156 (L : Nat) (xs : Nat → Int32) : decode (ax_code (mgT L xs) 96) 156 = .ok (.goto 4, 3) := by
  show decode prog_5_method_7_code 156 = _
  decide +kernel
theorem d96_159 (L : Nat) (xs : Nat → Int32) : decode (ax_code (mgT L xs) 96) 159 = .ok (.iconst 0, 1) := by
  show decode prog_5_method_7_code 159 = _
  decide +kernel
theorem d96_160 (L : Nat) (xs : Nat → Int32) : decode (ax_code (mgT L xs) 96) 160 = .ok (.ireturn, 1) := by
  show decode prog_5_method_7_code 160 = _
  decide +kernel
theorem d96_161 (L : Nat) (xs : Nat → Int32) : decode (ax_code (mgT L xs) 96) 161 = .ok (.aload_n 0, 1) := by
  show decode prog_5_method_7_code 161 = _
  decide +kernel
theorem d96_162 (L : Nat) (xs : Nat → Int32) : decode (ax_code (mgT L xs) 96) 162 = .ok (.getfield 18, 3) := by
  show decode prog_5_method_7_code 162 = _
  decide +kernel
theorem d96_165 (L : Nat) (xs : Nat → Int32) : decode (ax_code (mgT L xs) 96) 165 = .ok (.iconst (-1), 1) := by
  show decode prog_5_method_7_code 165 = _
  decide +kernel
theorem d96_166 (L : Nat) (xs : Nat → Int32) : decode (ax_code (mgT L xs) 96) 166 = .ok (.if_icmp .ne 40, 3) := by
  show decode prog_5_method_7_code 166 = _
  decide +kernel
theorem d96_169 (L : Nat) (xs : Nat → Int32) : decode (ax_code (mgT L xs) 96) 169 = .ok (.aload_n 1, 1) := by
  show decode prog_5_method_7_code 169 = _
  decide +kernel
theorem d96_170 (L : Nat) (xs : Nat → Int32) : decode (ax_code (mgT L xs) 96) 170 = .ok (.iload_n 2, 1) := by
  show decode prog_5_method_7_code 170 = _
  decide +kernel
theorem d96_171 (L : Nat) (xs : Nat → Int32) : decode (ax_code (mgT L xs) 96) 171 = .ok (.iload 4, 2) := by
  show decode prog_5_method_7_code 171 = _
  decide +kernel
theorem d96_173 (L : Nat) (xs : Nat → Int32) : decode (ax_code (mgT L xs) 96) 173 = .ok (.ldc 77, 2) := by
  show decode prog_5_method_7_code 173 = _
  decide +kernel
theorem d96_175 (L : Nat) (xs : Nat → Int32) : decode (ax_code (mgT L xs) 96) 175 = .ok (.invokevirtual 43, 3) := by
  show decode prog_5_method_7_code 175 = _
  decide +kernel
theorem d96_178 (L : Nat) (xs : Nat → Int32) : decode (ax_code (mgT L xs) 96) 178 = .ok (.ifCond .eq 28, 3) := by
  show decode prog_5_method_7_code 178 = _
  decide +kernel
theorem d96_181 (L : Nat) (xs : Nat → Int32) : decode (ax_code (mgT L xs) 96) 181 = .ok (.aload_n 0, 1) := by
  show decode prog_5_method_7_code 181 = _
  decide +kernel
theorem d96_182 (L : Nat) (xs : Nat → Int32) : decode (ax_code (mgT L xs) 96) 182 = .ok (.aload_n 1, 1) := by
  show decode prog_5_method_7_code 182 = _
  decide +kernel
theorem d96_183 (L : Nat) (xs : Nat → Int32) : decode (ax_code (mgT L xs) 96) 183 = .ok (.iload 5, 2) := by
  show decode prog_5_method_7_code 183 = _
  decide +kernel
theorem d96_185 (L : Nat) (xs : Nat → Int32) : decode (ax_code (mgT L xs) 96) 185 = .ok (.iload_n 3, 1) := by
  show decode prog_5_method_7_code 185 = _
  decide +kernel
theorem d96_186 (L : Nat) (xs : Nat → Int32) : decode (ax_code (mgT L xs) 96) 186 = .ok (.invokestatic 79, 3) := by
  show decode prog_5_method_7_code 186 = _
  decide +kernel
theorem d96_189 (L : Nat) (xs : Nat → Int32) : decode (ax_code (mgT L xs) 96) 189 = .ok (.putfield 18, 3) := by
  show decode prog_5_method_7_code 189 = _
  decide +kernel
theorem d96_192 (L : Nat) (xs : Nat → Int32) : decode (ax_code (mgT L xs) 96) 192 = .ok (.aload_n 0, 1) := by
  show decode prog_5_method_7_code 192 = _
  decide +kernel
theorem d96_193 (L : Nat) (xs : Nat → Int32) : decode (ax_code (mgT L xs) 96) 193 = .ok (.getfield 18, 3) := by
  show decode prog_5_method_7_code 193 = _
  decide +kernel
theorem d96_196 (L : Nat) (xs : Nat → Int32) : decode (ax_code (mgT L xs) 96) 196 = .ok (.iconst (-1), 1) := by
  show decode prog_5_method_7_code 196 = _
  decide +kernel
theorem d96_197 (L : Nat) (xs : Nat → Int32) : decode (ax_code (mgT L xs) 96) 197 = .ok (.if_icmp .eq 7, 3) := by
  show decode prog_5_method_7_code 197 = _
  decide +kernel
theorem d96_200 (L : Nat) (xs : Nat → Int32) : decode (ax_code (mgT L xs) 96) 200 = .ok (.iconst 1, 1) := by
  show decode prog_5_method_7_code 200 = _
  decide +kernel
theorem d96_201 (L : Nat) (xs : Nat → Int32) : decode (ax_code (mgT L xs) 96) 201 = .ok (.goto 4, 3) := by
  show decode prog_5_method_7_code 201 = _
  decide +kernel
theorem d96_204 (L : Nat) (xs : Nat → Int32) : decode (ax_code (mgT L xs) 96) 204 = .ok (.iconst 0, 1) := by
  show decode prog_5_method_7_code 204 = _
  decide +kernel
theorem d96_205 (L : Nat) (xs : Nat → Int32) : decode (ax_code (mgT L xs) 96) 205 = .ok (.ireturn, 1) := by
  show decode prog_5_method_7_code 205 = _
  decide +kernel
theorem d96_206 (L : Nat) (xs : Nat → Int32) : decode (ax_code (mgT L xs) 96) 206 = .ok (.aload_n 0, 1) := by
  show decode prog_5_method_7_code 206 = _
  decide +kernel
theorem d96_207 (L : Nat) (xs : Nat → Int32) : decode (ax_code (mgT L xs) 96) 207 = .ok (.getfield 21, 3) := by
  show decode prog_5_method_7_code 207 = _
  decide +kernel
theorem d96_210 (L : Nat) (xs : Nat → Int32) : decode (ax_code (mgT L xs) 96) 210 = .ok (.iconst (-1), 1) := by
  show decode prog_5_method_7_code 210 = _
  decide +kernel
theorem d96_211 (L : Nat) (xs : Nat → Int32) : decode (ax_code (mgT L xs) 96) 211 = .ok (.if_icmp .ne 42, 3) := by
  show decode prog_5_method_7_code 211 = _
  decide +kernel
theorem d96_214 (L : Nat) (xs : Nat → Int32) : decode (ax_code (mgT L xs) 96) 214 = .ok (.aload_n 1, 1) := by
  show decode prog_5_method_7_code 214 = _
  decide +kernel
theorem d96_215 (L : Nat) (xs : Nat → Int32) : decode (ax_code (mgT L xs) 96) 215 = .ok (.iload_n 2, 1) := by
  show decode prog_5_method_7_code 215 = _
  decide +kernel
theorem d96_216 (L : Nat) (xs : Nat → Int32) : decode (ax_code (mgT L xs) 96) 216 = .ok (.iload 4, 2) := by
  show decode prog_5_method_7_code 216 = _
  decide +kernel
theorem d96_218 (L : Nat) (xs : Nat → Int32) : decode (ax_code (mgT L xs) 96) 218 = .ok (.ldc 82, 2) := by
  show decode prog_5_method_7_code 218 = _
  decide +kernel
theorem d96_220 (L : Nat) (xs : Nat → Int32) : decode (ax_code (mgT L xs) 96) 220 = .ok (.invokevirtual 43, 3) := by
  show decode prog_5_method_7_code 220 = _
  decide +kernel
theorem d96_223 (L : Nat) (xs : Nat → Int32) : decode (ax_code (mgT L xs) 96) 223 = .ok (.ifCond .eq 30, 3) := by
  show decode prog_5_method_7_code 223 = _
  decide +kernel
theorem d96_226 (L : Nat) (xs : Nat → Int32) : decode (ax_code (mgT L xs) 96) 226 = .ok (.aload_n 0, 1) := by
  show decode prog_5_method_7_code 226 = _
  decide +kernel
theorem d96_227 (L : Nat) (xs : Nat → Int32) : decode (ax_code (mgT L xs) 96) 227 = .ok (.aload_n 1, 1) := by
  show decode prog_5_method_7_code 227 = _
  decide +kernel
theorem d96_228 (L : Nat) (xs : Nat → Int32) : decode (ax_code (mgT L xs) 96) 228 = .ok (.iload 5, 2) := by
  show decode prog_5_method_7_code 228 = _
  decide +kernel
theorem d96_230 (L : Nat) (xs : Nat → Int32) : decode (ax_code (mgT L xs) 96) 230 = .ok (.iload_n 3, 1) := by
  show decode prog_5_method_7_code 230 = _
  decide +kernel
theorem d96_231 (L : Nat) (xs : Nat → Int32) : decode (ax_code (mgT L xs) 96) 231 = .ok (.bipush 100, 2) := by
  show decode prog_5_method_7_code 231 = _
  decide +kernel
theorem d96_233 (L : Nat) (xs : Nat → Int32) : decode (ax_code (mgT L xs) 96) 233 = .ok (.invokevirtual 84, 3) := by
  show decode prog_5_method_7_code 233 = _
  decide +kernel
theorem d96_236 (L : Nat) (xs : Nat → Int32) : decode (ax_code (mgT L xs) 96) 236 = .ok (.putfield 21, 3) := by
  show decode prog_5_method_7_code 236 = _
  decide +kernel
theorem d96_239 (L : Nat) (xs : Nat → Int32) : decode (ax_code (mgT L xs) 96) 239 = .ok (.aload_n 0, 1) := by
  show decode prog_5_method_7_code 239 = _
  decide +kernel
theorem d96_240 (L : Nat) (xs : Nat → Int32) : decode (ax_code (mgT L xs) 96) 240 = .ok (.getfield 21, 3) := by
  show decode prog_5_method_7_code 240 = _
  decide +kernel
theorem d96_243 (L : Nat) (xs : Nat → Int32) : decode (ax_code (mgT L xs) 96) 243 = .ok (.iconst (-1), 1) := by
  show decode prog_5_method_7_code 243 = _
  decide +kernel
theorem d96_244 (L : Nat) (xs : Nat → Int32) : decode (ax_code (mgT L xs) 96) 244 = .ok (.if_icmp .eq 7, 3) := by
  show decode prog_5_method_7_code 244 = _
  decide +kernel
theorem d96_247 (L : Nat) (xs : Nat → Int32) : decode (ax_code (mgT L xs) 96) 247 = .ok (.iconst 1, 1) := by
  show decode prog_5_method_7_code 247 = _
  decide +kernel
theorem d96_248 (L : Nat) (xs : Nat → Int32) : decode (ax_code (mgT L xs) 96) 248 = .ok (.goto 4, 3) := by
  show decode prog_5_method_7_code 248 = _
  decide +kernel
theorem d96_251 (L : Nat) (xs : Nat → Int32) : decode (ax_code (mgT L xs) 96) 251 = .ok (.iconst 0, 1) := by
  show decode prog_5_method_7_code 251 = _
  decide +kernel
theorem d96_252 (L : Nat) (xs : Nat → Int32) : decode (ax_code (mgT L xs) 96) 252 = .ok (.ireturn, 1) := by
  show decode prog_5_method_7_code 252 = _
  decide +kernel
theorem d96_253 (L : Nat) (xs : Nat → Int32) : decode (ax_code (mgT L xs) 96) 253 = .ok (.iconst 1, 1) := by
  show decode prog_5_method_7_code 253 = _
  decide +kernel
theorem d96_254 (L : Nat) (xs : Nat → Int32) : decode (ax_code (mgT L xs) 96) 254 = .ok (.ireturn, 1) := by
  show decode prog_5_method_7_code 254 = _
  decide +kernel
theorem d97_0 (L : Nat) (xs : Nat → Int32) : decode (ax_code (mgT L xs) 97) 0 = .ok (.aload_n 0, 1) := by
  show decode prog_5_method_8_code 0 = _
  decide +kernel
theorem d97_1 (L : Nat) (xs : Nat → Int32) : decode (ax_code (mgT L xs) 97) 1 = .ok (.iload_n 1, 1) := by
  show decode prog_5_method_8_code 1 = _
  decide +kernel
theorem d97_2 (L : Nat) (xs : Nat → Int32) : decode (ax_code (mgT L xs) 97) 2 = .ok (.iload_n 2, 1) := by
  show decode prog_5_method_8_code 2 = _
  decide +kernel
theorem d97_3 (L : Nat) (xs : Nat → Int32) : decode (ax_code (mgT L xs) 97) 3 = .ok (.ldc 88, 2) := by
  show decode prog_5_method_8_code 3 = _
  decide +kernel
theorem d97_5 (L : Nat) (xs : Nat → Int32) : decode (ax_code (mgT L xs) 97) 5 = .ok (.invokevirtual 43, 3) := by
  show decode prog_5_method_8_code 5 = _
  decide +kernel
theorem d97_8 (L : Nat) (xs : Nat → Int32) : decode (ax_code (mgT L xs) 97) 8 = .ok (.ifCond .eq 5, 3) := by
  show decode prog_5_method_8_code 8 = _
  decide +kernel
theorem d97_11 (L : Nat) (xs : Nat → Int32) : decode (ax_code (mgT L xs) 97) 11 = .ok (.iconst 2, 1) := by
  show decode prog_5_method_8_code 11 = _
  decide +kernel
theorem d97_12 (L : Nat) (xs : Nat → Int32) : decode (ax_code (mgT L xs) 97) 12 = .ok (.ireturn, 1) := by
  show decode prog_5_method_8_code 12 = _
  decide +kernel
theorem d97_13 (L : Nat) (xs : Nat → Int32) : decode (ax_code (mgT L xs) 97) 13 = .ok (.aload_n 0, 1) := by
  show decode prog_5_method_8_code 13 = _
  decide +kernel
theorem d97_14 (L : Nat) (xs : Nat → Int32) : decode (ax_code (mgT L xs) 97) 14 = .ok (.iload_n 1, 1) := by
  show decode prog_5_method_8_code 14 = _
  decide +kernel
theorem d97_15 (L : Nat) (xs : Nat → Int32) : decode (ax_code (mgT L xs) 97) 15 = .ok (.iload_n 2, 1) := by
  show decode prog_5_method_8_code 15 = _
  decide +kernel
theorem d97_16 (L : Nat) (xs : Nat → Int32) : decode (ax_code (mgT L xs) 97) 16 = .ok (.ldc 92, 2) := by
  show decode prog_5_method_8_code 16 = _
  decide +kernel
theorem d97_18 (L : Nat) (xs : Nat → Int32) : decode (ax_code (mgT L xs) 97) 18 = .ok (.invokevirtual 43, 3) := by
  show decode prog_5_method_8_code 18 = _
  decide +kernel
theorem d97_21 (L : Nat) (xs : Nat → Int32) : decode (ax_code (mgT L xs) 97) 21 = .ok (.ifCond .eq 5, 3) := by
  show decode prog_5_method_8_code 21 = _
  decide +kernel
theorem d97_24 (L : Nat) (xs : Nat → Int32) : decode (ax_code (mgT L xs) 97) 24 = .ok (.iconst 3, 1) := by
  show decode prog_5_method_8_code 24 = _
  decide +kernel
theorem d97_25 (L : Nat) (xs : Nat → Int32) : decode (ax_code (mgT L xs) 97) 25 = .ok (.ireturn, 1) := by
  show decode prog_5_method_8_code 25 = _
  decide +kernel
theorem d97_26 (L : Nat) (xs : Nat → Int32) : decode (ax_code (mgT L xs) 97) 26 = .ok (.aload_n 0, 1) := by
  show decode prog_5_method_8_code 26 = _
  decide +kernel
theorem d97_27 (L : Nat) (xs : Nat → Int32) : decode (ax_code (mgT L xs) 97) 27 = .ok (.iload_n 1, 1) := by
  show decode prog_5_method_8_code 27 = _
  decide +kernel
theorem d97_28 (L : Nat) (xs : Nat → Int32) : decode (ax_code (mgT L xs) 97) 28 = .ok (.iload_n 2, 1) := by
  show decode prog_5_method_8_code 28 = _
  decide +kernel
theorem d97_29 (L : Nat) (xs : Nat → Int32) : decode (ax_code (mgT L xs) 97) 29 = .ok (.ldc 94, 2) := by
  show decode prog_5_method_8_code 29 = _
  decide +kernel
theorem d97_31 (L : Nat) (xs : Nat → Int32) : decode (ax_code (mgT L xs) 97) 31 = .ok (.invokevirtual 43, 3) := by
  show decode prog_5_method_8_code 31 = _
  decide +kernel
theorem d97_34 (L : Nat) (xs : Nat → Int32) : decode (ax_code (mgT L xs) 97) 34 = .ok (.ifCond .eq 7, 3) := by
  show decode prog_5_method_8_code 34 = _
  decide +kernel
theorem d97_37 (L : Nat) (xs : Nat → Int32) : decode (ax_code (mgT L xs) 97) 37 = .ok (.iconst 4, 1) := by
  show decode prog_5_method_8_code 37 = _
  decide +kernel
theorem d97_38 (L : Nat) (xs : Nat → Int32) : decode (ax_code (mgT L xs) 97) 38 = .ok (.goto 4, 3) := by
  show decode prog_5_method_8_code 38 = _
  decide +kernel
theorem d97_41 (L : Nat) (xs : Nat → Int32) : decode (ax_code (mgT L xs) 97) 41 = .ok (.iconst (-1), 1) := by
  show decode prog_5_method_8_code 41 = _
  decide +kernel
theorem d97_42 (L : Nat) (xs : Nat → Int32) : decode (ax_code (mgT L xs) 97) 42 = .ok (.ireturn, 1) := by
  show decode prog_5_method_8_code 42 = _
  decide +kernel
theorem d98_0 (L : Nat) (xs : Nat → Int32) : decode (ax_code (mgT L xs) 98) 0 = .ok (.aload_n 0, 1) := by
  show decode prog_5_method_9_code 0 = _
  decide +kernel
theorem d98_1 (L : Nat) (xs : Nat → Int32) : decode (ax_code (mgT L xs) 98) 1 = .ok (.iload_n 1, 1) := by
  show decode prog_5_method_9_code 1 = _
  decide +kernel
theorem d98_2 (L : Nat) (xs : Nat → Int32) : decode (ax_code (mgT L xs) 98) 2 = .ok (.iload_n 2, 1) := by
  show decode prog_5_method_9_code 2 = _
  decide +kernel
theorem d98_3 (L : Nat) (xs : Nat → Int32) : decode (ax_code (mgT L xs) 98) 3 = .ok (.ldc 96, 2) := by
  show decode prog_5_method_9_code 3 = _
  decide +kernel
theorem d98_5 (L : Nat) (xs : Nat → Int32) : decode (ax_code (mgT L xs) 98) 5 = .ok (.invokevirtual 43, 3) := by
  show decode prog_5_method_9_code 5 = _
  decide +kernel
theorem d98_8 (L : Nat) (xs : Nat → Int32) : decode (ax_code (mgT L xs) 98) 8 = .ok (.ifCond .eq 5, 3) := by
  show decode prog_5_method_9_code 8 = _
  decide +kernel
theorem d98_11 (L : Nat) (xs : Nat → Int32) : decode (ax_code (mgT L xs) 98) 11 = .ok (.iconst 0, 1) := by
  show decode prog_5_method_9_code 11 = _
  decide +kernel
theorem d98_12 (L : Nat) (xs : Nat → Int32) : decode (ax_code (mgT L xs) 98) 12 = .ok (.ireturn, 1) := by
  show decode prog_5_method_9_code 12 = _
  decide +kernel
theorem d98_13 (L : Nat) (xs : Nat → Int32) : decode (ax_code (mgT L xs) 98) 13 = .ok (.aload_n 0, 1) := by
  show decode prog_5_method_9_code 13 = _
  decide +kernel
theorem d98_14 (L : Nat) (xs : Nat → Int32) : decode (ax_code (mgT L xs) 98) 14 = .ok (.iload_n 1, 1) := by
  show decode prog_5_method_9_code 14 = _
  decide +kernel
theorem d98_15 (L : Nat) (xs : Nat → Int32) : decode (ax_code (mgT L xs) 98) 15 = .ok (.iload_n 2, 1) := by
  show decode prog_5_method_9_code 15 = _
  decide +kernel
theorem d98_16 (L : Nat) (xs : Nat → Int32) : decode (ax_code (mgT L xs) 98) 16 = .ok (.ldc 98, 2) := by
  show decode prog_5_method_9_code 16 = _
  decide +kernel
theorem d98_18 (L : Nat) (xs : Nat → Int32) : decode (ax_code (mgT L xs) 98) 18 = .ok (.invokevirtual 43, 3) := by
  show decode prog_5_method_9_code 18 = _
  decide +kernel
theorem d98_21 (L : Nat) (xs : Nat → Int32) : decode (ax_code (mgT L xs) 98) 21 = .ok (.ifCond .eq 7, 3) := by
  show decode prog_5_method_9_code 21 = _
  decide +kernel
theorem d98_24 (L : Nat) (xs : Nat → Int32) : decode (ax_code (mgT L xs) 98) 24 = .ok (.iconst 1, 1) := by
  show decode prog_5_method_9_code 24 = _
  decide +kernel
theorem d98_25 (L : Nat) (xs : Nat → Int32) : decode (ax_code (mgT L xs) 98) 25 = .ok (.goto 4, 3) := by
  show decode prog_5_method_9_code 25 = _
  decide +kernel
theorem d98_28 (L : Nat) (xs : Nat → Int32) : decode (ax_code (mgT L xs) 98) 28 = .ok (.iconst (-1), 1) := by
  show decode prog_5_method_9_code 28 = _
  decide +kernel
theorem d98_29 (L : Nat) (xs : Nat → Int32) : decode (ax_code (mgT L xs) 98) 29 = .ok (.ireturn, 1) := by
  show decode prog_5_method_9_code 29 = _
  decide +kernel
abbrev plT : Type := Int32 × Int32 × Int32 × Int32
def isPol (s : mg_s) (P : plT) : Prop := s.1 138 0 = P.1 ∧ s.1 138 1 = P.2.1 ∧ s.1 138 2 = P.2.2.1 ∧ s.1 138 3 = P.2.2.2
def w_p : List Nat := [112]
def w_sp : List Nat := [115, 112]
def w_aspf : List Nat := [97, 115, 112, 102]
def w_pct : List Nat := [112, 99, 116]
def w_none : List Nat := [110, 111, 110, 101]
def w_quar : List Nat := [113, 117, 97, 114, 97, 110, 116, 105, 110, 101]
def w_rej : List Nat := [114, 101, 106, 101, 99, 116]
def w_r : List Nat := [114]
def w_s : List Nat := [115]
def w_dm : List Nat := [118, 61, 68, 77, 65, 82, 67, 49]
def w_dmd : List Nat := [95, 100, 109, 97, 114, 99, 46]
def t_act (g : Nat → Nat) (i j : Nat) : Option Nat := if t_word g i j w_none = true then some 2 else if t_word g i j w_quar = true then some 3 else if t_word g i j w_rej = true then some 4 else none
def t_aln (g : Nat → Nat) (i j : Nat) : Option Nat := if t_word g i j w_r = true then some 0 else if t_word g i j w_s = true then some 1 else none
def f_let (g : Nat → Nat) : Nat → Nat → Nat
  | i, 0 => i
  | i, m + 1 => if c_let (g i) = true then f_let g (i + 1) m else i
theorem f_let_le {g : Nat → Nat} : ∀ (m i : Nat), i ≤ f_let g i m ∧ f_let g i m ≤ i + m := by
  intro m
  induction m with
  | zero => intro i; exact ⟨Nat.le_refl _, Nat.le_refl _⟩
  | succ m ih =>
    intro i
    rw [f_let]
    split
    · have := ih (i + 1); omega
    · omega
def f_tg4 (g : Nat → Nat) (fr to e : Nat) (P : plT) : Bool × plT := if P.2.2.2 = -1 ∧ t_word g fr e w_pct = true then (decide (¬ oI (t_num g (e + 1) to 100) = -1), (P.1, P.2.1, P.2.2.1, oI (t_num g (e + 1) to 100))) else (true, P)
def f_tg3 (g : Nat → Nat) (fr to e : Nat) (P : plT) : Bool × plT := if P.2.2.1 = -1 ∧ t_word g fr e w_aspf = true then (decide (¬ oI (t_aln g (e + 1) to) = -1), (P.1, P.2.1, oI (t_aln g (e + 1) to), P.2.2.2)) else f_tg4 g fr to e P
def f_tg2 (g : Nat → Nat) (fr to e : Nat) (P : plT) : Bool × plT := if P.2.1 = -1 ∧ t_word g fr e w_sp = true then (decide (¬ oI (t_act g (e + 1) to) = -1), (P.1, oI (t_act g (e + 1) to), P.2.2)) else f_tg3 g fr to e P
def f_tg1 (g : Nat → Nat) (fr to e : Nat) (P : plT) : Bool × plT := if P.1 = -1 ∧ t_word g fr e w_p = true then (decide (¬ oI (t_act g (e + 1) to) = -1), (oI (t_act g (e + 1) to), P.2)) else f_tg2 g fr to e P
def f_tg (g : Nat → Nat) (fr to e : Nat) (P : plT) : Bool × plT := if e = fr ∨ ¬ g e = 61 ∨ to ≤ e + 1 ∨ f_find g 32 (e + 1) (to - (e + 1)) < to then (false, P) else f_tg1 g fr to e P
def f_tag (g : Nat → Nat) (fr to : Nat) (P : plT) : Bool × plT := f_tg g fr to (f_let g fr (to - fr)) P
def f_pol (D : List Nat) : Nat → Nat → Nat → plT → Bool × plT
  | 0, _, _, P => (decide (¬ P.1 = -1), P)
  | m + 1, st, i, P => if i = D.length ∨ gl D i = 59 then (if f_skip (gl D) 32 st (i - st) < f_back (gl D) (f_skip (gl D) 32 st (i - st)) (i - f_skip (gl D) 32 st (i - st)) then (if (f_tag (gl D) (f_skip (gl D) 32 st (i - st)) (f_back (gl D) (f_skip (gl D) 32 st (i - st)) (i - f_skip (gl D) 32 st (i - st))) P).1 = true then f_pol D m (i + 1) (i + 1) (f_tag (gl D) (f_skip (gl D) 32 st (i - st)) (f_back (gl D) (f_skip (gl D) 32 st (i - st)) (i - f_skip (gl D) 32 st (i - st))) P).2 else (false, (f_tag (gl D) (f_skip (gl D) 32 st (i - st)) (f_back (gl D) (f_skip (gl D) 32 st (i - st)) (i - f_skip (gl D) 32 st (i - st))) P).2)) else f_pol D m (i + 1) (i + 1) P) else f_pol D m st (i + 1) P
/-- the data are a policy, and what it says -/
def t_pol (D : List Nat) : Bool × plT := if t_word (gl D) 0 (min 8 D.length) w_dm = true then (if 8 < D.length ∧ ¬ gl D 8 = 59 then (false, (-1, -1, -1, -1)) else f_pol D (D.length + 1 - 9) 9 9 (-1, -1, -1, -1)) else (false, (-1, -1, -1, -1))
theorem f_skip_le {g : Nat → Nat} {c : Nat} : ∀ (m i : Nat), i ≤ f_skip g c i m ∧ f_skip g c i m ≤ i + m := by
  intro m
  induction m with
  | zero => intro i; exact ⟨Nat.le_refl _, Nat.le_refl _⟩
  | succ m ih =>
    intro i
    rw [f_skip]
    split
    · have := ih (i + 1); omega
    · omega
theorem f_back_le {g : Nat → Nat} {fr : Nat} : ∀ (m : Nat), fr ≤ f_back g fr m ∧ f_back g fr m ≤ fr + m := by
  intro m
  induction m with
  | zero => exact ⟨Nat.le_refl _, Nat.le_refl _⟩
  | succ m ih =>
    rw [f_back]
    split
    · omega
    · omega
section PO
variable {L : Nat} {xs : Nat → Int32} {d a b : Nat} {p : Nat → Nat} {R : List rowT} {l : List Nat}
theorem isPol_M (s : mg_s) (f : Nat → Int32) : isPol (mg_M s 138 f) (f 0, f 1, f 2, f 3) := by
  unfold isPol
  rw [mg_M_own]
  exact ⟨rfl, rfl, rfl, rfl⟩
theorem ts_skip {s : mg_s} {fr to : Nat} (H : isT a) (hl : hold s a l) (hto : to < 2 ^ 30) (hf : fr ≤ to) : ca L xs (d + 2) 94 [.ref a, .int (nI fr), .int (nI to)] s (fun v s' => v = some (.int (nI (f_skip (gl l) 32 fr (to - fr)))) ∧ s = s') := by
  have h := tx_skip (L := L) (xs := xs) (d := d) H hl.1 hto hf
  rw [hold_at hl] at h
  exact h
theorem ts_back {s : mg_s} {fr to : Nat} (H : isT a) (hl : hold s a l) (hto : to < 2 ^ 30) (hf : fr ≤ to) : ca L xs (d + 2) 95 [.ref a, .int (nI fr), .int (nI to)] s (fun v s' => v = some (.int (nI (f_back (gl l) fr (to - fr)))) ∧ s = s') := by
  have h := tx_endNo (L := L) (xs := xs) (d := d) H hl.1 hto hf
  rw [hold_at hl] at h
  exact h
theorem pl_act {s : mg_s} {i j : Nat} (H : isT a) (hl : hold s a l) (hj : j < 2 ^ 30) (hij : i ≤ j) : ca L xs (d + 3) 97 [.ref a, .int (nI i), .int (nI j)] s (fun v s' => v = some (.int (oI (t_act (gl l) i j))) ∧ s = s') := by
  refine wg_call (Nat.le_of_ble_eq_true rfl) ?_
  have hb0 := bI_lt (t_word (gl l) i j w_none)
  have hb1 := bI_lt (t_word (gl l) i j w_quar)
  have hb2 := bI_lt (t_word (gl l) i j w_rej)
  show wp L xs (d + 2) 97 0 [some (.ref a), some (.int (nI i)), some (.int (nI j))] [] s _
  refine wg_aload_n (d97_0 L xs) rfl ?_
  refine wg_iload_n (d97_1 L xs) rfl ?_
  refine wg_iload_n (d97_2 L xs) rfl ?_
  refine wg_ldcs (d97_3 L xs) (k0 := 11) rfl ?_
  refine wg_invv (d97_5 L xs) (kd := 7) (mj := 57) (n := 3) rfl (Or.inl rfl) (ys := [.ref (ax_big + 1 + 11), .int (nI j), .int (nI i)]) (r := []) rfl rfl H.1 (tx_c H) rfl (Nat.le_of_ble_eq_true rfl) (ts_word (k0 := 11) (w := w_none) (fr := i) (to := j) H hl rfl rfl (by omega) (by omega)) ?_
  rintro _ _ ⟨rfl, rfl⟩
  refine wn_if_eq (d97_8 L xs) (x := bI (t_word (gl l) i j w_none)) (by omega) (t := 13) (by decide) (fun h1 => ?_) (fun h1 => ?_)
  · refine wg_aload_n (d97_13 L xs) rfl ?_
    refine wg_iload_n (d97_14 L xs) rfl ?_
    refine wg_iload_n (d97_15 L xs) rfl ?_
    refine wg_ldcs (d97_16 L xs) (k0 := 12) rfl ?_
    refine wg_invv (d97_18 L xs) (kd := 7) (mj := 57) (n := 3) rfl (Or.inl rfl) (ys := [.ref (ax_big + 1 + 12), .int (nI j), .int (nI i)]) (r := []) rfl rfl H.1 (tx_c H) rfl (Nat.le_of_ble_eq_true rfl) (ts_word (k0 := 12) (w := w_quar) (fr := i) (to := j) H hl rfl rfl (by omega) (by omega)) ?_
    rintro _ _ ⟨rfl, rfl⟩
    refine wn_if_eq (d97_21 L xs) (x := bI (t_word (gl l) i j w_quar)) (by omega) (t := 26) (by decide) (fun h2 => ?_) (fun h2 => ?_)
    · refine wg_aload_n (d97_26 L xs) rfl ?_
      refine wg_iload_n (d97_27 L xs) rfl ?_
      refine wg_iload_n (d97_28 L xs) rfl ?_
      refine wg_ldcs (d97_29 L xs) (k0 := 13) rfl ?_
      refine wg_invv (d97_31 L xs) (kd := 7) (mj := 57) (n := 3) rfl (Or.inl rfl) (ys := [.ref (ax_big + 1 + 13), .int (nI j), .int (nI i)]) (r := []) rfl rfl H.1 (tx_c H) rfl (Nat.le_of_ble_eq_true rfl) (ts_word (k0 := 13) (w := w_rej) (fr := i) (to := j) H hl rfl rfl (by omega) (by omega)) ?_
      rintro _ _ ⟨rfl, rfl⟩
      refine wn_if_eq (d97_34 L xs) (x := bI (t_word (gl l) i j w_rej)) (by omega) (t := 41) (by decide) (fun h3 => ?_) (fun h3 => ?_)
      · refine wg_iconst (d97_41 L xs) (x := (-1)) (by decide) ?_
        exact wg_iret (d97_42 L xs) rfl rfl (⟨by unfold t_act; rw [if_neg (by rw [bI_f (b := t_word (gl l) i j w_none) (by omega)]; decide), if_neg (by rw [bI_f (b := t_word (gl l) i j w_quar) (by omega)]; decide), if_neg (by rw [bI_f (b := t_word (gl l) i j w_rej) (by omega)]; decide)]; rfl, rfl⟩)
      · refine wg_iconst (d97_37 L xs) (x := 4) (by decide) ?_
        refine wg_goto (d97_38 L xs) (t := 42) (by decide) ?_
        exact wg_iret (d97_42 L xs) rfl rfl (⟨by unfold t_act; rw [if_neg (by rw [bI_f (b := t_word (gl l) i j w_none) (by omega)]; decide), if_neg (by rw [bI_f (b := t_word (gl l) i j w_quar) (by omega)]; decide), if_pos (bI_t (b := t_word (gl l) i j w_rej) (by omega))]; rfl, rfl⟩)
    · refine wg_iconst (d97_24 L xs) (x := 3) (by decide) ?_
      exact wg_iret (d97_25 L xs) rfl rfl (⟨by unfold t_act; rw [if_neg (by rw [bI_f (b := t_word (gl l) i j w_none) (by omega)]; decide), if_pos (bI_t (b := t_word (gl l) i j w_quar) (by omega))]; rfl, rfl⟩)
  · refine wg_iconst (d97_11 L xs) (x := 2) (by decide) ?_
    exact wg_iret (d97_12 L xs) rfl rfl (⟨by unfold t_act; rw [if_pos (bI_t (b := t_word (gl l) i j w_none) (by omega))]; rfl, rfl⟩)
theorem pl_aln {s : mg_s} {i j : Nat} (H : isT a) (hl : hold s a l) (hj : j < 2 ^ 30) (hij : i ≤ j) : ca L xs (d + 3) 98 [.ref a, .int (nI i), .int (nI j)] s (fun v s' => v = some (.int (oI (t_aln (gl l) i j))) ∧ s = s') := by
  refine wg_call (Nat.le_of_ble_eq_true rfl) ?_
  have hb0 := bI_lt (t_word (gl l) i j w_r)
  have hb1 := bI_lt (t_word (gl l) i j w_s)
  show wp L xs (d + 2) 98 0 [some (.ref a), some (.int (nI i)), some (.int (nI j))] [] s _
  refine wg_aload_n (d98_0 L xs) rfl ?_
  refine wg_iload_n (d98_1 L xs) rfl ?_
  refine wg_iload_n (d98_2 L xs) rfl ?_
  refine wg_ldcs (d98_3 L xs) (k0 := 16) rfl ?_
  refine wg_invv (d98_5 L xs) (kd := 7) (mj := 57) (n := 3) rfl (Or.inl rfl) (ys := [.ref (ax_big + 1 + 16), .int (nI j), .int (nI i)]) (r := []) rfl rfl H.1 (tx_c H) rfl (Nat.le_of_ble_eq_true rfl) (ts_word (k0 := 16) (w := w_r) (fr := i) (to := j) H hl rfl rfl (by omega) (by omega)) ?_
  rintro _ _ ⟨rfl, rfl⟩
  refine wn_if_eq (d98_8 L xs) (x := bI (t_word (gl l) i j w_r)) (by omega) (t := 13) (by decide) (fun h1 => ?_) (fun h1 => ?_)
  · refine wg_aload_n (d98_13 L xs) rfl ?_
    refine wg_iload_n (d98_14 L xs) rfl ?_
    refine wg_iload_n (d98_15 L xs) rfl ?_
    refine wg_ldcs (d98_16 L xs) (k0 := 17) rfl ?_
    refine wg_invv (d98_18 L xs) (kd := 7) (mj := 57) (n := 3) rfl (Or.inl rfl) (ys := [.ref (ax_big + 1 + 17), .int (nI j), .int (nI i)]) (r := []) rfl rfl H.1 (tx_c H) rfl (Nat.le_of_ble_eq_true rfl) (ts_word (k0 := 17) (w := w_s) (fr := i) (to := j) H hl rfl rfl (by omega) (by omega)) ?_
    rintro _ _ ⟨rfl, rfl⟩
    refine wn_if_eq (d98_21 L xs) (x := bI (t_word (gl l) i j w_s)) (by omega) (t := 28) (by decide) (fun h2 => ?_) (fun h2 => ?_)
    · refine wg_iconst (d98_28 L xs) (x := (-1)) (by decide) ?_
      exact wg_iret (d98_29 L xs) rfl rfl (⟨by unfold t_aln; rw [if_neg (by rw [bI_f (b := t_word (gl l) i j w_r) (by omega)]; decide), if_neg (by rw [bI_f (b := t_word (gl l) i j w_s) (by omega)]; decide)]; rfl, rfl⟩)
    · refine wg_iconst (d98_24 L xs) (x := 1) (by decide) ?_
      refine wg_goto (d98_25 L xs) (t := 29) (by decide) ?_
      exact wg_iret (d98_29 L xs) rfl rfl (⟨by unfold t_aln; rw [if_neg (by rw [bI_f (b := t_word (gl l) i j w_r) (by omega)]; decide), if_pos (bI_t (b := t_word (gl l) i j w_s) (by omega))]; rfl, rfl⟩)
  · refine wg_iconst (d98_11 L xs) (x := 0) (by decide) ?_
    exact wg_iret (d98_12 L xs) rfl rfl (⟨by unfold t_aln; rw [if_pos (bI_t (b := t_word (gl l) i j w_r) (by omega))]; rfl, rfl⟩)
theorem pl_tag_l {Q : Option Value → mg_s → Prop} {s : mg_s} {fr to : Nat} (H : isT a) (hl : hold s a l) (hto : to < 2 ^ 29) : ∀ (m i : Nat), i + m = to → wp L xs (d + 3) 96 27 [some (.ref 138), some (.ref a), some (.int (nI fr)), some (.int (nI to)), some (.int (nI (f_let (gl l) i m))), none] [] s Q → wp L xs (d + 3) 96 3 [some (.ref 138), some (.ref a), some (.int (nI fr)), some (.int (nI to)), some (.int (nI i)), none] [] s Q := by
  intro m
  induction m with
  | zero =>
    intro i hi k
    rw [f_let] at k
    refine wg_iload (d96_3 L xs) rfl ?_
    refine wg_iload_n (d96_5 L xs) rfl ?_
    refine wn_icmp_ge (d96_6 L xs) (x := i) (y := to) (by omega) (by omega) (t := 27) (by decide) (fun h1 => ?_) (fun h1 => by omega)
    exact k
  | succ m ih =>
    intro i hi k
    have hg := gl_lt hl.2.1 i
    have hb := bI_lt (c_let (gl l i))
    rw [f_let] at k
    refine wg_iload (d96_3 L xs) rfl ?_
    refine wg_iload_n (d96_5 L xs) rfl ?_
    refine wn_icmp_ge (d96_6 L xs) (x := i) (y := to) (by omega) (by omega) (t := 27) (by decide) (fun h1 => by omega) (fun h1 => ?_)
    refine wg_aload_n (d96_9 L xs) rfl ?_
    refine wg_iload (d96_10 L xs) rfl ?_
    refine wg_invv (d96_12 L xs) (kd := 7) (mj := 31) (n := 1) rfl (Or.inl rfl) (ys := [.int (nI i)]) (r := []) rfl rfl H.1 (tx_c H) rfl (Nat.le_of_ble_eq_true rfl) (ts_at H hl (by omega)) ?_
    rintro _ _ ⟨rfl, rfl⟩
    refine wg_invs (d96_15 L xs) (kd := 6) (mj := 61) (n := 1) rfl (Or.inl rfl) (ys := [.int (nI (gl l i))]) (r := []) rfl rfl (Nat.le_of_ble_eq_true rfl) (tx_let (by omega)) ?_
    rintro _ _ ⟨rfl, rfl⟩
    refine wn_if_eq (d96_18 L xs) (x := bI (c_let (gl l i))) (by omega) (t := 27) (by decide) (fun h2 => ?_) (fun h2 => ?_)
    · rw [if_neg (by rw [bI_f (b := c_let (gl l i)) (by omega)]; decide)] at k; exact k
    · refine wg_iinc (d96_21 L xs) (y := (nI (i + 1))) (ls' := [some (.ref 138), some (.ref a), some (.int (nI fr)), some (.int (nI to)), some (.int (nI (i + 1))), none]) rfl (nI_add i 1) rfl ?_
      refine wg_goto (d96_24 L xs) (t := 3) (by decide) ?_
      rw [if_pos (bI_t (b := c_let (gl l i)) (by omega))] at k; exact ih (i + 1) (by omega) k
theorem mg_M_self (s : mg_s) (r : Nat) : mg_M s r (s.1 r) = s := by
  refine mg_T_ext ?_ rfl rfl
  funext b
  show (if b = r then s.1 r else s.1 b) = s.1 b
  by_cases e : b = r
  · rw [if_pos e, e]
  · rw [if_neg e]
theorem pl_tg4 {s : mg_s} {fr to e : Nat} {P : plT} (H : isT a) (hl : hold s a l) (hP : isPol s P) (hto : to < 2 ^ 29) (het : fr ≤ e ∧ e + 1 < to) : wp L xs (d + 3) 96 206 [some (.ref 138), some (.ref a), some (.int (nI fr)), some (.int (nI to)), some (.int (nI e)), some (.int (nI (e + 1)))] [] s (fun v s' => v = some (.int (nI (bI (f_tg4 (gl l) fr to e P).1))) ∧ (∃ f, mg_M s 138 f = s') ∧ isPol s' (f_tg4 (gl l) fr to e P).2) := by
  have hb := bI_lt (t_word (gl l) fr e w_pct)
  have hset : ∀ x : Int32, isPol (mg_I s 138 3 x) (P.1, P.2.1, P.2.2.1, x) := fun x => by
    unfold isPol
    rw [mg_I_own]
    exact ⟨hP.1, hP.2.1, hP.2.2.1, rfl⟩
  by_cases hc : P.2.2.2 = -1 ∧ t_word (gl l) fr e w_pct = true
  · skip
    refine wg_aload_n (d96_206 L xs) rfl ?_
    refine wg_get (d96_207 L xs) (kd := 1) (cj := 7) (k0 := 3) rfl (Or.inl rfl) (by decide) rfl rfl ?_
    refine wg_top (y := P.2.2.2) hP.2.2.2 ?_
    refine wg_iconst (d96_210 L xs) (x := (-1)) (by decide) ?_
    refine wg_icmp_ne (d96_211 L xs) (t := 253) (by decide) (fun h1 => absurd hc.1 h1) (fun h1 => ?_)
    refine wg_aload_n (d96_214 L xs) rfl ?_
    refine wg_iload_n (d96_215 L xs) rfl ?_
    refine wg_iload (d96_216 L xs) rfl ?_
    refine wg_ldcs (d96_218 L xs) (k0 := 18) rfl ?_
    refine wg_invv (d96_220 L xs) (kd := 7) (mj := 57) (n := 3) rfl (Or.inl rfl) (ys := [.ref (ax_big + 1 + 18), .int (nI e), .int (nI fr)]) (r := []) rfl rfl H.1 (tx_c H) rfl (Nat.le_of_ble_eq_true rfl) (ts_word (k0 := 18) (w := w_pct) (fr := fr) (to := e) H hl rfl rfl (by omega) (by omega)) ?_
    rintro _ _ ⟨rfl, rfl⟩
    refine wn_if_eq (d96_223 L xs) (x := bI (t_word (gl l) fr e w_pct)) (by omega) (t := 253) (by decide) (fun h2 => absurd hc.2 (by rw [bI_f (b := t_word (gl l) fr e w_pct) h2]; decide)) (fun h2 => ?_)
    refine wg_aload_n (d96_226 L xs) rfl ?_
    refine wg_aload_n (d96_227 L xs) rfl ?_
    refine wg_iload (d96_228 L xs) rfl ?_
    refine wg_iload_n (d96_230 L xs) rfl ?_
    refine wg_bipush (d96_231 L xs) (x := 100) (by decide) ?_
    refine wg_invv (d96_233 L xs) (kd := 7) (mj := 41) (n := 3) rfl (Or.inl rfl) (ys := [.int 100, .int (nI to), .int (nI (e + 1))]) (r := [.ref 138]) rfl rfl H.1 (tx_c H) rfl (Nat.le_of_ble_eq_true rfl) (ts_num (o := t_num (gl l) (e + 1) to 100) H hl (by omega) (by decide) (by omega) rfl) ?_
    rintro _ _ ⟨rfl, rfl⟩
    refine wg_puti (d96_236 L xs) (cj := 7) (k0 := 3) rfl (by decide) rfl (Nat.le_of_ble_eq_true rfl) rfl rfl rfl ?_
    refine wg_aload_n (d96_239 L xs) rfl ?_
    refine wg_get (d96_240 L xs) (kd := 1) (cj := 7) (k0 := 3) rfl (Or.inl rfl) (by decide) rfl rfl ?_
    refine wg_top (y := (oI (t_num (gl l) (e + 1) to 100))) rfl ?_
    refine wg_iconst (d96_243 L xs) (x := (-1)) (by decide) ?_
    refine wg_icmp_eq (d96_244 L xs) (t := 251) (by decide) (fun h3 => ?_) (fun h3 => ?_)
    · refine wg_iconst (d96_251 L xs) (x := 0) (by decide) ?_
      exact wg_iret (d96_252 L xs) rfl rfl ⟨by rw [f_tg4, if_pos hc]; show _ = some (Value.int (nI (bI (decide (¬ oI (t_num (gl l) (e + 1) to 100) = -1))))); rw [decide_eq_false (show ¬ ¬ oI (t_num (gl l) (e + 1) to 100) = -1 by first | (intro h; exact h (by assumption)) | assumption)]; rfl, ⟨_, (mg_I_M _ _ _ _).symm⟩, by rw [f_tg4, if_pos hc]; exact hset _⟩
    · refine wg_iconst (d96_247 L xs) (x := 1) (by decide) ?_
      refine wg_goto (d96_248 L xs) (t := 252) (by decide) ?_
      exact wg_iret (d96_252 L xs) rfl rfl ⟨by rw [f_tg4, if_pos hc]; show _ = some (Value.int (nI (bI (decide (¬ oI (t_num (gl l) (e + 1) to 100) = -1))))); rw [decide_eq_true (show ¬ oI (t_num (gl l) (e + 1) to 100) = -1 by assumption)]; rfl, ⟨_, (mg_I_M _ _ _ _).symm⟩, by rw [f_tg4, if_pos hc]; exact hset _⟩
  · skip
    refine wg_aload_n (d96_206 L xs) rfl ?_
    refine wg_get (d96_207 L xs) (kd := 1) (cj := 7) (k0 := 3) rfl (Or.inl rfl) (by decide) rfl rfl ?_
    refine wg_top (y := P.2.2.2) hP.2.2.2 ?_
    refine wg_iconst (d96_210 L xs) (x := (-1)) (by decide) ?_
    refine wg_icmp_ne (d96_211 L xs) (t := 253) (by decide) (fun h1 => ?_) (fun h1 => ?_)
    · refine wg_iconst (d96_253 L xs) (x := 1) (by decide) ?_
      exact wg_iret (d96_254 L xs) rfl rfl ⟨by rw [f_tg4, if_neg hc]; rfl, ⟨s.1 138, mg_M_self s 138⟩, by rw [f_tg4, if_neg hc]; exact hP⟩
    · refine wg_aload_n (d96_214 L xs) rfl ?_
      refine wg_iload_n (d96_215 L xs) rfl ?_
      refine wg_iload (d96_216 L xs) rfl ?_
      refine wg_ldcs (d96_218 L xs) (k0 := 18) rfl ?_
      refine wg_invv (d96_220 L xs) (kd := 7) (mj := 57) (n := 3) rfl (Or.inl rfl) (ys := [.ref (ax_big + 1 + 18), .int (nI e), .int (nI fr)]) (r := []) rfl rfl H.1 (tx_c H) rfl (Nat.le_of_ble_eq_true rfl) (ts_word (k0 := 18) (w := w_pct) (fr := fr) (to := e) H hl rfl rfl (by omega) (by omega)) ?_
      rintro _ _ ⟨rfl, rfl⟩
      refine wn_if_eq (d96_223 L xs) (x := bI (t_word (gl l) fr e w_pct)) (by omega) (t := 253) (by decide) (fun h2 => ?_) (fun h2 => ?_)
      · refine wg_iconst (d96_253 L xs) (x := 1) (by decide) ?_
        exact wg_iret (d96_254 L xs) rfl rfl ⟨by rw [f_tg4, if_neg hc]; rfl, ⟨s.1 138, mg_M_self s 138⟩, by rw [f_tg4, if_neg hc]; exact hP⟩
      · exact absurd ⟨Classical.not_not.mp h1, bI_t (b := t_word (gl l) fr e w_pct) (by omega)⟩ hc
theorem pl_tg3 {s : mg_s} {fr to e : Nat} {P : plT} (H : isT a) (hl : hold s a l) (hP : isPol s P) (hto : to < 2 ^ 29) (het : fr ≤ e ∧ e + 1 < to) : wp L xs (d + 3) 96 161 [some (.ref 138), some (.ref a), some (.int (nI fr)), some (.int (nI to)), some (.int (nI e)), some (.int (nI (e + 1)))] [] s (fun v s' => v = some (.int (nI (bI (f_tg3 (gl l) fr to e P).1))) ∧ (∃ f, mg_M s 138 f = s') ∧ isPol s' (f_tg3 (gl l) fr to e P).2) := by
  have hb := bI_lt (t_word (gl l) fr e w_aspf)
  have hset : ∀ x : Int32, isPol (mg_I s 138 2 x) (P.1, P.2.1, x, P.2.2.2) := fun x => by
    unfold isPol
    rw [mg_I_own]
    exact ⟨hP.1, hP.2.1, rfl, hP.2.2.2⟩
  by_cases hc : P.2.2.1 = -1 ∧ t_word (gl l) fr e w_aspf = true
  · skip
    refine wg_aload_n (d96_161 L xs) rfl ?_
    refine wg_get (d96_162 L xs) (kd := 1) (cj := 7) (k0 := 2) rfl (Or.inl rfl) (by decide) rfl rfl ?_
    refine wg_top (y := P.2.2.1) hP.2.2.1 ?_
    refine wg_iconst (d96_165 L xs) (x := (-1)) (by decide) ?_
    refine wg_icmp_ne (d96_166 L xs) (t := 206) (by decide) (fun h1 => absurd hc.1 h1) (fun h1 => ?_)
    refine wg_aload_n (d96_169 L xs) rfl ?_
    refine wg_iload_n (d96_170 L xs) rfl ?_
    refine wg_iload (d96_171 L xs) rfl ?_
    refine wg_ldcs (d96_173 L xs) (k0 := 15) rfl ?_
    refine wg_invv (d96_175 L xs) (kd := 7) (mj := 57) (n := 3) rfl (Or.inl rfl) (ys := [.ref (ax_big + 1 + 15), .int (nI e), .int (nI fr)]) (r := []) rfl rfl H.1 (tx_c H) rfl (Nat.le_of_ble_eq_true rfl) (ts_word (k0 := 15) (w := w_aspf) (fr := fr) (to := e) H hl rfl rfl (by omega) (by omega)) ?_
    rintro _ _ ⟨rfl, rfl⟩
    refine wn_if_eq (d96_178 L xs) (x := bI (t_word (gl l) fr e w_aspf)) (by omega) (t := 206) (by decide) (fun h2 => absurd hc.2 (by rw [bI_f (b := t_word (gl l) fr e w_aspf) h2]; decide)) (fun h2 => ?_)
    refine wg_aload_n (d96_181 L xs) rfl ?_
    refine wg_aload_n (d96_182 L xs) rfl ?_
    refine wg_iload (d96_183 L xs) rfl ?_
    refine wg_iload_n (d96_185 L xs) rfl ?_
    refine wg_invs (d96_186 L xs) (kd := 6) (mj := 98) (n := 3) rfl (Or.inl rfl) (ys := [.int (nI to), .int (nI (e + 1)), .ref a]) (r := [.ref 138]) rfl rfl (Nat.le_of_ble_eq_true rfl) (pl_aln H hl (by omega) (by omega)) ?_
    rintro _ _ ⟨rfl, rfl⟩
    refine wg_puti (d96_189 L xs) (cj := 7) (k0 := 2) rfl (by decide) rfl (Nat.le_of_ble_eq_true rfl) rfl rfl rfl ?_
    refine wg_aload_n (d96_192 L xs) rfl ?_
    refine wg_get (d96_193 L xs) (kd := 1) (cj := 7) (k0 := 2) rfl (Or.inl rfl) (by decide) rfl rfl ?_
    refine wg_top (y := (oI (t_aln (gl l) (e + 1) to))) rfl ?_
    refine wg_iconst (d96_196 L xs) (x := (-1)) (by decide) ?_
    refine wg_icmp_eq (d96_197 L xs) (t := 204) (by decide) (fun h3 => ?_) (fun h3 => ?_)
    · refine wg_iconst (d96_204 L xs) (x := 0) (by decide) ?_
      exact wg_iret (d96_205 L xs) rfl rfl ⟨by rw [f_tg3, if_pos hc]; show _ = some (Value.int (nI (bI (decide (¬ oI (t_aln (gl l) (e + 1) to) = -1))))); rw [decide_eq_false (show ¬ ¬ oI (t_aln (gl l) (e + 1) to) = -1 by first | (intro h; exact h (by assumption)) | assumption)]; rfl, ⟨_, (mg_I_M _ _ _ _).symm⟩, by rw [f_tg3, if_pos hc]; exact hset _⟩
    · refine wg_iconst (d96_200 L xs) (x := 1) (by decide) ?_
      refine wg_goto (d96_201 L xs) (t := 205) (by decide) ?_
      exact wg_iret (d96_205 L xs) rfl rfl ⟨by rw [f_tg3, if_pos hc]; show _ = some (Value.int (nI (bI (decide (¬ oI (t_aln (gl l) (e + 1) to) = -1))))); rw [decide_eq_true (show ¬ oI (t_aln (gl l) (e + 1) to) = -1 by assumption)]; rfl, ⟨_, (mg_I_M _ _ _ _).symm⟩, by rw [f_tg3, if_pos hc]; exact hset _⟩
  · skip
    refine wg_aload_n (d96_161 L xs) rfl ?_
    refine wg_get (d96_162 L xs) (kd := 1) (cj := 7) (k0 := 2) rfl (Or.inl rfl) (by decide) rfl rfl ?_
    refine wg_top (y := P.2.2.1) hP.2.2.1 ?_
    refine wg_iconst (d96_165 L xs) (x := (-1)) (by decide) ?_
    refine wg_icmp_ne (d96_166 L xs) (t := 206) (by decide) (fun h1 => ?_) (fun h1 => ?_)
    · rw [f_tg3, if_neg hc]; exact pl_tg4 H hl hP (by omega) het
    · refine wg_aload_n (d96_169 L xs) rfl ?_
      refine wg_iload_n (d96_170 L xs) rfl ?_
      refine wg_iload (d96_171 L xs) rfl ?_
      refine wg_ldcs (d96_173 L xs) (k0 := 15) rfl ?_
      refine wg_invv (d96_175 L xs) (kd := 7) (mj := 57) (n := 3) rfl (Or.inl rfl) (ys := [.ref (ax_big + 1 + 15), .int (nI e), .int (nI fr)]) (r := []) rfl rfl H.1 (tx_c H) rfl (Nat.le_of_ble_eq_true rfl) (ts_word (k0 := 15) (w := w_aspf) (fr := fr) (to := e) H hl rfl rfl (by omega) (by omega)) ?_
      rintro _ _ ⟨rfl, rfl⟩
      refine wn_if_eq (d96_178 L xs) (x := bI (t_word (gl l) fr e w_aspf)) (by omega) (t := 206) (by decide) (fun h2 => ?_) (fun h2 => ?_)
      · rw [f_tg3, if_neg hc]; exact pl_tg4 H hl hP (by omega) het
      · exact absurd ⟨Classical.not_not.mp h1, bI_t (b := t_word (gl l) fr e w_aspf) (by omega)⟩ hc
theorem pl_tg2 {s : mg_s} {fr to e : Nat} {P : plT} (H : isT a) (hl : hold s a l) (hP : isPol s P) (hto : to < 2 ^ 29) (het : fr ≤ e ∧ e + 1 < to) : wp L xs (d + 3) 96 116 [some (.ref 138), some (.ref a), some (.int (nI fr)), some (.int (nI to)), some (.int (nI e)), some (.int (nI (e + 1)))] [] s (fun v s' => v = some (.int (nI (bI (f_tg2 (gl l) fr to e P).1))) ∧ (∃ f, mg_M s 138 f = s') ∧ isPol s' (f_tg2 (gl l) fr to e P).2) := by
  have hb := bI_lt (t_word (gl l) fr e w_sp)
  have hset : ∀ x : Int32, isPol (mg_I s 138 1 x) (P.1, x, P.2.2) := fun x => by
    unfold isPol
    rw [mg_I_own]
    exact ⟨hP.1, rfl, hP.2.2.1, hP.2.2.2⟩
  by_cases hc : P.2.1 = -1 ∧ t_word (gl l) fr e w_sp = true
  · skip
    refine wg_aload_n (d96_116 L xs) rfl ?_
    refine wg_get (d96_117 L xs) (kd := 1) (cj := 7) (k0 := 1) rfl (Or.inl rfl) (by decide) rfl rfl ?_
    refine wg_top (y := P.2.1) hP.2.1 ?_
    refine wg_iconst (d96_120 L xs) (x := (-1)) (by decide) ?_
    refine wg_icmp_ne (d96_121 L xs) (t := 161) (by decide) (fun h1 => absurd hc.1 h1) (fun h1 => ?_)
    refine wg_aload_n (d96_124 L xs) rfl ?_
    refine wg_iload_n (d96_125 L xs) rfl ?_
    refine wg_iload (d96_126 L xs) rfl ?_
    refine wg_ldcs (d96_128 L xs) (k0 := 14) rfl ?_
    refine wg_invv (d96_130 L xs) (kd := 7) (mj := 57) (n := 3) rfl (Or.inl rfl) (ys := [.ref (ax_big + 1 + 14), .int (nI e), .int (nI fr)]) (r := []) rfl rfl H.1 (tx_c H) rfl (Nat.le_of_ble_eq_true rfl) (ts_word (k0 := 14) (w := w_sp) (fr := fr) (to := e) H hl rfl rfl (by omega) (by omega)) ?_
    rintro _ _ ⟨rfl, rfl⟩
    refine wn_if_eq (d96_133 L xs) (x := bI (t_word (gl l) fr e w_sp)) (by omega) (t := 161) (by decide) (fun h2 => absurd hc.2 (by rw [bI_f (b := t_word (gl l) fr e w_sp) h2]; decide)) (fun h2 => ?_)
    refine wg_aload_n (d96_136 L xs) rfl ?_
    refine wg_aload_n (d96_137 L xs) rfl ?_
    refine wg_iload (d96_138 L xs) rfl ?_
    refine wg_iload_n (d96_140 L xs) rfl ?_
    refine wg_invs (d96_141 L xs) (kd := 6) (mj := 97) (n := 3) rfl (Or.inl rfl) (ys := [.int (nI to), .int (nI (e + 1)), .ref a]) (r := [.ref 138]) rfl rfl (Nat.le_of_ble_eq_true rfl) (pl_act H hl (by omega) (by omega)) ?_
    rintro _ _ ⟨rfl, rfl⟩
    refine wg_puti (d96_144 L xs) (cj := 7) (k0 := 1) rfl (by decide) rfl (Nat.le_of_ble_eq_true rfl) rfl rfl rfl ?_
    refine wg_aload_n (d96_147 L xs) rfl ?_
    refine wg_get (d96_148 L xs) (kd := 1) (cj := 7) (k0 := 1) rfl (Or.inl rfl) (by decide) rfl rfl ?_
    refine wg_top (y := (oI (t_act (gl l) (e + 1) to))) rfl ?_
    refine wg_iconst (d96_151 L xs) (x := (-1)) (by decide) ?_
    refine wg_icmp_eq (d96_152 L xs) (t := 159) (by decide) (fun h3 => ?_) (fun h3 => ?_)
    · refine wg_iconst (d96_159 L xs) (x := 0) (by decide) ?_
      exact wg_iret (d96_160 L xs) rfl rfl ⟨by rw [f_tg2, if_pos hc]; show _ = some (Value.int (nI (bI (decide (¬ oI (t_act (gl l) (e + 1) to) = -1))))); rw [decide_eq_false (show ¬ ¬ oI (t_act (gl l) (e + 1) to) = -1 by first | (intro h; exact h (by assumption)) | assumption)]; rfl, ⟨_, (mg_I_M _ _ _ _).symm⟩, by rw [f_tg2, if_pos hc]; exact hset _⟩
    · refine wg_iconst (d96_155 L xs) (x := 1) (by decide) ?_
      refine wg_goto (d96_156 L xs) (t := 160) (by decide) ?_
      exact wg_iret (d96_160 L xs) rfl rfl ⟨by rw [f_tg2, if_pos hc]; show _ = some (Value.int (nI (bI (decide (¬ oI (t_act (gl l) (e + 1) to) = -1))))); rw [decide_eq_true (show ¬ oI (t_act (gl l) (e + 1) to) = -1 by assumption)]; rfl, ⟨_, (mg_I_M _ _ _ _).symm⟩, by rw [f_tg2, if_pos hc]; exact hset _⟩
  · skip
    refine wg_aload_n (d96_116 L xs) rfl ?_
    refine wg_get (d96_117 L xs) (kd := 1) (cj := 7) (k0 := 1) rfl (Or.inl rfl) (by decide) rfl rfl ?_
    refine wg_top (y := P.2.1) hP.2.1 ?_
    refine wg_iconst (d96_120 L xs) (x := (-1)) (by decide) ?_
    refine wg_icmp_ne (d96_121 L xs) (t := 161) (by decide) (fun h1 => ?_) (fun h1 => ?_)
    · rw [f_tg2, if_neg hc]; exact pl_tg3 H hl hP (by omega) het
    · refine wg_aload_n (d96_124 L xs) rfl ?_
      refine wg_iload_n (d96_125 L xs) rfl ?_
      refine wg_iload (d96_126 L xs) rfl ?_
      refine wg_ldcs (d96_128 L xs) (k0 := 14) rfl ?_
      refine wg_invv (d96_130 L xs) (kd := 7) (mj := 57) (n := 3) rfl (Or.inl rfl) (ys := [.ref (ax_big + 1 + 14), .int (nI e), .int (nI fr)]) (r := []) rfl rfl H.1 (tx_c H) rfl (Nat.le_of_ble_eq_true rfl) (ts_word (k0 := 14) (w := w_sp) (fr := fr) (to := e) H hl rfl rfl (by omega) (by omega)) ?_
      rintro _ _ ⟨rfl, rfl⟩
      refine wn_if_eq (d96_133 L xs) (x := bI (t_word (gl l) fr e w_sp)) (by omega) (t := 161) (by decide) (fun h2 => ?_) (fun h2 => ?_)
      · rw [f_tg2, if_neg hc]; exact pl_tg3 H hl hP (by omega) het
      · exact absurd ⟨Classical.not_not.mp h1, bI_t (b := t_word (gl l) fr e w_sp) (by omega)⟩ hc
theorem pl_tg1 {s : mg_s} {fr to e : Nat} {P : plT} (H : isT a) (hl : hold s a l) (hP : isPol s P) (hto : to < 2 ^ 29) (het : fr ≤ e ∧ e + 1 < to) : wp L xs (d + 3) 96 71 [some (.ref 138), some (.ref a), some (.int (nI fr)), some (.int (nI to)), some (.int (nI e)), some (.int (nI (e + 1)))] [] s (fun v s' => v = some (.int (nI (bI (f_tg1 (gl l) fr to e P).1))) ∧ (∃ f, mg_M s 138 f = s') ∧ isPol s' (f_tg1 (gl l) fr to e P).2) := by
  have hb := bI_lt (t_word (gl l) fr e w_p)
  have hset : ∀ x : Int32, isPol (mg_I s 138 0 x) (x, P.2) := fun x => by
    unfold isPol
    rw [mg_I_own]
    exact ⟨rfl, hP.2.1, hP.2.2.1, hP.2.2.2⟩
  by_cases hc : P.1 = -1 ∧ t_word (gl l) fr e w_p = true
  · skip
    refine wg_aload_n (d96_71 L xs) rfl ?_
    refine wg_get (d96_72 L xs) (kd := 1) (cj := 7) (k0 := 0) rfl (Or.inl rfl) (by decide) rfl rfl ?_
    refine wg_top (y := P.1) hP.1 ?_
    refine wg_iconst (d96_75 L xs) (x := (-1)) (by decide) ?_
    refine wg_icmp_ne (d96_76 L xs) (t := 116) (by decide) (fun h1 => absurd hc.1 h1) (fun h1 => ?_)
    refine wg_aload_n (d96_79 L xs) rfl ?_
    refine wg_iload_n (d96_80 L xs) rfl ?_
    refine wg_iload (d96_81 L xs) rfl ?_
    refine wg_ldcs (d96_83 L xs) (k0 := 10) rfl ?_
    refine wg_invv (d96_85 L xs) (kd := 7) (mj := 57) (n := 3) rfl (Or.inl rfl) (ys := [.ref (ax_big + 1 + 10), .int (nI e), .int (nI fr)]) (r := []) rfl rfl H.1 (tx_c H) rfl (Nat.le_of_ble_eq_true rfl) (ts_word (k0 := 10) (w := w_p) (fr := fr) (to := e) H hl rfl rfl (by omega) (by omega)) ?_
    rintro _ _ ⟨rfl, rfl⟩
    refine wn_if_eq (d96_88 L xs) (x := bI (t_word (gl l) fr e w_p)) (by omega) (t := 116) (by decide) (fun h2 => absurd hc.2 (by rw [bI_f (b := t_word (gl l) fr e w_p) h2]; decide)) (fun h2 => ?_)
    refine wg_aload_n (d96_91 L xs) rfl ?_
    refine wg_aload_n (d96_92 L xs) rfl ?_
    refine wg_iload (d96_93 L xs) rfl ?_
    refine wg_iload_n (d96_95 L xs) rfl ?_
    refine wg_invs (d96_96 L xs) (kd := 6) (mj := 97) (n := 3) rfl (Or.inl rfl) (ys := [.int (nI to), .int (nI (e + 1)), .ref a]) (r := [.ref 138]) rfl rfl (Nat.le_of_ble_eq_true rfl) (pl_act H hl (by omega) (by omega)) ?_
    rintro _ _ ⟨rfl, rfl⟩
    refine wg_puti (d96_99 L xs) (cj := 7) (k0 := 0) rfl (by decide) rfl (Nat.le_of_ble_eq_true rfl) rfl rfl rfl ?_
    refine wg_aload_n (d96_102 L xs) rfl ?_
    refine wg_get (d96_103 L xs) (kd := 1) (cj := 7) (k0 := 0) rfl (Or.inl rfl) (by decide) rfl rfl ?_
    refine wg_top (y := (oI (t_act (gl l) (e + 1) to))) rfl ?_
    refine wg_iconst (d96_106 L xs) (x := (-1)) (by decide) ?_
    refine wg_icmp_eq (d96_107 L xs) (t := 114) (by decide) (fun h3 => ?_) (fun h3 => ?_)
    · refine wg_iconst (d96_114 L xs) (x := 0) (by decide) ?_
      exact wg_iret (d96_115 L xs) rfl rfl ⟨by rw [f_tg1, if_pos hc]; show _ = some (Value.int (nI (bI (decide (¬ oI (t_act (gl l) (e + 1) to) = -1))))); rw [decide_eq_false (show ¬ ¬ oI (t_act (gl l) (e + 1) to) = -1 by first | (intro h; exact h (by assumption)) | assumption)]; rfl, ⟨_, (mg_I_M _ _ _ _).symm⟩, by rw [f_tg1, if_pos hc]; exact hset _⟩
    · refine wg_iconst (d96_110 L xs) (x := 1) (by decide) ?_
      refine wg_goto (d96_111 L xs) (t := 115) (by decide) ?_
      exact wg_iret (d96_115 L xs) rfl rfl ⟨by rw [f_tg1, if_pos hc]; show _ = some (Value.int (nI (bI (decide (¬ oI (t_act (gl l) (e + 1) to) = -1))))); rw [decide_eq_true (show ¬ oI (t_act (gl l) (e + 1) to) = -1 by assumption)]; rfl, ⟨_, (mg_I_M _ _ _ _).symm⟩, by rw [f_tg1, if_pos hc]; exact hset _⟩
  · skip
    refine wg_aload_n (d96_71 L xs) rfl ?_
    refine wg_get (d96_72 L xs) (kd := 1) (cj := 7) (k0 := 0) rfl (Or.inl rfl) (by decide) rfl rfl ?_
    refine wg_top (y := P.1) hP.1 ?_
    refine wg_iconst (d96_75 L xs) (x := (-1)) (by decide) ?_
    refine wg_icmp_ne (d96_76 L xs) (t := 116) (by decide) (fun h1 => ?_) (fun h1 => ?_)
    · rw [f_tg1, if_neg hc]; exact pl_tg2 H hl hP (by omega) het
    · refine wg_aload_n (d96_79 L xs) rfl ?_
      refine wg_iload_n (d96_80 L xs) rfl ?_
      refine wg_iload (d96_81 L xs) rfl ?_
      refine wg_ldcs (d96_83 L xs) (k0 := 10) rfl ?_
      refine wg_invv (d96_85 L xs) (kd := 7) (mj := 57) (n := 3) rfl (Or.inl rfl) (ys := [.ref (ax_big + 1 + 10), .int (nI e), .int (nI fr)]) (r := []) rfl rfl H.1 (tx_c H) rfl (Nat.le_of_ble_eq_true rfl) (ts_word (k0 := 10) (w := w_p) (fr := fr) (to := e) H hl rfl rfl (by omega) (by omega)) ?_
      rintro _ _ ⟨rfl, rfl⟩
      refine wn_if_eq (d96_88 L xs) (x := bI (t_word (gl l) fr e w_p)) (by omega) (t := 116) (by decide) (fun h2 => ?_) (fun h2 => ?_)
      · rw [f_tg1, if_neg hc]; exact pl_tg2 H hl hP (by omega) het
      · exact absurd ⟨Classical.not_not.mp h1, bI_t (b := t_word (gl l) fr e w_p) (by omega)⟩ hc
theorem pl_tag {s : mg_s} {fr to : Nat} {P : plT} (H : isT a) (hl : hold s a l) (hP : isPol s P) (hto : to < 2 ^ 29) (hf : fr < to) : ca L xs (d + 4) 96 [.ref 138, .ref a, .int (nI fr), .int (nI to)] s (fun v s' => v = some (.int (nI (bI (f_tag (gl l) fr to P).1))) ∧ (∃ f, mg_M s 138 f = s') ∧ isPol s' (f_tag (gl l) fr to P).2) := by
  refine wg_call (Nat.le_of_ble_eq_true rfl) ?_
  show wp L xs (d + 3) 96 0 [some (.ref 138), some (.ref a), some (.int (nI fr)), some (.int (nI to)), none, none] [] s _
  refine wg_iload_n (d96_0 L xs) rfl ?_
  refine wg_istore (d96_1 L xs) (ls' := [some (.ref 138), some (.ref a), some (.int (nI fr)), some (.int (nI to)), some (.int (nI fr)), none]) (Nat.le_of_ble_eq_true rfl) rfl ?_
  refine pl_tag_l H hl hto (to - fr) fr (by omega) ?_
  rw [f_tag]
  have hle := f_let_le (g := gl l) (to - fr) fr
  revert hle
  generalize f_let (gl l) fr (to - fr) = e
  intro hle
  have hfs := (f_find_s (g := gl l) (c := 32) (to - (e + 1)) (e + 1)).2.1
  have hg := gl_lt hl.2.1 e
  refine wg_iload (d96_27 L xs) rfl ?_
  refine wg_iconst (d96_29 L xs) (x := 1) (by decide) ?_
  refine wg_iadd (d96_30 L xs) ?_
  refine wg_top (y := (nI (e + 1))) (nI_add e 1) ?_
  refine wg_istore (d96_31 L xs) (ls' := [some (.ref 138), some (.ref a), some (.int (nI fr)), some (.int (nI to)), some (.int (nI e)), some (.int (nI (e + 1)))]) (Nat.le_of_ble_eq_true rfl) rfl ?_
  refine wg_iload (d96_33 L xs) rfl ?_
  refine wg_iload_n (d96_35 L xs) rfl ?_
  refine wn_icmp_eq (d96_36 L xs) (x := e) (y := fr) (by omega) (by omega) (t := 69) (by decide) (fun h1 => ?_) (fun h1 => ?_)
  · refine wg_iconst (d96_69 L xs) (x := 0) (by decide) ?_
    exact wg_iret (d96_70 L xs) rfl rfl ⟨by rw [f_tg, if_pos (by omega)]; rfl, ⟨s.1 138, mg_M_self s 138⟩, by rw [f_tg, if_pos (by omega)]; exact hP⟩
  · refine wg_aload_n (d96_39 L xs) rfl ?_
    refine wg_iload (d96_40 L xs) rfl ?_
    refine wg_invv (d96_42 L xs) (kd := 7) (mj := 31) (n := 1) rfl (Or.inl rfl) (ys := [.int (nI e)]) (r := []) rfl rfl H.1 (tx_c H) rfl (Nat.le_of_ble_eq_true rfl) (ts_at H hl (by omega)) ?_
    rintro _ _ ⟨rfl, rfl⟩
    refine wg_bipush (d96_45 L xs) (x := 61) (by decide) ?_
    refine wn_icmp_ne (d96_47 L xs) (x := gl l e) (y := 61) (by omega) (by omega) (t := 69) (by decide) (fun h2 => ?_) (fun h2 => ?_)
    · refine wg_iconst (d96_69 L xs) (x := 0) (by decide) ?_
      exact wg_iret (d96_70 L xs) rfl rfl ⟨by rw [f_tg, if_pos (by omega)]; rfl, ⟨s.1 138, mg_M_self s 138⟩, by rw [f_tg, if_pos (by omega)]; exact hP⟩
    · refine wg_iload (d96_50 L xs) rfl ?_
      refine wg_iload_n (d96_52 L xs) rfl ?_
      refine wn_icmp_ge (d96_53 L xs) (x := e + 1) (y := to) (by omega) (by omega) (t := 69) (by decide) (fun h3 => ?_) (fun h3 => ?_)
      · refine wg_iconst (d96_69 L xs) (x := 0) (by decide) ?_
        exact wg_iret (d96_70 L xs) rfl rfl ⟨by rw [f_tg, if_pos (by omega)]; rfl, ⟨s.1 138, mg_M_self s 138⟩, by rw [f_tg, if_pos (by omega)]; exact hP⟩
      · refine wg_aload_n (d96_56 L xs) rfl ?_
        refine wg_bipush (d96_57 L xs) (x := 32) (by decide) ?_
        refine wg_iload (d96_59 L xs) rfl ?_
        refine wg_iload_n (d96_61 L xs) rfl ?_
        refine wg_invv (d96_62 L xs) (kd := 7) (mj := 37) (n := 3) rfl (Or.inl rfl) (ys := [.int (nI to), .int (nI (e + 1)), .int 32]) (r := []) rfl rfl H.1 (tx_c H) rfl (Nat.le_of_ble_eq_true rfl) (ts_find (c := 32) (fr := e + 1) (to := to) H hl (by decide) (by omega) (by omega) rfl) ?_
        rintro _ _ ⟨rfl, rfl⟩
        refine wg_iload_n (d96_65 L xs) rfl ?_
        refine wn_icmp_ge (d96_66 L xs) (x := f_find (gl l) 32 (e + 1) (to - (e + 1))) (y := to) (by omega) (by omega) (t := 71) (by decide) (fun h4 => ?_) (fun h4 => ?_)
        · rw [f_tg, if_neg (by omega)]; exact pl_tg1 H hl hP hto ⟨by omega, by omega⟩
        · refine wg_iconst (d96_69 L xs) (x := 0) (by decide) ?_
          exact wg_iret (d96_70 L xs) rfl rfl ⟨by rw [f_tg, if_pos (by omega)]; rfl, ⟨s.1 138, mg_M_self s 138⟩, by rw [f_tg, if_pos (by omega)]; exact hP⟩
theorem pl_read_l (H : isT a) (ha : ¬ a = 138) : ∀ (m st i : Nat) (P : plT) (c5 c6 : Option Value) (s : mg_s), i + m = l.length + 1 → st ≤ i → hold s a l → isPol s P → wp L xs (d + 4) 93 73 [some (.ref 138), some (.ref a), some (.int 8), some (.int (nI st)), some (.int (nI i)), c5, c6] [] s (fun v s' => v = some (.int (nI (bI (f_pol l m st i P).1))) ∧ (∃ f, mg_M s 138 f = s') ∧ isPol s' (f_pol l m st i P).2) := by
  have hlm := tx_m H
  intro m
  induction m with
  | zero =>
    intro st i P c5 c6 s hm hst hl hP
    have hll := hl.1.2
    rw [f_pol]
    refine wg_iload (d93_73 L xs) rfl ?_
    refine wg_aload_n (d93_75 L xs) rfl ?_
    refine wg_invv (d93_76 L xs) (kd := 7) (mj := 15) (n := 0) rfl (Or.inl rfl) (ys := []) (r := [.int (nI i)]) rfl rfl H.1 (tx_c H) rfl (Nat.le_of_ble_eq_true rfl) (ts_size H hl) ?_
    rintro _ _ ⟨rfl, rfl⟩
    refine wn_icmp_gt (d93_79 L xs) (x := i) (y := l.length) (by omega) (by omega) (t := 153) (by decide) (fun h1 => ?_) (fun h1 => by omega)
    refine wg_aload_n (d93_153 L xs) rfl ?_
    refine wg_get (d93_154 L xs) (kd := 1) (cj := 7) (k0 := 0) rfl (Or.inl rfl) (by decide) rfl rfl ?_
    refine wg_top (y := P.1) hP.1 ?_
    refine wg_iconst (d93_157 L xs) (x := (-1)) (by decide) ?_
    refine wg_icmp_eq (d93_158 L xs) (t := 165) (by decide) (fun h2 => ?_) (fun h2 => ?_)
    · refine wg_iconst (d93_165 L xs) (x := 0) (by decide) ?_
      exact wg_iret (d93_166 L xs) rfl rfl ⟨by rw [decide_eq_false (show ¬ ¬ P.1 = -1 by first | (intro h; exact h (by assumption)) | assumption)]; rfl, ⟨s.1 138, mg_M_self s 138⟩, hP⟩
    · refine wg_iconst (d93_161 L xs) (x := 1) (by decide) ?_
      refine wg_goto (d93_162 L xs) (t := 166) (by decide) ?_
      exact wg_iret (d93_166 L xs) rfl rfl ⟨by rw [decide_eq_true (show ¬ P.1 = -1 by assumption)]; rfl, ⟨s.1 138, mg_M_self s 138⟩, hP⟩
  | succ m ih =>
    intro st i P c5 c6 s hm hst hl hP
    have hll := hl.1.2
    have hg := gl_lt hl.2.1 i
    have hsk := f_skip_le (g := gl l) (c := 32) (i - st) st
    have hbk := f_back_le (g := gl l) (fr := f_skip (gl l) 32 st (i - st)) (i - f_skip (gl l) 32 st (i - st))
    rw [f_pol]
    refine wg_iload (d93_73 L xs) rfl ?_
    refine wg_aload_n (d93_75 L xs) rfl ?_
    refine wg_invv (d93_76 L xs) (kd := 7) (mj := 15) (n := 0) rfl (Or.inl rfl) (ys := []) (r := [.int (nI i)]) rfl rfl H.1 (tx_c H) rfl (Nat.le_of_ble_eq_true rfl) (ts_size H hl) ?_
    rintro _ _ ⟨rfl, rfl⟩
    refine wn_icmp_gt (d93_79 L xs) (x := i) (y := l.length) (by omega) (by omega) (t := 153) (by decide) (fun h1 => by omega) (fun h1 => ?_)
    refine wg_iload (d93_82 L xs) rfl ?_
    refine wg_aload_n (d93_84 L xs) rfl ?_
    refine wg_invv (d93_85 L xs) (kd := 7) (mj := 15) (n := 0) rfl (Or.inl rfl) (ys := []) (r := [.int (nI i)]) rfl rfl H.1 (tx_c H) rfl (Nat.le_of_ble_eq_true rfl) (ts_size H hl) ?_
    rintro _ _ ⟨rfl, rfl⟩
    refine wn_icmp_eq (d93_88 L xs) (x := i) (y := l.length) (by omega) (by omega) (t := 102) (by decide) (fun h2 => ?_) (fun h2 => ?_)
    · refine wg_aload_n (d93_102 L xs) rfl ?_
      refine wg_iload_n (d93_103 L xs) rfl ?_
      refine wg_iload (d93_104 L xs) rfl ?_
      refine wg_invv (d93_106 L xs) (kd := 7) (mj := 94) (n := 2) rfl (Or.inl rfl) (ys := [.int (nI i), .int (nI st)]) (r := []) rfl rfl H.1 (tx_c H) rfl (Nat.le_of_ble_eq_true rfl) (ts_skip H hl (by omega) (by omega)) ?_
      rintro _ _ ⟨rfl, rfl⟩
      refine wg_istore (d93_109 L xs) (ls' := [some (.ref 138), some (.ref a), some (.int 8), some (.int (nI st)), some (.int (nI i)), some (.int (nI (f_skip (gl l) 32 st (i - st)))), c6]) (Nat.le_of_ble_eq_true rfl) rfl ?_
      refine wg_aload_n (d93_111 L xs) rfl ?_
      refine wg_iload (d93_112 L xs) rfl ?_
      refine wg_iload (d93_114 L xs) rfl ?_
      refine wg_invv (d93_116 L xs) (kd := 7) (mj := 95) (n := 2) rfl (Or.inl rfl) (ys := [.int (nI i), .int (nI (f_skip (gl l) 32 st (i - st)))]) (r := []) rfl rfl H.1 (tx_c H) rfl (Nat.le_of_ble_eq_true rfl) (ts_back H hl (by omega) (by omega)) ?_
      rintro _ _ ⟨rfl, rfl⟩
      refine wg_istore (d93_119 L xs) (ls' := [some (.ref 138), some (.ref a), some (.int 8), some (.int (nI st)), some (.int (nI i)), some (.int (nI (f_skip (gl l) 32 st (i - st)))), some (.int (nI (f_back (gl l) (f_skip (gl l) 32 st (i - st)) (i - f_skip (gl l) 32 st (i - st)))))]) (Nat.le_of_ble_eq_true rfl) rfl ?_
      refine wg_iload (d93_121 L xs) rfl ?_
      refine wg_iload (d93_123 L xs) rfl ?_
      refine wn_icmp_ge (d93_125 L xs) (x := f_skip (gl l) 32 st (i - st)) (y := f_back (gl l) (f_skip (gl l) 32 st (i - st)) (i - f_skip (gl l) 32 st (i - st))) (by omega) (by omega) (t := 142) (by decide) (fun h3 => ?_) (fun h3 => ?_)
      · refine wg_iload (d93_142 L xs) rfl ?_
        refine wg_iconst (d93_144 L xs) (x := 1) (by decide) ?_
        refine wg_iadd (d93_145 L xs) ?_
        refine wg_top (y := (nI (i + 1))) (nI_add i 1) ?_
        refine wg_istore_n (d93_146 L xs) (ls' := [some (.ref 138), some (.ref a), some (.int 8), some (.int (nI (i + 1))), some (.int (nI i)), some (.int (nI (f_skip (gl l) 32 st (i - st)))), some (.int (nI (f_back (gl l) (f_skip (gl l) 32 st (i - st)) (i - f_skip (gl l) 32 st (i - st)))))]) (Nat.le_of_ble_eq_true rfl) rfl ?_
        refine wg_iinc (d93_147 L xs) (y := (nI (i + 1))) (ls' := [some (.ref 138), some (.ref a), some (.int 8), some (.int (nI (i + 1))), some (.int (nI (i + 1))), some (.int (nI (f_skip (gl l) 32 st (i - st)))), some (.int (nI (f_back (gl l) (f_skip (gl l) 32 st (i - st)) (i - f_skip (gl l) 32 st (i - st)))))]) rfl (nI_add i 1) rfl ?_
        refine wg_goto (d93_150 L xs) (t := 73) (by decide) ?_
        rw [if_pos (by omega), if_neg (by omega)]; exact ih (i + 1) (i + 1) P _ _ s (by omega) (Nat.le_refl _) hl hP
      · refine wg_aload_n (d93_128 L xs) rfl ?_
        refine wg_aload_n (d93_129 L xs) rfl ?_
        refine wg_iload (d93_130 L xs) rfl ?_
        refine wg_iload (d93_132 L xs) rfl ?_
        refine wg_invv (d93_134 L xs) (kd := 7) (mj := 96) (n := 3) rfl (Or.inl rfl) (ys := [.int (nI (f_back (gl l) (f_skip (gl l) 32 st (i - st)) (i - f_skip (gl l) 32 st (i - st)))), .int (nI (f_skip (gl l) 32 st (i - st))), .ref a]) (r := []) rfl rfl (by decide) rfl rfl (Nat.le_of_ble_eq_true rfl) (pl_tag H hl hP (by omega) (by omega)) ?_
        rintro _ s1 ⟨rfl, ⟨f, e1⟩, hP1⟩
        have hbt := bI_lt (f_tag (gl l) (f_skip (gl l) 32 st (i - st)) (f_back (gl l) (f_skip (gl l) 32 st (i - st)) (i - f_skip (gl l) 32 st (i - st))) P).1
        refine wn_if_ne (d93_137 L xs) (x := bI (f_tag (gl l) (f_skip (gl l) 32 st (i - st)) (f_back (gl l) (f_skip (gl l) 32 st (i - st)) (i - f_skip (gl l) 32 st (i - st))) P).1) (by omega) (t := 142) (by decide) (fun h4 => ?_) (fun h4 => ?_)
        · refine wg_iload (d93_142 L xs) rfl ?_
          refine wg_iconst (d93_144 L xs) (x := 1) (by decide) ?_
          refine wg_iadd (d93_145 L xs) ?_
          refine wg_top (y := (nI (i + 1))) (nI_add i 1) ?_
          refine wg_istore_n (d93_146 L xs) (ls' := [some (.ref 138), some (.ref a), some (.int 8), some (.int (nI (i + 1))), some (.int (nI i)), some (.int (nI (f_skip (gl l) 32 st (i - st)))), some (.int (nI (f_back (gl l) (f_skip (gl l) 32 st (i - st)) (i - f_skip (gl l) 32 st (i - st)))))]) (Nat.le_of_ble_eq_true rfl) rfl ?_
          refine wg_iinc (d93_147 L xs) (y := (nI (i + 1))) (ls' := [some (.ref 138), some (.ref a), some (.int 8), some (.int (nI (i + 1))), some (.int (nI (i + 1))), some (.int (nI (f_skip (gl l) 32 st (i - st)))), some (.int (nI (f_back (gl l) (f_skip (gl l) 32 st (i - st)) (i - f_skip (gl l) 32 st (i - st)))))]) rfl (nI_add i 1) rfl ?_
          refine wg_goto (d93_150 L xs) (t := 73) (by decide) ?_
          rw [if_pos (by omega), if_pos (by omega), if_pos (bI_t (by omega))]; subst e1; exact wp_mono (ih (i + 1) (i + 1) _ _ _ _ (by omega) (Nat.le_refl _) (hold_M hl ha) hP1) (fun v s' h => ⟨h.1, h.2.1.elim (fun f' h' => ⟨f', by rw [← h', mg_M_M]⟩), h.2.2⟩)
        · refine wg_iconst (d93_140 L xs) (x := 0) (by decide) ?_
          exact wg_iret (d93_141 L xs) rfl rfl (by rw [if_pos (by omega), if_pos (by omega), if_neg (by rw [bI_f (b := (f_tag (gl l) (f_skip (gl l) 32 st (i - st)) (f_back (gl l) (f_skip (gl l) 32 st (i - st)) (i - f_skip (gl l) 32 st (i - st))) P).1) (by omega)]; decide)]; exact ⟨rfl, ⟨f, e1⟩, hP1⟩)
    · refine wg_aload_n (d93_91 L xs) rfl ?_
      refine wg_iload (d93_92 L xs) rfl ?_
      refine wg_invv (d93_94 L xs) (kd := 7) (mj := 31) (n := 1) rfl (Or.inl rfl) (ys := [.int (nI i)]) (r := []) rfl rfl H.1 (tx_c H) rfl (Nat.le_of_ble_eq_true rfl) (ts_at H hl (by omega)) ?_
      rintro _ _ ⟨rfl, rfl⟩
      refine wg_bipush (d93_97 L xs) (x := 59) (by decide) ?_
      refine wn_icmp_ne (d93_99 L xs) (x := gl l i) (y := 59) (by omega) (by omega) (t := 147) (by decide) (fun h5 => ?_) (fun h5 => ?_)
      · refine wg_iinc (d93_147 L xs) (y := (nI (i + 1))) (ls' := [some (.ref 138), some (.ref a), some (.int 8), some (.int (nI st)), some (.int (nI (i + 1))), c5, c6]) rfl (nI_add i 1) rfl ?_
        refine wg_goto (d93_150 L xs) (t := 73) (by decide) ?_
        rw [if_neg (by omega)]; exact ih st (i + 1) P c5 c6 s (by omega) (by omega) hl hP
      · refine wg_aload_n (d93_102 L xs) rfl ?_
        refine wg_iload_n (d93_103 L xs) rfl ?_
        refine wg_iload (d93_104 L xs) rfl ?_
        refine wg_invv (d93_106 L xs) (kd := 7) (mj := 94) (n := 2) rfl (Or.inl rfl) (ys := [.int (nI i), .int (nI st)]) (r := []) rfl rfl H.1 (tx_c H) rfl (Nat.le_of_ble_eq_true rfl) (ts_skip H hl (by omega) (by omega)) ?_
        rintro _ _ ⟨rfl, rfl⟩
        refine wg_istore (d93_109 L xs) (ls' := [some (.ref 138), some (.ref a), some (.int 8), some (.int (nI st)), some (.int (nI i)), some (.int (nI (f_skip (gl l) 32 st (i - st)))), c6]) (Nat.le_of_ble_eq_true rfl) rfl ?_
        refine wg_aload_n (d93_111 L xs) rfl ?_
        refine wg_iload (d93_112 L xs) rfl ?_
        refine wg_iload (d93_114 L xs) rfl ?_
        refine wg_invv (d93_116 L xs) (kd := 7) (mj := 95) (n := 2) rfl (Or.inl rfl) (ys := [.int (nI i), .int (nI (f_skip (gl l) 32 st (i - st)))]) (r := []) rfl rfl H.1 (tx_c H) rfl (Nat.le_of_ble_eq_true rfl) (ts_back H hl (by omega) (by omega)) ?_
        rintro _ _ ⟨rfl, rfl⟩
        refine wg_istore (d93_119 L xs) (ls' := [some (.ref 138), some (.ref a), some (.int 8), some (.int (nI st)), some (.int (nI i)), some (.int (nI (f_skip (gl l) 32 st (i - st)))), some (.int (nI (f_back (gl l) (f_skip (gl l) 32 st (i - st)) (i - f_skip (gl l) 32 st (i - st)))))]) (Nat.le_of_ble_eq_true rfl) rfl ?_
        refine wg_iload (d93_121 L xs) rfl ?_
        refine wg_iload (d93_123 L xs) rfl ?_
        refine wn_icmp_ge (d93_125 L xs) (x := f_skip (gl l) 32 st (i - st)) (y := f_back (gl l) (f_skip (gl l) 32 st (i - st)) (i - f_skip (gl l) 32 st (i - st))) (by omega) (by omega) (t := 142) (by decide) (fun h6 => ?_) (fun h6 => ?_)
        · refine wg_iload (d93_142 L xs) rfl ?_
          refine wg_iconst (d93_144 L xs) (x := 1) (by decide) ?_
          refine wg_iadd (d93_145 L xs) ?_
          refine wg_top (y := (nI (i + 1))) (nI_add i 1) ?_
          refine wg_istore_n (d93_146 L xs) (ls' := [some (.ref 138), some (.ref a), some (.int 8), some (.int (nI (i + 1))), some (.int (nI i)), some (.int (nI (f_skip (gl l) 32 st (i - st)))), some (.int (nI (f_back (gl l) (f_skip (gl l) 32 st (i - st)) (i - f_skip (gl l) 32 st (i - st)))))]) (Nat.le_of_ble_eq_true rfl) rfl ?_
          refine wg_iinc (d93_147 L xs) (y := (nI (i + 1))) (ls' := [some (.ref 138), some (.ref a), some (.int 8), some (.int (nI (i + 1))), some (.int (nI (i + 1))), some (.int (nI (f_skip (gl l) 32 st (i - st)))), some (.int (nI (f_back (gl l) (f_skip (gl l) 32 st (i - st)) (i - f_skip (gl l) 32 st (i - st)))))]) rfl (nI_add i 1) rfl ?_
          refine wg_goto (d93_150 L xs) (t := 73) (by decide) ?_
          rw [if_pos (by omega), if_neg (by omega)]; exact ih (i + 1) (i + 1) P _ _ s (by omega) (Nat.le_refl _) hl hP
        · refine wg_aload_n (d93_128 L xs) rfl ?_
          refine wg_aload_n (d93_129 L xs) rfl ?_
          refine wg_iload (d93_130 L xs) rfl ?_
          refine wg_iload (d93_132 L xs) rfl ?_
          refine wg_invv (d93_134 L xs) (kd := 7) (mj := 96) (n := 3) rfl (Or.inl rfl) (ys := [.int (nI (f_back (gl l) (f_skip (gl l) 32 st (i - st)) (i - f_skip (gl l) 32 st (i - st)))), .int (nI (f_skip (gl l) 32 st (i - st))), .ref a]) (r := []) rfl rfl (by decide) rfl rfl (Nat.le_of_ble_eq_true rfl) (pl_tag H hl hP (by omega) (by omega)) ?_
          rintro _ s1 ⟨rfl, ⟨f, e1⟩, hP1⟩
          have hbt := bI_lt (f_tag (gl l) (f_skip (gl l) 32 st (i - st)) (f_back (gl l) (f_skip (gl l) 32 st (i - st)) (i - f_skip (gl l) 32 st (i - st))) P).1
          refine wn_if_ne (d93_137 L xs) (x := bI (f_tag (gl l) (f_skip (gl l) 32 st (i - st)) (f_back (gl l) (f_skip (gl l) 32 st (i - st)) (i - f_skip (gl l) 32 st (i - st))) P).1) (by omega) (t := 142) (by decide) (fun h7 => ?_) (fun h7 => ?_)
          · refine wg_iload (d93_142 L xs) rfl ?_
            refine wg_iconst (d93_144 L xs) (x := 1) (by decide) ?_
            refine wg_iadd (d93_145 L xs) ?_
            refine wg_top (y := (nI (i + 1))) (nI_add i 1) ?_
            refine wg_istore_n (d93_146 L xs) (ls' := [some (.ref 138), some (.ref a), some (.int 8), some (.int (nI (i + 1))), some (.int (nI i)), some (.int (nI (f_skip (gl l) 32 st (i - st)))), some (.int (nI (f_back (gl l) (f_skip (gl l) 32 st (i - st)) (i - f_skip (gl l) 32 st (i - st)))))]) (Nat.le_of_ble_eq_true rfl) rfl ?_
            refine wg_iinc (d93_147 L xs) (y := (nI (i + 1))) (ls' := [some (.ref 138), some (.ref a), some (.int 8), some (.int (nI (i + 1))), some (.int (nI (i + 1))), some (.int (nI (f_skip (gl l) 32 st (i - st)))), some (.int (nI (f_back (gl l) (f_skip (gl l) 32 st (i - st)) (i - f_skip (gl l) 32 st (i - st)))))]) rfl (nI_add i 1) rfl ?_
            refine wg_goto (d93_150 L xs) (t := 73) (by decide) ?_
            rw [if_pos (by omega), if_pos (by omega), if_pos (bI_t (by omega))]; subst e1; exact wp_mono (ih (i + 1) (i + 1) _ _ _ _ (by omega) (Nat.le_refl _) (hold_M hl ha) hP1) (fun v s' h => ⟨h.1, h.2.1.elim (fun f' h' => ⟨f', by rw [← h', mg_M_M]⟩), h.2.2⟩)
          · refine wg_iconst (d93_140 L xs) (x := 0) (by decide) ?_
            exact wg_iret (d93_141 L xs) rfl rfl (by rw [if_pos (by omega), if_pos (by omega), if_neg (by rw [bI_f (b := (f_tag (gl l) (f_skip (gl l) 32 st (i - st)) (f_back (gl l) (f_skip (gl l) 32 st (i - st)) (i - f_skip (gl l) 32 st (i - st))) P).1) (by omega)]; decide)]; exact ⟨rfl, ⟨f, e1⟩, hP1⟩)
theorem pl_read {s : mg_s} (H : isT a) (hl : hold s a l) (ha : ¬ a = 138) : ca L xs (d + 5) 93 [.ref 138, .ref a] s (fun v s' => v = some (.int (nI (bI (t_pol l).1))) ∧ (∃ f, mg_M s 138 f = s') ∧ isPol s' (t_pol l).2) := by
  refine wg_call (Nat.le_of_ble_eq_true rfl) ?_
  show wp L xs (d + 4) 93 0 [some (.ref 138), some (.ref a), none, none, none, none, none] [] s _
  refine wg_aload_n (d93_0 L xs) rfl ?_
  refine wg_iconst (d93_1 L xs) (x := (-1)) (by decide) ?_
  refine wg_puti (d93_2 L xs) (cj := 7) (k0 := 0) rfl (by decide) rfl (Nat.le_of_ble_eq_true rfl) rfl rfl rfl ?_
  refine wg_aload_n (d93_5 L xs) rfl ?_
  refine wg_iconst (d93_6 L xs) (x := (-1)) (by decide) ?_
  refine wg_puti (d93_7 L xs) (cj := 7) (k0 := 1) rfl (by decide) rfl (Nat.le_of_ble_eq_true rfl) rfl rfl rfl ?_
  refine wg_aload_n (d93_10 L xs) rfl ?_
  refine wg_iconst (d93_11 L xs) (x := (-1)) (by decide) ?_
  refine wg_puti (d93_12 L xs) (cj := 7) (k0 := 2) rfl (by decide) rfl (Nat.le_of_ble_eq_true rfl) rfl rfl rfl ?_
  refine wg_aload_n (d93_15 L xs) rfl ?_
  refine wg_iconst (d93_16 L xs) (x := (-1)) (by decide) ?_
  refine wg_puti (d93_17 L xs) (cj := 7) (k0 := 3) rfl (by decide) rfl (Nat.le_of_ble_eq_true rfl) rfl rfl rfl ?_
  obtain ⟨s4, hs4⟩ : ∃ s4, s4 = (mg_I (mg_I (mg_I (mg_I s 138 0 (-1)) 138 1 (-1)) 138 2 (-1)) 138 3 (-1)) := ⟨_, rfl⟩
  rw [← hs4]
  have h4 : mg_M s 138 (upd (upd (upd (upd (s.1 138) 0 (-1)) 1 (-1)) 2 (-1)) 3 (-1)) = s4 := by rw [hs4, mg_I_M s 138 0 (-1), mg_M_I, mg_M_I, mg_M_I]
  have hl4 : hold s4 a l := by rw [← h4]; exact hold_M hl ha
  have hP4 : isPol s4 (-1, -1, -1, -1) := by
    rw [← h4]
    unfold isPol
    rw [mg_M_own]
    exact ⟨rfl, rfl, rfl, rfl⟩
  have hll := hl.1.2
  have hlm := tx_m H
  have hg8 := gl_lt hl.2.1 8
  have hbw := bI_lt (t_word (gl l) 0 (min 8 l.length) w_dm)
  refine wg_ldcs (d93_20 L xs) (k0 := 9) rfl ?_
  refine wg_stl (d93_22 L xs) (k0 := 9) (n := 8) rfl rfl rfl (Nat.le_of_ble_eq_true rfl) ?_
  refine wg_top (y := 8) rfl ?_
  refine wg_istore_n (d93_25 L xs) (ls' := [some (.ref 138), some (.ref a), some (.int 8), none, none, none, none]) (Nat.le_of_ble_eq_true rfl) rfl ?_
  refine wg_aload_n (d93_26 L xs) rfl ?_
  refine wg_iconst (d93_27 L xs) (x := 0) (by decide) ?_
  refine wg_iload_n (d93_28 L xs) rfl ?_
  refine wg_aload_n (d93_29 L xs) rfl ?_
  refine wg_invv (d93_30 L xs) (kd := 7) (mj := 15) (n := 0) rfl (Or.inl rfl) (ys := []) (r := [.int 8, .int 0, .ref a]) rfl rfl H.1 (tx_c H) rfl (Nat.le_of_ble_eq_true rfl) (ts_size H hl4) ?_
  rintro _ _ ⟨rfl, rfl⟩
  refine wg_mmin (d93_33 L xs) rfl (Nat.le_of_ble_eq_true rfl) (z := (nI (min 8 l.length))) (mg_min (x := 8) (y := l.length) (by omega) (by omega)) ?_
  refine wg_ldcs (d93_36 L xs) (k0 := 9) rfl ?_
  refine wg_invv (d93_38 L xs) (kd := 7) (mj := 57) (n := 3) rfl (Or.inl rfl) (ys := [.ref (ax_big + 1 + 9), .int (nI (min 8 l.length)), .int 0]) (r := []) rfl rfl H.1 (tx_c H) rfl (Nat.le_of_ble_eq_true rfl) (ts_word (k0 := 9) (w := w_dm) (fr := 0) (to := min 8 l.length) H hl4 rfl rfl (by omega) (by omega)) ?_
  rintro _ _ ⟨rfl, rfl⟩
  refine wn_if_ne (d93_41 L xs) (x := bI (t_word (gl l) 0 (min 8 l.length) w_dm)) (by omega) (t := 46) (by decide) (fun h1 => ?_) (fun h1 => ?_)
  · refine wg_aload_n (d93_46 L xs) rfl ?_
    refine wg_invv (d93_47 L xs) (kd := 7) (mj := 15) (n := 0) rfl (Or.inl rfl) (ys := []) (r := []) rfl rfl H.1 (tx_c H) rfl (Nat.le_of_ble_eq_true rfl) (ts_size H hl4) ?_
    rintro _ _ ⟨rfl, rfl⟩
    refine wg_iload_n (d93_50 L xs) rfl ?_
    refine wn_icmp_le (d93_51 L xs) (x := l.length) (y := 8) (by omega) (by omega) (t := 66) (by decide) (fun h2 => ?_) (fun h2 => ?_)
    · refine wg_iload_n (d93_66 L xs) rfl ?_
      refine wg_iconst (d93_67 L xs) (x := 1) (by decide) ?_
      refine wg_iadd (d93_68 L xs) ?_
      refine wg_top (y := 9) (by decide) ?_
      refine wg_istore_n (d93_69 L xs) (ls' := [some (.ref 138), some (.ref a), some (.int 8), some (.int 9), none, none, none]) (Nat.le_of_ble_eq_true rfl) rfl ?_
      refine wg_iload_n (d93_70 L xs) rfl ?_
      refine wg_istore (d93_71 L xs) (ls' := [some (.ref 138), some (.ref a), some (.int 8), some (.int 9), some (.int 9), none, none]) (Nat.le_of_ble_eq_true rfl) rfl ?_
      have h8 : 8 ≤ l.length := by
        have h9 := bI_t (b := t_word (gl l) 0 (min 8 l.length) w_dm) (by omega)
        unfold t_word at h9
        rw [Bool.and_eq_true, decide_eq_true_eq] at h9
        have h7 : w_dm.length = 8 := rfl
        omega
      refine wp_mono (pl_read_l H ha (l.length + 1 - 9) 9 9 (-1, -1, -1, -1) none none s4 (by omega) (Nat.le_refl _) hl4 hP4) (fun v s' h => ?_)
      rw [t_pol, if_pos (bI_t (by omega)), if_neg (by omega)]
      exact ⟨h.1, h.2.1.elim (fun f' h' => ⟨f', by rw [← h', ← h4]; exact (mg_M_M _ _ _ _).symm⟩), h.2.2⟩
    · refine wg_aload_n (d93_54 L xs) rfl ?_
      refine wg_iload_n (d93_55 L xs) rfl ?_
      refine wg_invv (d93_56 L xs) (kd := 7) (mj := 31) (n := 1) rfl (Or.inl rfl) (ys := [.int 8]) (r := []) rfl rfl H.1 (tx_c H) rfl (Nat.le_of_ble_eq_true rfl) (ts_at (i := 8) H hl4 (by decide)) ?_
      rintro _ _ ⟨rfl, rfl⟩
      refine wg_bipush (d93_59 L xs) (x := 59) (by decide) ?_
      refine wn_icmp_eq (d93_61 L xs) (x := gl l 8) (y := 59) (by omega) (by omega) (t := 66) (by decide) (fun h3 => ?_) (fun h3 => ?_)
      · refine wg_iload_n (d93_66 L xs) rfl ?_
        refine wg_iconst (d93_67 L xs) (x := 1) (by decide) ?_
        refine wg_iadd (d93_68 L xs) ?_
        refine wg_top (y := 9) (by decide) ?_
        refine wg_istore_n (d93_69 L xs) (ls' := [some (.ref 138), some (.ref a), some (.int 8), some (.int 9), none, none, none]) (Nat.le_of_ble_eq_true rfl) rfl ?_
        refine wg_iload_n (d93_70 L xs) rfl ?_
        refine wg_istore (d93_71 L xs) (ls' := [some (.ref 138), some (.ref a), some (.int 8), some (.int 9), some (.int 9), none, none]) (Nat.le_of_ble_eq_true rfl) rfl ?_
        have h8 : 8 ≤ l.length := by
          have h9 := bI_t (b := t_word (gl l) 0 (min 8 l.length) w_dm) (by omega)
          unfold t_word at h9
          rw [Bool.and_eq_true, decide_eq_true_eq] at h9
          have h7 : w_dm.length = 8 := rfl
          omega
        refine wp_mono (pl_read_l H ha (l.length + 1 - 9) 9 9 (-1, -1, -1, -1) none none s4 (by omega) (Nat.le_refl _) hl4 hP4) (fun v s' h => ?_)
        rw [t_pol, if_pos (bI_t (by omega)), if_neg (by omega)]
        exact ⟨h.1, h.2.1.elim (fun f' h' => ⟨f', by rw [← h', ← h4]; exact (mg_M_M _ _ _ _).symm⟩), h.2.2⟩
      · refine wg_iconst (d93_64 L xs) (x := 0) (by decide) ?_
        exact wg_iret (d93_65 L xs) rfl rfl (by rw [t_pol, if_pos (bI_t (by omega)), if_pos (by omega)]; exact ⟨rfl, ⟨_, h4⟩, hP4⟩)
  · refine wg_iconst (d93_44 L xs) (x := 0) (by decide) ?_
    exact wg_iret (d93_45 L xs) rfl rfl (by rw [t_pol, if_neg (by rw [bI_f (b := t_word (gl l) 0 (min 8 l.length) w_dm) (by omega)]; decide)]; exact ⟨rfl, ⟨_, h4⟩, hP4⟩)
end PO
