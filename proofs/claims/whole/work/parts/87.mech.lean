/-! the reference's mechanisms -/
theorem d134_0 (L : Nat) (xs : Nat → Int32) : decode (ax_code (mgT L xs) 134) 0 = .ok (.aload_n 0, 1) := by
  show decode prog_11_method_28_code 0 = _
  decide +kernel
theorem d134_1 (L : Nat) (xs : Nat → Int32) : decode (ax_code (mgT L xs) 134) 1 = .ok (.iload_n 1, 1) := by
  show decode prog_11_method_28_code 1 = _
  decide +kernel
theorem d134_2 (L : Nat) (xs : Nat → Int32) : decode (ax_code (mgT L xs) 134) 2 = .ok (.iload_n 2, 1) := by
  show decode prog_11_method_28_code 2 = _
  decide +kernel
theorem d134_3 (L : Nat) (xs : Nat → Int32) : decode (ax_code (mgT L xs) 134) 3 = .ok (.bipush 97, 2) := by
  show decode prog_11_method_28_code 3 = _
  decide +kernel
theorem d134_5 (L : Nat) (xs : Nat → Int32) : decode (ax_code (mgT L xs) 134) 5 = .ok (.bipush 108, 2) := by
  show decode prog_11_method_28_code 5 = _
  decide +kernel
theorem d134_7 (L : Nat) (xs : Nat → Int32) : decode (ax_code (mgT L xs) 134) 7 = .ok (.bipush 108, 2) := by
  show decode prog_11_method_28_code 7 = _
  decide +kernel
theorem d134_9 (L : Nat) (xs : Nat → Int32) : decode (ax_code (mgT L xs) 134) 9 = .ok (.invokevirtual 170, 3) := by
  show decode prog_11_method_28_code 9 = _
  decide +kernel
theorem d134_12 (L : Nat) (xs : Nat → Int32) : decode (ax_code (mgT L xs) 134) 12 = .ok (.ifCond .eq 17, 3) := by
  show decode prog_11_method_28_code 12 = _
  decide +kernel
theorem d134_15 (L : Nat) (xs : Nat → Int32) : decode (ax_code (mgT L xs) 134) 15 = .ok (.iload_n 2, 1) := by
  show decode prog_11_method_28_code 15 = _
  decide +kernel
theorem d134_16 (L : Nat) (xs : Nat → Int32) : decode (ax_code (mgT L xs) 134) 16 = .ok (.iconst 3, 1) := by
  show decode prog_11_method_28_code 16 = _
  decide +kernel
theorem d134_17 (L : Nat) (xs : Nat → Int32) : decode (ax_code (mgT L xs) 134) 17 = .ok (.iadd, 1) := by
  show decode prog_11_method_28_code 17 = _
  decide +kernel
theorem d134_18 (L : Nat) (xs : Nat → Int32) : decode (ax_code (mgT L xs) 134) 18 = .ok (.iload_n 3, 1) := by
  show decode prog_11_method_28_code 18 = _
  decide +kernel
theorem d134_19 (L : Nat) (xs : Nat → Int32) : decode (ax_code (mgT L xs) 134) 19 = .ok (.if_icmp .ne 10, 3) := by
  show decode prog_11_method_28_code 19 = _
  decide +kernel
theorem d134_22 (L : Nat) (xs : Nat → Int32) : decode (ax_code (mgT L xs) 134) 22 = .ok (.aload_n 0, 1) := by
  show decode prog_11_method_28_code 22 = _
  decide +kernel
theorem d134_23 (L : Nat) (xs : Nat → Int32) : decode (ax_code (mgT L xs) 134) 23 = .ok (.iload_n 3, 1) := by
  show decode prog_11_method_28_code 23 = _
  decide +kernel
theorem d134_24 (L : Nat) (xs : Nat → Int32) : decode (ax_code (mgT L xs) 134) 24 = .ok (.putfield 96, 3) := by
  show decode prog_11_method_28_code 24 = _
  decide +kernel
theorem d134_27 (L : Nat) (xs : Nat → Int32) : decode (ax_code (mgT L xs) 134) 27 = .ok (.iconst 0, 1) := by
  show decode prog_11_method_28_code 27 = _
  decide +kernel
theorem d134_28 (L : Nat) (xs : Nat → Int32) : decode (ax_code (mgT L xs) 134) 28 = .ok (.ireturn, 1) := by
  show decode prog_11_method_28_code 28 = _
  decide +kernel
theorem d134_29 (L : Nat) (xs : Nat → Int32) : decode (ax_code (mgT L xs) 134) 29 = .ok (.aload_n 0, 1) := by
  show decode prog_11_method_28_code 29 = _
  decide +kernel
theorem d134_30 (L : Nat) (xs : Nat → Int32) : decode (ax_code (mgT L xs) 134) 30 = .ok (.iload_n 1, 1) := by
  show decode prog_11_method_28_code 30 = _
  decide +kernel
theorem d134_31 (L : Nat) (xs : Nat → Int32) : decode (ax_code (mgT L xs) 134) 31 = .ok (.iload_n 2, 1) := by
  show decode prog_11_method_28_code 31 = _
  decide +kernel
theorem d134_32 (L : Nat) (xs : Nat → Int32) : decode (ax_code (mgT L xs) 134) 32 = .ok (.bipush 105, 2) := by
  show decode prog_11_method_28_code 32 = _
  decide +kernel
theorem d134_34 (L : Nat) (xs : Nat → Int32) : decode (ax_code (mgT L xs) 134) 34 = .ok (.bipush 110, 2) := by
  show decode prog_11_method_28_code 34 = _
  decide +kernel
theorem d134_36 (L : Nat) (xs : Nat → Int32) : decode (ax_code (mgT L xs) 134) 36 = .ok (.bipush 99, 2) := by
  show decode prog_11_method_28_code 36 = _
  decide +kernel
theorem d134_38 (L : Nat) (xs : Nat → Int32) : decode (ax_code (mgT L xs) 134) 38 = .ok (.invokevirtual 170, 3) := by
  show decode prog_11_method_28_code 38 = _
  decide +kernel
theorem d134_41 (L : Nat) (xs : Nat → Int32) : decode (ax_code (mgT L xs) 134) 41 = .ok (.ifCond .eq 55, 3) := by
  show decode prog_11_method_28_code 41 = _
  decide +kernel
theorem d134_44 (L : Nat) (xs : Nat → Int32) : decode (ax_code (mgT L xs) 134) 44 = .ok (.aload_n 0, 1) := by
  show decode prog_11_method_28_code 44 = _
  decide +kernel
theorem d134_45 (L : Nat) (xs : Nat → Int32) : decode (ax_code (mgT L xs) 134) 45 = .ok (.iload_n 1, 1) := by
  show decode prog_11_method_28_code 45 = _
  decide +kernel
theorem d134_46 (L : Nat) (xs : Nat → Int32) : decode (ax_code (mgT L xs) 134) 46 = .ok (.iload_n 2, 1) := by
  show decode prog_11_method_28_code 46 = _
  decide +kernel
theorem d134_47 (L : Nat) (xs : Nat → Int32) : decode (ax_code (mgT L xs) 134) 47 = .ok (.iconst 3, 1) := by
  show decode prog_11_method_28_code 47 = _
  decide +kernel
theorem d134_48 (L : Nat) (xs : Nat → Int32) : decode (ax_code (mgT L xs) 134) 48 = .ok (.iadd, 1) := by
  show decode prog_11_method_28_code 48 = _
  decide +kernel
theorem d134_49 (L : Nat) (xs : Nat → Int32) : decode (ax_code (mgT L xs) 134) 49 = .ok (.bipush 108, 2) := by
  show decode prog_11_method_28_code 49 = _
  decide +kernel
theorem d134_51 (L : Nat) (xs : Nat → Int32) : decode (ax_code (mgT L xs) 134) 51 = .ok (.bipush 117, 2) := by
  show decode prog_11_method_28_code 51 = _
  decide +kernel
theorem d134_53 (L : Nat) (xs : Nat → Int32) : decode (ax_code (mgT L xs) 134) 53 = .ok (.bipush 100, 2) := by
  show decode prog_11_method_28_code 53 = _
  decide +kernel
theorem d134_55 (L : Nat) (xs : Nat → Int32) : decode (ax_code (mgT L xs) 134) 55 = .ok (.invokevirtual 170, 3) := by
  show decode prog_11_method_28_code 55 = _
  decide +kernel
theorem d134_58 (L : Nat) (xs : Nat → Int32) : decode (ax_code (mgT L xs) 134) 58 = .ok (.ifCond .eq 38, 3) := by
  show decode prog_11_method_28_code 58 = _
  decide +kernel
theorem d134_61 (L : Nat) (xs : Nat → Int32) : decode (ax_code (mgT L xs) 134) 61 = .ok (.aload_n 0, 1) := by
  show decode prog_11_method_28_code 61 = _
  decide +kernel
theorem d134_62 (L : Nat) (xs : Nat → Int32) : decode (ax_code (mgT L xs) 134) 62 = .ok (.iload_n 1, 1) := by
  show decode prog_11_method_28_code 62 = _
  decide +kernel
theorem d134_63 (L : Nat) (xs : Nat → Int32) : decode (ax_code (mgT L xs) 134) 63 = .ok (.iload_n 2, 1) := by
  show decode prog_11_method_28_code 63 = _
  decide +kernel
theorem d134_64 (L : Nat) (xs : Nat → Int32) : decode (ax_code (mgT L xs) 134) 64 = .ok (.bipush 6, 2) := by
  show decode prog_11_method_28_code 64 = _
  decide +kernel
theorem d134_66 (L : Nat) (xs : Nat → Int32) : decode (ax_code (mgT L xs) 134) 66 = .ok (.iadd, 1) := by
  show decode prog_11_method_28_code 66 = _
  decide +kernel
theorem d134_67 (L : Nat) (xs : Nat → Int32) : decode (ax_code (mgT L xs) 134) 67 = .ok (.bipush 101, 2) := by
  show decode prog_11_method_28_code 67 = _
  decide +kernel
theorem d134_69 (L : Nat) (xs : Nat → Int32) : decode (ax_code (mgT L xs) 134) 69 = .ok (.bipush 58, 2) := by
  show decode prog_11_method_28_code 69 = _
  decide +kernel
theorem d134_71 (L : Nat) (xs : Nat → Int32) : decode (ax_code (mgT L xs) 134) 71 = .ok (.aload_n 0, 1) := by
  show decode prog_11_method_28_code 71 = _
  decide +kernel
theorem d134_72 (L : Nat) (xs : Nat → Int32) : decode (ax_code (mgT L xs) 134) 72 = .ok (.iload_n 1, 1) := by
  show decode prog_11_method_28_code 72 = _
  decide +kernel
theorem d134_73 (L : Nat) (xs : Nat → Int32) : decode (ax_code (mgT L xs) 134) 73 = .ok (.iload_n 2, 1) := by
  show decode prog_11_method_28_code 73 = _
  decide +kernel
theorem d134_74 (L : Nat) (xs : Nat → Int32) : decode (ax_code (mgT L xs) 134) 74 = .ok (.bipush 8, 2) := by
  show decode prog_11_method_28_code 74 = _
  decide +kernel
theorem d134_76 (L : Nat) (xs : Nat → Int32) : decode (ax_code (mgT L xs) 134) 76 = .ok (.iadd, 1) := by
  show decode prog_11_method_28_code 76 = _
  decide +kernel
theorem d134_77 (L : Nat) (xs : Nat → Int32) : decode (ax_code (mgT L xs) 134) 77 = .ok (.invokevirtual 166, 3) := by
  show decode prog_11_method_28_code 77 = _
  decide +kernel
theorem d134_80 (L : Nat) (xs : Nat → Int32) : decode (ax_code (mgT L xs) 134) 80 = .ok (.invokevirtual 170, 3) := by
  show decode prog_11_method_28_code 80 = _
  decide +kernel
theorem d134_83 (L : Nat) (xs : Nat → Int32) : decode (ax_code (mgT L xs) 134) 83 = .ok (.ifCond .eq 13, 3) := by
  show decode prog_11_method_28_code 83 = _
  decide +kernel
theorem d134_86 (L : Nat) (xs : Nat → Int32) : decode (ax_code (mgT L xs) 134) 86 = .ok (.aload_n 0, 1) := by
  show decode prog_11_method_28_code 86 = _
  decide +kernel
theorem d134_87 (L : Nat) (xs : Nat → Int32) : decode (ax_code (mgT L xs) 134) 87 = .ok (.iload_n 2, 1) := by
  show decode prog_11_method_28_code 87 = _
  decide +kernel
theorem d134_88 (L : Nat) (xs : Nat → Int32) : decode (ax_code (mgT L xs) 134) 88 = .ok (.bipush 7, 2) := by
  show decode prog_11_method_28_code 88 = _
  decide +kernel
theorem d134_90 (L : Nat) (xs : Nat → Int32) : decode (ax_code (mgT L xs) 134) 90 = .ok (.iadd, 1) := by
  show decode prog_11_method_28_code 90 = _
  decide +kernel
theorem d134_91 (L : Nat) (xs : Nat → Int32) : decode (ax_code (mgT L xs) 134) 91 = .ok (.putfield 96, 3) := by
  show decode prog_11_method_28_code 91 = _
  decide +kernel
theorem d134_94 (L : Nat) (xs : Nat → Int32) : decode (ax_code (mgT L xs) 134) 94 = .ok (.iconst 1, 1) := by
  show decode prog_11_method_28_code 94 = _
  decide +kernel
theorem d134_95 (L : Nat) (xs : Nat → Int32) : decode (ax_code (mgT L xs) 134) 95 = .ok (.ireturn, 1) := by
  show decode prog_11_method_28_code 95 = _
  decide +kernel
theorem d134_96 (L : Nat) (xs : Nat → Int32) : decode (ax_code (mgT L xs) 134) 96 = .ok (.aload_n 0, 1) := by
  show decode prog_11_method_28_code 96 = _
  decide +kernel
theorem d134_97 (L : Nat) (xs : Nat → Int32) : decode (ax_code (mgT L xs) 134) 97 = .ok (.iload_n 1, 1) := by
  show decode prog_11_method_28_code 97 = _
  decide +kernel
theorem d134_98 (L : Nat) (xs : Nat → Int32) : decode (ax_code (mgT L xs) 134) 98 = .ok (.iload_n 2, 1) := by
  show decode prog_11_method_28_code 98 = _
  decide +kernel
theorem d134_99 (L : Nat) (xs : Nat → Int32) : decode (ax_code (mgT L xs) 134) 99 = .ok (.bipush 101, 2) := by
  show decode prog_11_method_28_code 99 = _
  decide +kernel
theorem d134_101 (L : Nat) (xs : Nat → Int32) : decode (ax_code (mgT L xs) 134) 101 = .ok (.bipush 120, 2) := by
  show decode prog_11_method_28_code 101 = _
  decide +kernel
theorem d134_103 (L : Nat) (xs : Nat → Int32) : decode (ax_code (mgT L xs) 134) 103 = .ok (.bipush 105, 2) := by
  show decode prog_11_method_28_code 103 = _
  decide +kernel
theorem d134_105 (L : Nat) (xs : Nat → Int32) : decode (ax_code (mgT L xs) 134) 105 = .ok (.invokevirtual 170, 3) := by
  show decode prog_11_method_28_code 105 = _
  decide +kernel
theorem d134_108 (L : Nat) (xs : Nat → Int32) : decode (ax_code (mgT L xs) 134) 108 = .ok (.ifCond .eq 44, 3) := by
  show decode prog_11_method_28_code 108 = _
  decide +kernel
theorem d134_111 (L : Nat) (xs : Nat → Int32) : decode (ax_code (mgT L xs) 134) 111 = .ok (.aload_n 0, 1) := by
  show decode prog_11_method_28_code 111 = _
  decide +kernel
theorem d134_112 (L : Nat) (xs : Nat → Int32) : decode (ax_code (mgT L xs) 134) 112 = .ok (.iload_n 1, 1) := by
  show decode prog_11_method_28_code 112 = _
  decide +kernel
theorem d134_113 (L : Nat) (xs : Nat → Int32) : decode (ax_code (mgT L xs) 134) 113 = .ok (.iload_n 2, 1) := by
  show decode prog_11_method_28_code 113 = _
  decide +kernel
theorem d134_114 (L : Nat) (xs : Nat → Int32) : decode (ax_code (mgT L xs) 134) 114 = .ok (.iconst 3, 1) := by
  show decode prog_11_method_28_code 114 = _
  decide +kernel
theorem d134_115 (L : Nat) (xs : Nat → Int32) : decode (ax_code (mgT L xs) 134) 115 = .ok (.iadd, 1) := by
  show decode prog_11_method_28_code 115 = _
  decide +kernel
theorem d134_116 (L : Nat) (xs : Nat → Int32) : decode (ax_code (mgT L xs) 134) 116 = .ok (.bipush 115, 2) := by
  show decode prog_11_method_28_code 116 = _
  decide +kernel
theorem d134_118 (L : Nat) (xs : Nat → Int32) : decode (ax_code (mgT L xs) 134) 118 = .ok (.bipush 116, 2) := by
  show decode prog_11_method_28_code 118 = _
  decide +kernel
theorem d134_120 (L : Nat) (xs : Nat → Int32) : decode (ax_code (mgT L xs) 134) 120 = .ok (.bipush 115, 2) := by
  show decode prog_11_method_28_code 120 = _
  decide +kernel
theorem d134_122 (L : Nat) (xs : Nat → Int32) : decode (ax_code (mgT L xs) 134) 122 = .ok (.invokevirtual 170, 3) := by
  show decode prog_11_method_28_code 122 = _
  decide +kernel
theorem d134_125 (L : Nat) (xs : Nat → Int32) : decode (ax_code (mgT L xs) 134) 125 = .ok (.ifCond .eq 27, 3) := by
  show decode prog_11_method_28_code 125 = _
  decide +kernel
theorem d134_128 (L : Nat) (xs : Nat → Int32) : decode (ax_code (mgT L xs) 134) 128 = .ok (.aload_n 0, 1) := by
  show decode prog_11_method_28_code 128 = _
  decide +kernel
theorem d134_129 (L : Nat) (xs : Nat → Int32) : decode (ax_code (mgT L xs) 134) 129 = .ok (.iload_n 1, 1) := by
  show decode prog_11_method_28_code 129 = _
  decide +kernel
theorem d134_130 (L : Nat) (xs : Nat → Int32) : decode (ax_code (mgT L xs) 134) 130 = .ok (.iload_n 2, 1) := by
  show decode prog_11_method_28_code 130 = _
  decide +kernel
theorem d134_131 (L : Nat) (xs : Nat → Int32) : decode (ax_code (mgT L xs) 134) 131 = .ok (.bipush 6, 2) := by
  show decode prog_11_method_28_code 131 = _
  decide +kernel
theorem d134_133 (L : Nat) (xs : Nat → Int32) : decode (ax_code (mgT L xs) 134) 133 = .ok (.iadd, 1) := by
  show decode prog_11_method_28_code 133 = _
  decide +kernel
theorem d134_134 (L : Nat) (xs : Nat → Int32) : decode (ax_code (mgT L xs) 134) 134 = .ok (.invokevirtual 166, 3) := by
  show decode prog_11_method_28_code 134 = _
  decide +kernel
theorem d134_137 (L : Nat) (xs : Nat → Int32) : decode (ax_code (mgT L xs) 134) 137 = .ok (.bipush 58, 2) := by
  show decode prog_11_method_28_code 137 = _
  decide +kernel
theorem d134_139 (L : Nat) (xs : Nat → Int32) : decode (ax_code (mgT L xs) 134) 139 = .ok (.if_icmp .ne 13, 3) := by
  show decode prog_11_method_28_code 139 = _
  decide +kernel
theorem d134_142 (L : Nat) (xs : Nat → Int32) : decode (ax_code (mgT L xs) 134) 142 = .ok (.aload_n 0, 1) := by
  show decode prog_11_method_28_code 142 = _
  decide +kernel
theorem d134_143 (L : Nat) (xs : Nat → Int32) : decode (ax_code (mgT L xs) 134) 143 = .ok (.iload_n 2, 1) := by
  show decode prog_11_method_28_code 143 = _
  decide +kernel
theorem d134_144 (L : Nat) (xs : Nat → Int32) : decode (ax_code (mgT L xs) 134) 144 = .ok (.bipush 6, 2) := by
  show decode prog_11_method_28_code 144 = _
  decide +kernel
theorem d134_146 (L : Nat) (xs : Nat → Int32) : decode (ax_code (mgT L xs) 134) 146 = .ok (.iadd, 1) := by
  show decode prog_11_method_28_code 146 = _
  decide +kernel
theorem d134_147 (L : Nat) (xs : Nat → Int32) : decode (ax_code (mgT L xs) 134) 147 = .ok (.putfield 96, 3) := by
  show decode prog_11_method_28_code 147 = _
  decide +kernel
theorem d134_150 (L : Nat) (xs : Nat → Int32) : decode (ax_code (mgT L xs) 134) 150 = .ok (.iconst 5, 1) := by
  show decode prog_11_method_28_code 150 = _
  decide +kernel
theorem d134_151 (L : Nat) (xs : Nat → Int32) : decode (ax_code (mgT L xs) 134) 151 = .ok (.ireturn, 1) := by
  show decode prog_11_method_28_code 151 = _
  decide +kernel
theorem d134_152 (L : Nat) (xs : Nat → Int32) : decode (ax_code (mgT L xs) 134) 152 = .ok (.aload_n 0, 1) := by
  show decode prog_11_method_28_code 152 = _
  decide +kernel
theorem d134_153 (L : Nat) (xs : Nat → Int32) : decode (ax_code (mgT L xs) 134) 153 = .ok (.iload_n 1, 1) := by
  show decode prog_11_method_28_code 153 = _
  decide +kernel
theorem d134_154 (L : Nat) (xs : Nat → Int32) : decode (ax_code (mgT L xs) 134) 154 = .ok (.iload_n 2, 1) := by
  show decode prog_11_method_28_code 154 = _
  decide +kernel
theorem d134_155 (L : Nat) (xs : Nat → Int32) : decode (ax_code (mgT L xs) 134) 155 = .ok (.bipush 105, 2) := by
  show decode prog_11_method_28_code 155 = _
  decide +kernel
theorem d134_157 (L : Nat) (xs : Nat → Int32) : decode (ax_code (mgT L xs) 134) 157 = .ok (.bipush 112, 2) := by
  show decode prog_11_method_28_code 157 = _
  decide +kernel
theorem d134_159 (L : Nat) (xs : Nat → Int32) : decode (ax_code (mgT L xs) 134) 159 = .ok (.bipush 52, 2) := by
  show decode prog_11_method_28_code 159 = _
  decide +kernel
theorem d134_161 (L : Nat) (xs : Nat → Int32) : decode (ax_code (mgT L xs) 134) 161 = .ok (.invokevirtual 170, 3) := by
  show decode prog_11_method_28_code 161 = _
  decide +kernel
theorem d134_164 (L : Nat) (xs : Nat → Int32) : decode (ax_code (mgT L xs) 134) 164 = .ok (.ifCond .eq 25, 3) := by
  show decode prog_11_method_28_code 164 = _
  decide +kernel
theorem d134_167 (L : Nat) (xs : Nat → Int32) : decode (ax_code (mgT L xs) 134) 167 = .ok (.aload_n 0, 1) := by
  show decode prog_11_method_28_code 167 = _
  decide +kernel
theorem d134_168 (L : Nat) (xs : Nat → Int32) : decode (ax_code (mgT L xs) 134) 168 = .ok (.iload_n 1, 1) := by
  show decode prog_11_method_28_code 168 = _
  decide +kernel
theorem d134_169 (L : Nat) (xs : Nat → Int32) : decode (ax_code (mgT L xs) 134) 169 = .ok (.iload_n 2, 1) := by
  show decode prog_11_method_28_code 169 = _
  decide +kernel
theorem d134_170 (L : Nat) (xs : Nat → Int32) : decode (ax_code (mgT L xs) 134) 170 = .ok (.iconst 3, 1) := by
  show decode prog_11_method_28_code 170 = _
  decide +kernel
theorem d134_171 (L : Nat) (xs : Nat → Int32) : decode (ax_code (mgT L xs) 134) 171 = .ok (.iadd, 1) := by
  show decode prog_11_method_28_code 171 = _
  decide +kernel
theorem d134_172 (L : Nat) (xs : Nat → Int32) : decode (ax_code (mgT L xs) 134) 172 = .ok (.invokevirtual 166, 3) := by
  show decode prog_11_method_28_code 172 = _
  decide +kernel
theorem d134_175 (L : Nat) (xs : Nat → Int32) : decode (ax_code (mgT L xs) 134) 175 = .ok (.bipush 58, 2) := by
  show decode prog_11_method_28_code 175 = _
  decide +kernel
theorem d134_177 (L : Nat) (xs : Nat → Int32) : decode (ax_code (mgT L xs) 134) 177 = .ok (.if_icmp .ne 12, 3) := by
  show decode prog_11_method_28_code 177 = _
  decide +kernel
theorem d134_180 (L : Nat) (xs : Nat → Int32) : decode (ax_code (mgT L xs) 134) 180 = .ok (.aload_n 0, 1) := by
  show decode prog_11_method_28_code 180 = _
  decide +kernel
theorem d134_181 (L : Nat) (xs : Nat → Int32) : decode (ax_code (mgT L xs) 134) 181 = .ok (.iload_n 2, 1) := by
  show decode prog_11_method_28_code 181 = _
  decide +kernel
theorem d134_182 (L : Nat) (xs : Nat → Int32) : decode (ax_code (mgT L xs) 134) 182 = .ok (.iconst 3, 1) := by
  show decode prog_11_method_28_code 182 = _
  decide +kernel
theorem d134_183 (L : Nat) (xs : Nat → Int32) : decode (ax_code (mgT L xs) 134) 183 = .ok (.iadd, 1) := by
  show decode prog_11_method_28_code 183 = _
  decide +kernel
theorem d134_184 (L : Nat) (xs : Nat → Int32) : decode (ax_code (mgT L xs) 134) 184 = .ok (.putfield 96, 3) := by
  show decode prog_11_method_28_code 184 = _
  decide +kernel
theorem d134_187 (L : Nat) (xs : Nat → Int32) : decode (ax_code (mgT L xs) 134) 187 = .ok (.iconst 4, 1) := by
  show decode prog_11_method_28_code 187 = _
  decide +kernel
theorem d134_188 (L : Nat) (xs : Nat → Int32) : decode (ax_code (mgT L xs) 134) 188 = .ok (.ireturn, 1) := by
  show decode prog_11_method_28_code 188 = _
  decide +kernel
theorem d134_189 (L : Nat) (xs : Nat → Int32) : decode (ax_code (mgT L xs) 134) 189 = .ok (.aload_n 0, 1) := by
  show decode prog_11_method_28_code 189 = _
  decide +kernel
theorem d134_190 (L : Nat) (xs : Nat → Int32) : decode (ax_code (mgT L xs) 134) 190 = .ok (.iload_n 1, 1) := by
  show decode prog_11_method_28_code 190 = _
  decide +kernel
theorem d134_191 (L : Nat) (xs : Nat → Int32) : decode (ax_code (mgT L xs) 134) 191 = .ok (.iload_n 2, 1) := by
  show decode prog_11_method_28_code 191 = _
  decide +kernel
theorem d134_192 (L : Nat) (xs : Nat → Int32) : decode (ax_code (mgT L xs) 134) 192 = .ok (.invokevirtual 166, 3) := by
  show decode prog_11_method_28_code 192 = _
  decide +kernel
theorem d134_195 (L : Nat) (xs : Nat → Int32) : decode (ax_code (mgT L xs) 134) 195 = .ok (.bipush 109, 2) := by
  show decode prog_11_method_28_code 195 = _
  decide +kernel
theorem d134_197 (L : Nat) (xs : Nat → Int32) : decode (ax_code (mgT L xs) 134) 197 = .ok (.if_icmp .ne 20, 3) := by
  show decode prog_11_method_28_code 197 = _
  decide +kernel
theorem d134_200 (L : Nat) (xs : Nat → Int32) : decode (ax_code (mgT L xs) 134) 200 = .ok (.aload_n 0, 1) := by
  show decode prog_11_method_28_code 200 = _
  decide +kernel
theorem d134_201 (L : Nat) (xs : Nat → Int32) : decode (ax_code (mgT L xs) 134) 201 = .ok (.iload_n 1, 1) := by
  show decode prog_11_method_28_code 201 = _
  decide +kernel
theorem d134_202 (L : Nat) (xs : Nat → Int32) : decode (ax_code (mgT L xs) 134) 202 = .ok (.iload_n 2, 1) := by
  show decode prog_11_method_28_code 202 = _
  decide +kernel
theorem d134_203 (L : Nat) (xs : Nat → Int32) : decode (ax_code (mgT L xs) 134) 203 = .ok (.iconst 1, 1) := by
  show decode prog_11_method_28_code 203 = _
  decide +kernel
theorem d134_204 (L : Nat) (xs : Nat → Int32) : decode (ax_code (mgT L xs) 134) 204 = .ok (.iadd, 1) := by
  show decode prog_11_method_28_code 204 = _
  decide +kernel
theorem d134_205 (L : Nat) (xs : Nat → Int32) : decode (ax_code (mgT L xs) 134) 205 = .ok (.invokevirtual 166, 3) := by
  show decode prog_11_method_28_code 205 = _
  decide +kernel
theorem d134_208 (L : Nat) (xs : Nat → Int32) : decode (ax_code (mgT L xs) 134) 208 = .ok (.bipush 120, 2) := by
  show decode prog_11_method_28_code 208 = _
  decide +kernel
theorem d134_210 (L : Nat) (xs : Nat → Int32) : decode (ax_code (mgT L xs) 134) 210 = .ok (.if_icmp .ne 7, 3) := by
  show decode prog_11_method_28_code 210 = _
  decide +kernel
theorem d134_213 (L : Nat) (xs : Nat → Int32) : decode (ax_code (mgT L xs) 134) 213 = .ok (.iconst 1, 1) := by
  show decode prog_11_method_28_code 213 = _
  decide +kernel
theorem d134_214 (L : Nat) (xs : Nat → Int32) : decode (ax_code (mgT L xs) 134) 214 = .ok (.goto 4, 3) := by
  show decode prog_11_method_28_code 214 = _
  decide +kernel
theorem d134_217 (L : Nat) (xs : Nat → Int32) : decode (ax_code (mgT L xs) 134) 217 = .ok (.iconst 0, 1) := by
  show decode prog_11_method_28_code 217 = _
  decide +kernel
theorem d134_218 (L : Nat) (xs : Nat → Int32) : decode (ax_code (mgT L xs) 134) 218 = .ok (.istore 4, 2) := by
  show decode prog_11_method_28_code 218 = _
  decide +kernel
theorem d134_220 (L : Nat) (xs : Nat → Int32) : decode (ax_code (mgT L xs) 134) 220 = .ok (.aload_n 0, 1) := by
  show decode prog_11_method_28_code 220 = _
  decide +kernel
theorem d134_221 (L : Nat) (xs : Nat → Int32) : decode (ax_code (mgT L xs) 134) 221 = .ok (.iload 4, 2) := by
  show decode prog_11_method_28_code 221 = _
  decide +kernel
theorem d134_223 (L : Nat) (xs : Nat → Int32) : decode (ax_code (mgT L xs) 134) 223 = .ok (.ifCond .eq 9, 3) := by
  show decode prog_11_method_28_code 223 = _
  decide +kernel
theorem d134_226 (L : Nat) (xs : Nat → Int32) : decode (ax_code (mgT L xs) 134) 226 = .ok (.iload_n 2, 1) := by
  show decode prog_11_method_28_code 226 = _
  decide +kernel
theorem d134_227 (L : Nat) (xs : Nat → Int32) : decode (ax_code (mgT L xs) 134) 227 = .ok (.iconst 2, 1) := by
  show decode prog_11_method_28_code 227 = _
  decide +kernel
theorem d134_228 (L : Nat) (xs : Nat → Int32) : decode (ax_code (mgT L xs) 134) 228 = .ok (.iadd, 1) := by
  show decode prog_11_method_28_code 228 = _
  decide +kernel
theorem d134_229 (L : Nat) (xs : Nat → Int32) : decode (ax_code (mgT L xs) 134) 229 = .ok (.goto 6, 3) := by
  show decode prog_11_method_28_code 229 = _
  decide +kernel
theorem d134_232 (L : Nat) (xs : Nat → Int32) : decode (ax_code (mgT L xs) 134) 232 = .ok (.iload_n 2, 1) := by
  show decode prog_11_method_28_code 232 = _
  decide +kernel
theorem d134_233 (L : Nat) (xs : Nat → Int32) : decode (ax_code (mgT L xs) 134) 233 = .ok (.iconst 1, 1) := by
  show decode prog_11_method_28_code 233 = _
  decide +kernel
theorem d134_234 (L : Nat) (xs : Nat → Int32) : decode (ax_code (mgT L xs) 134) 234 = .ok (.iadd, 1) := by
  show decode prog_11_method_28_code 234 = _
  decide +kernel
theorem d134_235 (L : Nat) (xs : Nat → Int32) : decode (ax_code (mgT L xs) 134) 235 = .ok (.putfield 96, 3) := by
  show decode prog_11_method_28_code 235 = _
  decide +kernel
theorem d134_238 (L : Nat) (xs : Nat → Int32) : decode (ax_code (mgT L xs) 134) 238 = .ok (.aload_n 0, 1) := by
  show decode prog_11_method_28_code 238 = _
  decide +kernel
theorem d134_239 (L : Nat) (xs : Nat → Int32) : decode (ax_code (mgT L xs) 134) 239 = .ok (.iload_n 1, 1) := by
  show decode prog_11_method_28_code 239 = _
  decide +kernel
theorem d134_240 (L : Nat) (xs : Nat → Int32) : decode (ax_code (mgT L xs) 134) 240 = .ok (.aload_n 0, 1) := by
  show decode prog_11_method_28_code 240 = _
  decide +kernel
theorem d134_241 (L : Nat) (xs : Nat → Int32) : decode (ax_code (mgT L xs) 134) 241 = .ok (.getfield 96, 3) := by
  show decode prog_11_method_28_code 241 = _
  decide +kernel
theorem d134_244 (L : Nat) (xs : Nat → Int32) : decode (ax_code (mgT L xs) 134) 244 = .ok (.invokevirtual 166, 3) := by
  show decode prog_11_method_28_code 244 = _
  decide +kernel
theorem d134_247 (L : Nat) (xs : Nat → Int32) : decode (ax_code (mgT L xs) 134) 247 = .ok (.istore 5, 2) := by
  show decode prog_11_method_28_code 247 = _
  decide +kernel
theorem d134_249 (L : Nat) (xs : Nat → Int32) : decode (ax_code (mgT L xs) 134) 249 = .ok (.aload_n 0, 1) := by
  show decode prog_11_method_28_code 249 = _
  decide +kernel
theorem d134_250 (L : Nat) (xs : Nat → Int32) : decode (ax_code (mgT L xs) 134) 250 = .ok (.getfield 96, 3) := by
  show decode prog_11_method_28_code 250 = _
  decide +kernel
theorem d134_253 (L : Nat) (xs : Nat → Int32) : decode (ax_code (mgT L xs) 134) 253 = .ok (.iload_n 3, 1) := by
  show decode prog_11_method_28_code 253 = _
  decide +kernel
theorem d134_254 (L : Nat) (xs : Nat → Int32) : decode (ax_code (mgT L xs) 134) 254 = .ok (.if_icmp .eq 17, 3) := by
  show decode prog_11_method_28_code 254 = _
  decide +kernel
theorem d134_257 (L : Nat) (xs : Nat → Int32) : decode (ax_code (mgT L xs) 134) 257 = .ok (.iload 5, 2) := by
  show decode prog_11_method_28_code 257 = _
  decide +kernel
theorem d134_259 (L : Nat) (xs : Nat → Int32) : decode (ax_code (mgT L xs) 134) 259 = .ok (.bipush 58, 2) := by
  show decode prog_11_method_28_code 259 = _
  decide +kernel
theorem d134_261 (L : Nat) (xs : Nat → Int32) : decode (ax_code (mgT L xs) 134) 261 = .ok (.if_icmp .eq 10, 3) := by
  show decode prog_11_method_28_code 261 = _
  decide +kernel
theorem d134_264 (L : Nat) (xs : Nat → Int32) : decode (ax_code (mgT L xs) 134) 264 = .ok (.iload 5, 2) := by
  show decode prog_11_method_28_code 264 = _
  decide +kernel
theorem d134_266 (L : Nat) (xs : Nat → Int32) : decode (ax_code (mgT L xs) 134) 266 = .ok (.bipush 47, 2) := by
  show decode prog_11_method_28_code 266 = _
  decide +kernel
theorem d134_268 (L : Nat) (xs : Nat → Int32) : decode (ax_code (mgT L xs) 134) 268 = .ok (.if_icmp .ne 7, 3) := by
  show decode prog_11_method_28_code 268 = _
  decide +kernel
theorem d134_271 (L : Nat) (xs : Nat → Int32) : decode (ax_code (mgT L xs) 134) 271 = .ok (.iconst 1, 1) := by
  show decode prog_11_method_28_code 271 = _
  decide +kernel
theorem d134_272 (L : Nat) (xs : Nat → Int32) : decode (ax_code (mgT L xs) 134) 272 = .ok (.goto 4, 3) := by
  show decode prog_11_method_28_code 272 = _
  decide +kernel
theorem d134_275 (L : Nat) (xs : Nat → Int32) : decode (ax_code (mgT L xs) 134) 275 = .ok (.iconst 0, 1) := by
  show decode prog_11_method_28_code 275 = _
  decide +kernel
theorem d134_276 (L : Nat) (xs : Nat → Int32) : decode (ax_code (mgT L xs) 134) 276 = .ok (.istore 6, 2) := by
  show decode prog_11_method_28_code 276 = _
  decide +kernel
theorem d134_278 (L : Nat) (xs : Nat → Int32) : decode (ax_code (mgT L xs) 134) 278 = .ok (.iload 6, 2) := by
  show decode prog_11_method_28_code 278 = _
  decide +kernel
theorem d134_280 (L : Nat) (xs : Nat → Int32) : decode (ax_code (mgT L xs) 134) 280 = .ok (.ifCond .eq 32, 3) := by
  show decode prog_11_method_28_code 280 = _
  decide +kernel
theorem d134_283 (L : Nat) (xs : Nat → Int32) : decode (ax_code (mgT L xs) 134) 283 = .ok (.iload 4, 2) := by
  show decode prog_11_method_28_code 283 = _
  decide +kernel
theorem d134_285 (L : Nat) (xs : Nat → Int32) : decode (ax_code (mgT L xs) 134) 285 = .ok (.ifCond .ne 14, 3) := by
  show decode prog_11_method_28_code 285 = _
  decide +kernel
theorem d134_288 (L : Nat) (xs : Nat → Int32) : decode (ax_code (mgT L xs) 134) 288 = .ok (.aload_n 0, 1) := by
  show decode prog_11_method_28_code 288 = _
  decide +kernel
theorem d134_289 (L : Nat) (xs : Nat → Int32) : decode (ax_code (mgT L xs) 134) 289 = .ok (.iload_n 1, 1) := by
  show decode prog_11_method_28_code 289 = _
  decide +kernel
theorem d134_290 (L : Nat) (xs : Nat → Int32) : decode (ax_code (mgT L xs) 134) 290 = .ok (.iload_n 2, 1) := by
  show decode prog_11_method_28_code 290 = _
  decide +kernel
theorem d134_291 (L : Nat) (xs : Nat → Int32) : decode (ax_code (mgT L xs) 134) 291 = .ok (.invokevirtual 166, 3) := by
  show decode prog_11_method_28_code 291 = _
  decide +kernel
theorem d134_294 (L : Nat) (xs : Nat → Int32) : decode (ax_code (mgT L xs) 134) 294 = .ok (.bipush 97, 2) := by
  show decode prog_11_method_28_code 294 = _
  decide +kernel
theorem d134_296 (L : Nat) (xs : Nat → Int32) : decode (ax_code (mgT L xs) 134) 296 = .ok (.if_icmp .ne 16, 3) := by
  show decode prog_11_method_28_code 296 = _
  decide +kernel
theorem d134_299 (L : Nat) (xs : Nat → Int32) : decode (ax_code (mgT L xs) 134) 299 = .ok (.iload 4, 2) := by
  show decode prog_11_method_28_code 299 = _
  decide +kernel
theorem d134_301 (L : Nat) (xs : Nat → Int32) : decode (ax_code (mgT L xs) 134) 301 = .ok (.ifCond .eq 7, 3) := by
  show decode prog_11_method_28_code 301 = _
  decide +kernel
theorem d134_304 (L : Nat) (xs : Nat → Int32) : decode (ax_code (mgT L xs) 134) 304 = .ok (.iconst 3, 1) := by
  show decode prog_11_method_28_code 304 = _
  decide +kernel
theorem d134_305 (L : Nat) (xs : Nat → Int32) : decode (ax_code (mgT L xs) 134) 305 = .ok (.goto 8, 3) := by
  show decode prog_11_method_28_code 305 = _
  decide +kernel
theorem d134_308 (L : Nat) (xs : Nat → Int32) : decode (ax_code (mgT L xs) 134) 308 = .ok (.iconst 2, 1) := by
  show decode prog_11_method_28_code 308 = _
  decide +kernel
theorem d134_309 (L : Nat) (xs : Nat → Int32) : decode (ax_code (mgT L xs) 134) 309 = .ok (.goto 4, 3) := by
  show decode prog_11_method_28_code 309 = _
  decide +kernel
theorem d134_312 (L : Nat) (xs : Nat → Int32) : decode (ax_code (mgT L xs) 134) 312 = .ok (.iconst (-1), 1) := by
  show decode prog_11_method_28_code 312 = _
  decide +kernel
theorem d134_313 (L : Nat) (xs : Nat → Int32) : decode (ax_code (mgT L xs) 134) 313 = .ok (.ireturn, 1) := by
  show decode prog_11_method_28_code 313 = _
  decide +kernel
def r_m5 (D : List Nat) (i j : Nat) : Option Nat × Nat := if ga D i = 109 ∧ ga D (i + 1) = 120 then (if i + 2 = j ∨ ga D (i + 2) = 58 ∨ ga D (i + 2) = 47 then (some 3, i + 2) else (none, i + 2)) else (if (i + 1 = j ∨ ga D (i + 1) = 58 ∨ ga D (i + 1) = 47) ∧ ga D i = 97 then (some 2, i + 1) else (none, i + 1))
def r_m4 (D : List Nat) (i j : Nat) : Option Nat × Nat := if (ga D i = 105 ∧ ga D (i + 1) = 112 ∧ ga D (i + 2) = 52) ∧ ga D (i + 3) = 58 then (some 4, i + 3) else r_m5 D i j
def r_m3 (D : List Nat) (i j : Nat) : Option Nat × Nat := if (ga D i = 101 ∧ ga D (i + 1) = 120 ∧ ga D (i + 2) = 105) ∧ (ga D (i + 3) = 115 ∧ ga D (i + 4) = 116 ∧ ga D (i + 5) = 115) ∧ ga D (i + 6) = 58 then (some 5, i + 6) else r_m4 D i j
def r_m2 (D : List Nat) (i j : Nat) : Option Nat × Nat := if (ga D i = 105 ∧ ga D (i + 1) = 110 ∧ ga D (i + 2) = 99) ∧ (ga D (i + 3) = 108 ∧ ga D (i + 4) = 117 ∧ ga D (i + 5) = 100) ∧ ga D (i + 6) = 101 ∧ ga D (i + 7) = 58 then (some 1, i + 7) else r_m3 D i j
def r_m1 (D : List Nat) (i j : Nat) : Option Nat × Nat := if (ga D i = 97 ∧ ga D (i + 1) = 108 ∧ ga D (i + 2) = 108) ∧ i + 3 = j then (some 0, j) else r_m2 D i j
section MM
variable {L : Nat} {xs : Nat → Int32} {d r c : Nat} {D : List Nat} {s : mg_s}
theorem md_m5 {i j : Nat} (hR : isRec s r c D) (hj : j ≤ D.length) (hi : i ≤ j) : wp L xs (d + 2) 134 189 [some (.ref 141), some (.int (nI r)), some (.int (nI (c + i))), some (.int (nI (c + j))), none, none, none] [] s (fun v s' => v = some (.int (oI (r_m5 D i j).1)) ∧ mg_I s 141 9 (nI (c + (r_m5 D i j).2)) = s') := by
  have hr16 := hR.1
  have hc1 := hR.2.1
  have hcl := hR.2.2.1
  have hgl0 := ga_lt hR i
  have hgl1 := ga_lt hR (i + 1)
  have hgl2 := ga_lt hR (i + 2)
  refine wg_aload_n (d134_189 L xs) rfl ?_
  refine wg_iload_n (d134_190 L xs) rfl ?_
  refine wg_iload_n (d134_191 L xs) rfl ?_
  refine wg_invv (d134_192 L xs) (kd := 7) (mj := 125) (n := 2) rfl (Or.inl rfl) (ys := [.int (nI (c + i)), .int (nI r)]) (r := []) rfl rfl (by decide) rfl rfl (Nat.le_of_ble_eq_true rfl) (md_at (i := i) hR (by omega) (by omega)) ?_
  rintro _ _ ⟨rfl, rfl⟩
  refine wg_bipush (d134_195 L xs) (x := 109) (by decide) ?_
  refine wn_icmp_ne (d134_197 L xs) (x := ga D i) (y := 109) (by omega) (by omega) (t := 217) (by decide) (fun h1 => ?_) (fun h1 => ?_)
  · refine wg_iconst (d134_217 L xs) (x := 0) (by decide) ?_
    refine wg_istore (d134_218 L xs) (ls' := [some (.ref 141), some (.int (nI r)), some (.int (nI (c + i))), some (.int (nI (c + j))), some (.int 0), none, none]) (Nat.le_of_ble_eq_true rfl) rfl ?_
    refine wg_aload_n (d134_220 L xs) rfl ?_
    refine wg_iload (d134_221 L xs) rfl ?_
    refine wg_if_eq (d134_223 L xs) (t := 232) (by decide) (fun _ => ?_) (fun hn => absurd (by decide) hn)
    refine wg_iload_n (d134_232 L xs) rfl ?_
    refine wg_iconst (d134_233 L xs) (x := 1) (by decide) ?_
    refine wg_iadd (d134_234 L xs) ?_
    refine wg_top (y := (nI (c + i + 1))) (nI_add (c + i) 1) ?_
    refine wg_puti (d134_235 L xs) (cj := 9) (k0 := 9) rfl (by decide) rfl (Nat.le_of_ble_eq_true rfl) rfl rfl rfl ?_
    refine wg_aload_n (d134_238 L xs) rfl ?_
    refine wg_iload_n (d134_239 L xs) rfl ?_
    refine wg_aload_n (d134_240 L xs) rfl ?_
    refine wg_get (d134_241 L xs) (kd := 1) (cj := 9) (k0 := 9) rfl (Or.inl rfl) (by decide) rfl rfl ?_
    refine wg_top (y := (nI (c + i + 1))) rfl ?_
    refine wg_invv (d134_244 L xs) (kd := 7) (mj := 125) (n := 2) rfl (Or.inl rfl) (ys := [.int (nI (c + i + 1)), .int (nI r)]) (r := []) rfl rfl (by decide) rfl rfl (Nat.le_of_ble_eq_true rfl) (md_at (i := i + 1) hR (by omega) (by omega)) ?_
    rintro _ _ ⟨rfl, rfl⟩
    refine wg_istore (d134_247 L xs) (ls' := [some (.ref 141), some (.int (nI r)), some (.int (nI (c + i))), some (.int (nI (c + j))), some (.int 0), some (.int (nI (ga D (i + 1)))), none]) (Nat.le_of_ble_eq_true rfl) rfl ?_
    refine wg_aload_n (d134_249 L xs) rfl ?_
    refine wg_get (d134_250 L xs) (kd := 1) (cj := 9) (k0 := 9) rfl (Or.inl rfl) (by decide) rfl rfl ?_
    refine wg_top (y := (nI (c + i + 1))) rfl ?_
    refine wg_iload_n (d134_253 L xs) rfl ?_
    refine wn_icmp_eq (d134_254 L xs) (x := c + i + 1) (y := c + j) (by omega) (by omega) (t := 271) (by decide) (fun h3 => ?_) (fun h3 => ?_)
    · refine wg_iconst (d134_271 L xs) (x := 1) (by decide) ?_
      refine wg_goto (d134_272 L xs) (t := 276) (by decide) ?_
      refine wg_istore (d134_276 L xs) (ls' := [some (.ref 141), some (.int (nI r)), some (.int (nI (c + i))), some (.int (nI (c + j))), some (.int 0), some (.int (nI (ga D (i + 1)))), some (.int 1)]) (Nat.le_of_ble_eq_true rfl) rfl ?_
      refine wg_iload (d134_278 L xs) rfl ?_
      refine wg_if_eq (d134_280 L xs) (t := 312) (by decide) (fun hp => absurd hp (by decide)) (fun _ => ?_)
      refine wg_iload (d134_283 L xs) rfl ?_
      refine wg_if_ne (d134_285 L xs) (t := 299) (by decide) (fun hp => absurd hp (by decide)) (fun _ => ?_)
      refine wg_aload_n (d134_288 L xs) rfl ?_
      refine wg_iload_n (d134_289 L xs) rfl ?_
      refine wg_iload_n (d134_290 L xs) rfl ?_
      refine wg_invv (d134_291 L xs) (kd := 7) (mj := 125) (n := 2) rfl (Or.inl rfl) (ys := [.int (nI (c + i)), .int (nI r)]) (r := []) rfl rfl (by decide) rfl rfl (Nat.le_of_ble_eq_true rfl) (md_at (i := i) hR (by omega) (by omega)) ?_
      rintro _ _ ⟨rfl, rfl⟩
      refine wg_bipush (d134_294 L xs) (x := 97) (by decide) ?_
      refine wn_icmp_ne (d134_296 L xs) (x := ga D i) (y := 97) (by omega) (by omega) (t := 312) (by decide) (fun h6 => ?_) (fun h6 => ?_)
      · refine wg_iconst (d134_312 L xs) (x := (-1)) (by decide) ?_
        exact wg_iret (d134_313 L xs) rfl rfl (by unfold r_m5; (repeat' split) <;> first | exact ⟨rfl, rfl⟩ | (exfalso; omega))
      · refine wg_iload (d134_299 L xs) rfl ?_
        refine wg_if_eq (d134_301 L xs) (t := 308) (by decide) (fun _ => ?_) (fun hn => absurd (by decide) hn)
        refine wg_iconst (d134_308 L xs) (x := 2) (by decide) ?_
        refine wg_goto (d134_309 L xs) (t := 313) (by decide) ?_
        exact wg_iret (d134_313 L xs) rfl rfl (by unfold r_m5; (repeat' split) <;> first | exact ⟨rfl, rfl⟩ | (exfalso; omega))
    · refine wg_iload (d134_257 L xs) rfl ?_
      refine wg_bipush (d134_259 L xs) (x := 58) (by decide) ?_
      refine wn_icmp_eq (d134_261 L xs) (x := ga D (i + 1)) (y := 58) (by omega) (by omega) (t := 271) (by decide) (fun h8 => ?_) (fun h8 => ?_)
      · refine wg_iconst (d134_271 L xs) (x := 1) (by decide) ?_
        refine wg_goto (d134_272 L xs) (t := 276) (by decide) ?_
        refine wg_istore (d134_276 L xs) (ls' := [some (.ref 141), some (.int (nI r)), some (.int (nI (c + i))), some (.int (nI (c + j))), some (.int 0), some (.int (nI (ga D (i + 1)))), some (.int 1)]) (Nat.le_of_ble_eq_true rfl) rfl ?_
        refine wg_iload (d134_278 L xs) rfl ?_
        refine wg_if_eq (d134_280 L xs) (t := 312) (by decide) (fun hp => absurd hp (by decide)) (fun _ => ?_)
        refine wg_iload (d134_283 L xs) rfl ?_
        refine wg_if_ne (d134_285 L xs) (t := 299) (by decide) (fun hp => absurd hp (by decide)) (fun _ => ?_)
        refine wg_aload_n (d134_288 L xs) rfl ?_
        refine wg_iload_n (d134_289 L xs) rfl ?_
        refine wg_iload_n (d134_290 L xs) rfl ?_
        refine wg_invv (d134_291 L xs) (kd := 7) (mj := 125) (n := 2) rfl (Or.inl rfl) (ys := [.int (nI (c + i)), .int (nI r)]) (r := []) rfl rfl (by decide) rfl rfl (Nat.le_of_ble_eq_true rfl) (md_at (i := i) hR (by omega) (by omega)) ?_
        rintro _ _ ⟨rfl, rfl⟩
        refine wg_bipush (d134_294 L xs) (x := 97) (by decide) ?_
        refine wn_icmp_ne (d134_296 L xs) (x := ga D i) (y := 97) (by omega) (by omega) (t := 312) (by decide) (fun h11 => ?_) (fun h11 => ?_)
        · refine wg_iconst (d134_312 L xs) (x := (-1)) (by decide) ?_
          exact wg_iret (d134_313 L xs) rfl rfl (by unfold r_m5; (repeat' split) <;> first | exact ⟨rfl, rfl⟩ | (exfalso; omega))
        · refine wg_iload (d134_299 L xs) rfl ?_
          refine wg_if_eq (d134_301 L xs) (t := 308) (by decide) (fun _ => ?_) (fun hn => absurd (by decide) hn)
          refine wg_iconst (d134_308 L xs) (x := 2) (by decide) ?_
          refine wg_goto (d134_309 L xs) (t := 313) (by decide) ?_
          exact wg_iret (d134_313 L xs) rfl rfl (by unfold r_m5; (repeat' split) <;> first | exact ⟨rfl, rfl⟩ | (exfalso; omega))
      · refine wg_iload (d134_264 L xs) rfl ?_
        refine wg_bipush (d134_266 L xs) (x := 47) (by decide) ?_
        refine wn_icmp_ne (d134_268 L xs) (x := ga D (i + 1)) (y := 47) (by omega) (by omega) (t := 275) (by decide) (fun h13 => ?_) (fun h13 => ?_)
        · refine wg_iconst (d134_275 L xs) (x := 0) (by decide) ?_
          refine wg_istore (d134_276 L xs) (ls' := [some (.ref 141), some (.int (nI r)), some (.int (nI (c + i))), some (.int (nI (c + j))), some (.int 0), some (.int (nI (ga D (i + 1)))), some (.int 0)]) (Nat.le_of_ble_eq_true rfl) rfl ?_
          refine wg_iload (d134_278 L xs) rfl ?_
          refine wg_if_eq (d134_280 L xs) (t := 312) (by decide) (fun _ => ?_) (fun hn => absurd (by decide) hn)
          refine wg_iconst (d134_312 L xs) (x := (-1)) (by decide) ?_
          exact wg_iret (d134_313 L xs) rfl rfl (by unfold r_m5; (repeat' split) <;> first | exact ⟨rfl, rfl⟩ | (exfalso; omega))
        · refine wg_iconst (d134_271 L xs) (x := 1) (by decide) ?_
          refine wg_goto (d134_272 L xs) (t := 276) (by decide) ?_
          refine wg_istore (d134_276 L xs) (ls' := [some (.ref 141), some (.int (nI r)), some (.int (nI (c + i))), some (.int (nI (c + j))), some (.int 0), some (.int (nI (ga D (i + 1)))), some (.int 1)]) (Nat.le_of_ble_eq_true rfl) rfl ?_
          refine wg_iload (d134_278 L xs) rfl ?_
          refine wg_if_eq (d134_280 L xs) (t := 312) (by decide) (fun hp => absurd hp (by decide)) (fun _ => ?_)
          refine wg_iload (d134_283 L xs) rfl ?_
          refine wg_if_ne (d134_285 L xs) (t := 299) (by decide) (fun hp => absurd hp (by decide)) (fun _ => ?_)
          refine wg_aload_n (d134_288 L xs) rfl ?_
          refine wg_iload_n (d134_289 L xs) rfl ?_
          refine wg_iload_n (d134_290 L xs) rfl ?_
          refine wg_invv (d134_291 L xs) (kd := 7) (mj := 125) (n := 2) rfl (Or.inl rfl) (ys := [.int (nI (c + i)), .int (nI r)]) (r := []) rfl rfl (by decide) rfl rfl (Nat.le_of_ble_eq_true rfl) (md_at (i := i) hR (by omega) (by omega)) ?_
          rintro _ _ ⟨rfl, rfl⟩
          refine wg_bipush (d134_294 L xs) (x := 97) (by decide) ?_
          refine wn_icmp_ne (d134_296 L xs) (x := ga D i) (y := 97) (by omega) (by omega) (t := 312) (by decide) (fun h17 => ?_) (fun h17 => ?_)
          · refine wg_iconst (d134_312 L xs) (x := (-1)) (by decide) ?_
            exact wg_iret (d134_313 L xs) rfl rfl (by unfold r_m5; (repeat' split) <;> first | exact ⟨rfl, rfl⟩ | (exfalso; omega))
          · refine wg_iload (d134_299 L xs) rfl ?_
            refine wg_if_eq (d134_301 L xs) (t := 308) (by decide) (fun _ => ?_) (fun hn => absurd (by decide) hn)
            refine wg_iconst (d134_308 L xs) (x := 2) (by decide) ?_
            refine wg_goto (d134_309 L xs) (t := 313) (by decide) ?_
            exact wg_iret (d134_313 L xs) rfl rfl (by unfold r_m5; (repeat' split) <;> first | exact ⟨rfl, rfl⟩ | (exfalso; omega))
  · refine wg_aload_n (d134_200 L xs) rfl ?_
    refine wg_iload_n (d134_201 L xs) rfl ?_
    refine wg_iload_n (d134_202 L xs) rfl ?_
    refine wg_iconst (d134_203 L xs) (x := 1) (by decide) ?_
    refine wg_iadd (d134_204 L xs) ?_
    refine wg_top (y := (nI (c + i + 1))) (nI_add (c + i) 1) ?_
    refine wg_invv (d134_205 L xs) (kd := 7) (mj := 125) (n := 2) rfl (Or.inl rfl) (ys := [.int (nI (c + i + 1)), .int (nI r)]) (r := []) rfl rfl (by decide) rfl rfl (Nat.le_of_ble_eq_true rfl) (md_at (i := i + 1) hR (by omega) (by omega)) ?_
    rintro _ _ ⟨rfl, rfl⟩
    refine wg_bipush (d134_208 L xs) (x := 120) (by decide) ?_
    refine wn_icmp_ne (d134_210 L xs) (x := ga D (i + 1)) (y := 120) (by omega) (by omega) (t := 217) (by decide) (fun h19 => ?_) (fun h19 => ?_)
    · refine wg_iconst (d134_217 L xs) (x := 0) (by decide) ?_
      refine wg_istore (d134_218 L xs) (ls' := [some (.ref 141), some (.int (nI r)), some (.int (nI (c + i))), some (.int (nI (c + j))), some (.int 0), none, none]) (Nat.le_of_ble_eq_true rfl) rfl ?_
      refine wg_aload_n (d134_220 L xs) rfl ?_
      refine wg_iload (d134_221 L xs) rfl ?_
      refine wg_if_eq (d134_223 L xs) (t := 232) (by decide) (fun _ => ?_) (fun hn => absurd (by decide) hn)
      refine wg_iload_n (d134_232 L xs) rfl ?_
      refine wg_iconst (d134_233 L xs) (x := 1) (by decide) ?_
      refine wg_iadd (d134_234 L xs) ?_
      refine wg_top (y := (nI (c + i + 1))) (nI_add (c + i) 1) ?_
      refine wg_puti (d134_235 L xs) (cj := 9) (k0 := 9) rfl (by decide) rfl (Nat.le_of_ble_eq_true rfl) rfl rfl rfl ?_
      refine wg_aload_n (d134_238 L xs) rfl ?_
      refine wg_iload_n (d134_239 L xs) rfl ?_
      refine wg_aload_n (d134_240 L xs) rfl ?_
      refine wg_get (d134_241 L xs) (kd := 1) (cj := 9) (k0 := 9) rfl (Or.inl rfl) (by decide) rfl rfl ?_
      refine wg_top (y := (nI (c + i + 1))) rfl ?_
      refine wg_invv (d134_244 L xs) (kd := 7) (mj := 125) (n := 2) rfl (Or.inl rfl) (ys := [.int (nI (c + i + 1)), .int (nI r)]) (r := []) rfl rfl (by decide) rfl rfl (Nat.le_of_ble_eq_true rfl) (md_at (i := i + 1) hR (by omega) (by omega)) ?_
      rintro _ _ ⟨rfl, rfl⟩
      refine wg_istore (d134_247 L xs) (ls' := [some (.ref 141), some (.int (nI r)), some (.int (nI (c + i))), some (.int (nI (c + j))), some (.int 0), some (.int (nI (ga D (i + 1)))), none]) (Nat.le_of_ble_eq_true rfl) rfl ?_
      refine wg_aload_n (d134_249 L xs) rfl ?_
      refine wg_get (d134_250 L xs) (kd := 1) (cj := 9) (k0 := 9) rfl (Or.inl rfl) (by decide) rfl rfl ?_
      refine wg_top (y := (nI (c + i + 1))) rfl ?_
      refine wg_iload_n (d134_253 L xs) rfl ?_
      refine wn_icmp_eq (d134_254 L xs) (x := c + i + 1) (y := c + j) (by omega) (by omega) (t := 271) (by decide) (fun h21 => ?_) (fun h21 => ?_)
      · refine wg_iconst (d134_271 L xs) (x := 1) (by decide) ?_
        refine wg_goto (d134_272 L xs) (t := 276) (by decide) ?_
        refine wg_istore (d134_276 L xs) (ls' := [some (.ref 141), some (.int (nI r)), some (.int (nI (c + i))), some (.int (nI (c + j))), some (.int 0), some (.int (nI (ga D (i + 1)))), some (.int 1)]) (Nat.le_of_ble_eq_true rfl) rfl ?_
        refine wg_iload (d134_278 L xs) rfl ?_
        refine wg_if_eq (d134_280 L xs) (t := 312) (by decide) (fun hp => absurd hp (by decide)) (fun _ => ?_)
        refine wg_iload (d134_283 L xs) rfl ?_
        refine wg_if_ne (d134_285 L xs) (t := 299) (by decide) (fun hp => absurd hp (by decide)) (fun _ => ?_)
        refine wg_aload_n (d134_288 L xs) rfl ?_
        refine wg_iload_n (d134_289 L xs) rfl ?_
        refine wg_iload_n (d134_290 L xs) rfl ?_
        refine wg_invv (d134_291 L xs) (kd := 7) (mj := 125) (n := 2) rfl (Or.inl rfl) (ys := [.int (nI (c + i)), .int (nI r)]) (r := []) rfl rfl (by decide) rfl rfl (Nat.le_of_ble_eq_true rfl) (md_at (i := i) hR (by omega) (by omega)) ?_
        rintro _ _ ⟨rfl, rfl⟩
        refine wg_bipush (d134_294 L xs) (x := 97) (by decide) ?_
        refine wn_icmp_ne (d134_296 L xs) (x := ga D i) (y := 97) (by omega) (by omega) (t := 312) (by decide) (fun h24 => ?_) (fun h24 => ?_)
        · refine wg_iconst (d134_312 L xs) (x := (-1)) (by decide) ?_
          exact wg_iret (d134_313 L xs) rfl rfl (by unfold r_m5; (repeat' split) <;> first | exact ⟨rfl, rfl⟩ | (exfalso; omega))
        · refine wg_iload (d134_299 L xs) rfl ?_
          refine wg_if_eq (d134_301 L xs) (t := 308) (by decide) (fun _ => ?_) (fun hn => absurd (by decide) hn)
          refine wg_iconst (d134_308 L xs) (x := 2) (by decide) ?_
          refine wg_goto (d134_309 L xs) (t := 313) (by decide) ?_
          exact wg_iret (d134_313 L xs) rfl rfl (by unfold r_m5; (repeat' split) <;> first | exact ⟨rfl, rfl⟩ | (exfalso; omega))
      · refine wg_iload (d134_257 L xs) rfl ?_
        refine wg_bipush (d134_259 L xs) (x := 58) (by decide) ?_
        refine wn_icmp_eq (d134_261 L xs) (x := ga D (i + 1)) (y := 58) (by omega) (by omega) (t := 271) (by decide) (fun h26 => ?_) (fun h26 => ?_)
        · refine wg_iconst (d134_271 L xs) (x := 1) (by decide) ?_
          refine wg_goto (d134_272 L xs) (t := 276) (by decide) ?_
          refine wg_istore (d134_276 L xs) (ls' := [some (.ref 141), some (.int (nI r)), some (.int (nI (c + i))), some (.int (nI (c + j))), some (.int 0), some (.int (nI (ga D (i + 1)))), some (.int 1)]) (Nat.le_of_ble_eq_true rfl) rfl ?_
          refine wg_iload (d134_278 L xs) rfl ?_
          refine wg_if_eq (d134_280 L xs) (t := 312) (by decide) (fun hp => absurd hp (by decide)) (fun _ => ?_)
          refine wg_iload (d134_283 L xs) rfl ?_
          refine wg_if_ne (d134_285 L xs) (t := 299) (by decide) (fun hp => absurd hp (by decide)) (fun _ => ?_)
          refine wg_aload_n (d134_288 L xs) rfl ?_
          refine wg_iload_n (d134_289 L xs) rfl ?_
          refine wg_iload_n (d134_290 L xs) rfl ?_
          refine wg_invv (d134_291 L xs) (kd := 7) (mj := 125) (n := 2) rfl (Or.inl rfl) (ys := [.int (nI (c + i)), .int (nI r)]) (r := []) rfl rfl (by decide) rfl rfl (Nat.le_of_ble_eq_true rfl) (md_at (i := i) hR (by omega) (by omega)) ?_
          rintro _ _ ⟨rfl, rfl⟩
          refine wg_bipush (d134_294 L xs) (x := 97) (by decide) ?_
          refine wn_icmp_ne (d134_296 L xs) (x := ga D i) (y := 97) (by omega) (by omega) (t := 312) (by decide) (fun h29 => ?_) (fun h29 => ?_)
          · refine wg_iconst (d134_312 L xs) (x := (-1)) (by decide) ?_
            exact wg_iret (d134_313 L xs) rfl rfl (by unfold r_m5; (repeat' split) <;> first | exact ⟨rfl, rfl⟩ | (exfalso; omega))
          · refine wg_iload (d134_299 L xs) rfl ?_
            refine wg_if_eq (d134_301 L xs) (t := 308) (by decide) (fun _ => ?_) (fun hn => absurd (by decide) hn)
            refine wg_iconst (d134_308 L xs) (x := 2) (by decide) ?_
            refine wg_goto (d134_309 L xs) (t := 313) (by decide) ?_
            exact wg_iret (d134_313 L xs) rfl rfl (by unfold r_m5; (repeat' split) <;> first | exact ⟨rfl, rfl⟩ | (exfalso; omega))
        · refine wg_iload (d134_264 L xs) rfl ?_
          refine wg_bipush (d134_266 L xs) (x := 47) (by decide) ?_
          refine wn_icmp_ne (d134_268 L xs) (x := ga D (i + 1)) (y := 47) (by omega) (by omega) (t := 275) (by decide) (fun h31 => ?_) (fun h31 => ?_)
          · refine wg_iconst (d134_275 L xs) (x := 0) (by decide) ?_
            refine wg_istore (d134_276 L xs) (ls' := [some (.ref 141), some (.int (nI r)), some (.int (nI (c + i))), some (.int (nI (c + j))), some (.int 0), some (.int (nI (ga D (i + 1)))), some (.int 0)]) (Nat.le_of_ble_eq_true rfl) rfl ?_
            refine wg_iload (d134_278 L xs) rfl ?_
            refine wg_if_eq (d134_280 L xs) (t := 312) (by decide) (fun _ => ?_) (fun hn => absurd (by decide) hn)
            refine wg_iconst (d134_312 L xs) (x := (-1)) (by decide) ?_
            exact wg_iret (d134_313 L xs) rfl rfl (by unfold r_m5; (repeat' split) <;> first | exact ⟨rfl, rfl⟩ | (exfalso; omega))
          · refine wg_iconst (d134_271 L xs) (x := 1) (by decide) ?_
            refine wg_goto (d134_272 L xs) (t := 276) (by decide) ?_
            refine wg_istore (d134_276 L xs) (ls' := [some (.ref 141), some (.int (nI r)), some (.int (nI (c + i))), some (.int (nI (c + j))), some (.int 0), some (.int (nI (ga D (i + 1)))), some (.int 1)]) (Nat.le_of_ble_eq_true rfl) rfl ?_
            refine wg_iload (d134_278 L xs) rfl ?_
            refine wg_if_eq (d134_280 L xs) (t := 312) (by decide) (fun hp => absurd hp (by decide)) (fun _ => ?_)
            refine wg_iload (d134_283 L xs) rfl ?_
            refine wg_if_ne (d134_285 L xs) (t := 299) (by decide) (fun hp => absurd hp (by decide)) (fun _ => ?_)
            refine wg_aload_n (d134_288 L xs) rfl ?_
            refine wg_iload_n (d134_289 L xs) rfl ?_
            refine wg_iload_n (d134_290 L xs) rfl ?_
            refine wg_invv (d134_291 L xs) (kd := 7) (mj := 125) (n := 2) rfl (Or.inl rfl) (ys := [.int (nI (c + i)), .int (nI r)]) (r := []) rfl rfl (by decide) rfl rfl (Nat.le_of_ble_eq_true rfl) (md_at (i := i) hR (by omega) (by omega)) ?_
            rintro _ _ ⟨rfl, rfl⟩
            refine wg_bipush (d134_294 L xs) (x := 97) (by decide) ?_
            refine wn_icmp_ne (d134_296 L xs) (x := ga D i) (y := 97) (by omega) (by omega) (t := 312) (by decide) (fun h35 => ?_) (fun h35 => ?_)
            · refine wg_iconst (d134_312 L xs) (x := (-1)) (by decide) ?_
              exact wg_iret (d134_313 L xs) rfl rfl (by unfold r_m5; (repeat' split) <;> first | exact ⟨rfl, rfl⟩ | (exfalso; omega))
            · refine wg_iload (d134_299 L xs) rfl ?_
              refine wg_if_eq (d134_301 L xs) (t := 308) (by decide) (fun _ => ?_) (fun hn => absurd (by decide) hn)
              refine wg_iconst (d134_308 L xs) (x := 2) (by decide) ?_
              refine wg_goto (d134_309 L xs) (t := 313) (by decide) ?_
              exact wg_iret (d134_313 L xs) rfl rfl (by unfold r_m5; (repeat' split) <;> first | exact ⟨rfl, rfl⟩ | (exfalso; omega))
    · refine wg_iconst (d134_213 L xs) (x := 1) (by decide) ?_
      refine wg_goto (d134_214 L xs) (t := 218) (by decide) ?_
      refine wg_istore (d134_218 L xs) (ls' := [some (.ref 141), some (.int (nI r)), some (.int (nI (c + i))), some (.int (nI (c + j))), some (.int 1), none, none]) (Nat.le_of_ble_eq_true rfl) rfl ?_
      refine wg_aload_n (d134_220 L xs) rfl ?_
      refine wg_iload (d134_221 L xs) rfl ?_
      refine wg_if_eq (d134_223 L xs) (t := 232) (by decide) (fun hp => absurd hp (by decide)) (fun _ => ?_)
      refine wg_iload_n (d134_226 L xs) rfl ?_
      refine wg_iconst (d134_227 L xs) (x := 2) (by decide) ?_
      refine wg_iadd (d134_228 L xs) ?_
      refine wg_top (y := (nI (c + i + 2))) (nI_add (c + i) 2) ?_
      refine wg_goto (d134_229 L xs) (t := 235) (by decide) ?_
      refine wg_puti (d134_235 L xs) (cj := 9) (k0 := 9) rfl (by decide) rfl (Nat.le_of_ble_eq_true rfl) rfl rfl rfl ?_
      refine wg_aload_n (d134_238 L xs) rfl ?_
      refine wg_iload_n (d134_239 L xs) rfl ?_
      refine wg_aload_n (d134_240 L xs) rfl ?_
      refine wg_get (d134_241 L xs) (kd := 1) (cj := 9) (k0 := 9) rfl (Or.inl rfl) (by decide) rfl rfl ?_
      refine wg_top (y := (nI (c + i + 2))) rfl ?_
      refine wg_invv (d134_244 L xs) (kd := 7) (mj := 125) (n := 2) rfl (Or.inl rfl) (ys := [.int (nI (c + i + 2)), .int (nI r)]) (r := []) rfl rfl (by decide) rfl rfl (Nat.le_of_ble_eq_true rfl) (md_at (i := i + 2) hR (by omega) (by omega)) ?_
      rintro _ _ ⟨rfl, rfl⟩
      refine wg_istore (d134_247 L xs) (ls' := [some (.ref 141), some (.int (nI r)), some (.int (nI (c + i))), some (.int (nI (c + j))), some (.int 1), some (.int (nI (ga D (i + 2)))), none]) (Nat.le_of_ble_eq_true rfl) rfl ?_
      refine wg_aload_n (d134_249 L xs) rfl ?_
      refine wg_get (d134_250 L xs) (kd := 1) (cj := 9) (k0 := 9) rfl (Or.inl rfl) (by decide) rfl rfl ?_
      refine wg_top (y := (nI (c + i + 2))) rfl ?_
      refine wg_iload_n (d134_253 L xs) rfl ?_
      refine wn_icmp_eq (d134_254 L xs) (x := c + i + 2) (y := c + j) (by omega) (by omega) (t := 271) (by decide) (fun h38 => ?_) (fun h38 => ?_)
      · refine wg_iconst (d134_271 L xs) (x := 1) (by decide) ?_
        refine wg_goto (d134_272 L xs) (t := 276) (by decide) ?_
        refine wg_istore (d134_276 L xs) (ls' := [some (.ref 141), some (.int (nI r)), some (.int (nI (c + i))), some (.int (nI (c + j))), some (.int 1), some (.int (nI (ga D (i + 2)))), some (.int 1)]) (Nat.le_of_ble_eq_true rfl) rfl ?_
        refine wg_iload (d134_278 L xs) rfl ?_
        refine wg_if_eq (d134_280 L xs) (t := 312) (by decide) (fun hp => absurd hp (by decide)) (fun _ => ?_)
        refine wg_iload (d134_283 L xs) rfl ?_
        refine wg_if_ne (d134_285 L xs) (t := 299) (by decide) (fun _ => ?_) (fun hn => absurd (by decide) hn)
        refine wg_iload (d134_299 L xs) rfl ?_
        refine wg_if_eq (d134_301 L xs) (t := 308) (by decide) (fun hp => absurd hp (by decide)) (fun _ => ?_)
        refine wg_iconst (d134_304 L xs) (x := 3) (by decide) ?_
        refine wg_goto (d134_305 L xs) (t := 313) (by decide) ?_
        exact wg_iret (d134_313 L xs) rfl rfl (by unfold r_m5; (repeat' split) <;> first | exact ⟨rfl, rfl⟩ | (exfalso; omega))
      · refine wg_iload (d134_257 L xs) rfl ?_
        refine wg_bipush (d134_259 L xs) (x := 58) (by decide) ?_
        refine wn_icmp_eq (d134_261 L xs) (x := ga D (i + 2)) (y := 58) (by omega) (by omega) (t := 271) (by decide) (fun h42 => ?_) (fun h42 => ?_)
        · refine wg_iconst (d134_271 L xs) (x := 1) (by decide) ?_
          refine wg_goto (d134_272 L xs) (t := 276) (by decide) ?_
          refine wg_istore (d134_276 L xs) (ls' := [some (.ref 141), some (.int (nI r)), some (.int (nI (c + i))), some (.int (nI (c + j))), some (.int 1), some (.int (nI (ga D (i + 2)))), some (.int 1)]) (Nat.le_of_ble_eq_true rfl) rfl ?_
          refine wg_iload (d134_278 L xs) rfl ?_
          refine wg_if_eq (d134_280 L xs) (t := 312) (by decide) (fun hp => absurd hp (by decide)) (fun _ => ?_)
          refine wg_iload (d134_283 L xs) rfl ?_
          refine wg_if_ne (d134_285 L xs) (t := 299) (by decide) (fun _ => ?_) (fun hn => absurd (by decide) hn)
          refine wg_iload (d134_299 L xs) rfl ?_
          refine wg_if_eq (d134_301 L xs) (t := 308) (by decide) (fun hp => absurd hp (by decide)) (fun _ => ?_)
          refine wg_iconst (d134_304 L xs) (x := 3) (by decide) ?_
          refine wg_goto (d134_305 L xs) (t := 313) (by decide) ?_
          exact wg_iret (d134_313 L xs) rfl rfl (by unfold r_m5; (repeat' split) <;> first | exact ⟨rfl, rfl⟩ | (exfalso; omega))
        · refine wg_iload (d134_264 L xs) rfl ?_
          refine wg_bipush (d134_266 L xs) (x := 47) (by decide) ?_
          refine wn_icmp_ne (d134_268 L xs) (x := ga D (i + 2)) (y := 47) (by omega) (by omega) (t := 275) (by decide) (fun h46 => ?_) (fun h46 => ?_)
          · refine wg_iconst (d134_275 L xs) (x := 0) (by decide) ?_
            refine wg_istore (d134_276 L xs) (ls' := [some (.ref 141), some (.int (nI r)), some (.int (nI (c + i))), some (.int (nI (c + j))), some (.int 1), some (.int (nI (ga D (i + 2)))), some (.int 0)]) (Nat.le_of_ble_eq_true rfl) rfl ?_
            refine wg_iload (d134_278 L xs) rfl ?_
            refine wg_if_eq (d134_280 L xs) (t := 312) (by decide) (fun _ => ?_) (fun hn => absurd (by decide) hn)
            refine wg_iconst (d134_312 L xs) (x := (-1)) (by decide) ?_
            exact wg_iret (d134_313 L xs) rfl rfl (by unfold r_m5; (repeat' split) <;> first | exact ⟨rfl, rfl⟩ | (exfalso; omega))
          · refine wg_iconst (d134_271 L xs) (x := 1) (by decide) ?_
            refine wg_goto (d134_272 L xs) (t := 276) (by decide) ?_
            refine wg_istore (d134_276 L xs) (ls' := [some (.ref 141), some (.int (nI r)), some (.int (nI (c + i))), some (.int (nI (c + j))), some (.int 1), some (.int (nI (ga D (i + 2)))), some (.int 1)]) (Nat.le_of_ble_eq_true rfl) rfl ?_
            refine wg_iload (d134_278 L xs) rfl ?_
            refine wg_if_eq (d134_280 L xs) (t := 312) (by decide) (fun hp => absurd hp (by decide)) (fun _ => ?_)
            refine wg_iload (d134_283 L xs) rfl ?_
            refine wg_if_ne (d134_285 L xs) (t := 299) (by decide) (fun _ => ?_) (fun hn => absurd (by decide) hn)
            refine wg_iload (d134_299 L xs) rfl ?_
            refine wg_if_eq (d134_301 L xs) (t := 308) (by decide) (fun hp => absurd hp (by decide)) (fun _ => ?_)
            refine wg_iconst (d134_304 L xs) (x := 3) (by decide) ?_
            refine wg_goto (d134_305 L xs) (t := 313) (by decide) ?_
            exact wg_iret (d134_313 L xs) rfl rfl (by unfold r_m5; (repeat' split) <;> first | exact ⟨rfl, rfl⟩ | (exfalso; omega))
theorem md_m4 {i j : Nat} (hR : isRec s r c D) (hj : j ≤ D.length) (hi : i ≤ j) : wp L xs (d + 2) 134 152 [some (.ref 141), some (.int (nI r)), some (.int (nI (c + i))), some (.int (nI (c + j))), none, none, none] [] s (fun v s' => v = some (.int (oI (r_m4 D i j).1)) ∧ mg_I s 141 9 (nI (c + (r_m4 D i j).2)) = s') := by
  have hr16 := hR.1
  have hc1 := hR.2.1
  have hcl := hR.2.2.1
  have hgl0 := ga_lt hR i
  have hgl1 := ga_lt hR (i + 1)
  have hgl2 := ga_lt hR (i + 2)
  have hgl3 := ga_lt hR (i + 3)
  have hgl4 := ga_lt hR (i + 4)
  have hgl5 := ga_lt hR (i + 5)
  have hgl6 := ga_lt hR (i + 6)
  have hgl7 := ga_lt hR (i + 7)
  have hgl8 := ga_lt hR (i + 8)
  have hw0 := w3_n D i 105 112 52
  try simp only [Nat.add_assoc, Nat.reduceAdd, and_true] at hw0
  refine wg_aload_n (d134_152 L xs) rfl ?_
  refine wg_iload_n (d134_153 L xs) rfl ?_
  refine wg_iload_n (d134_154 L xs) rfl ?_
  refine wg_bipush (d134_155 L xs) (x := 105) (by decide) ?_
  refine wg_bipush (d134_157 L xs) (x := 112) (by decide) ?_
  refine wg_bipush (d134_159 L xs) (x := 52) (by decide) ?_
  refine wg_invv (d134_161 L xs) (kd := 7) (mj := 124) (n := 5) rfl (Or.inl rfl) (ys := [.int 52, .int 112, .int 105, .int (nI (c + i)), .int (nI r)]) (r := []) rfl rfl (by decide) rfl rfl (Nat.le_of_ble_eq_true rfl) (md_word (i := i) (x := 105) (y := 112) (z := 52) hR (by omega) (by omega) (by omega) (by omega) (by omega)) ?_
  rintro _ _ ⟨rfl, rfl⟩
  refine wn_if_eq (d134_164 L xs) (x := bI (w3 D i 105 112 52)) (by omega) (t := 189) (by decide) (fun h1 => ?_) (fun h1 => ?_)
  · rw [r_m4, if_neg (by omega)]; exact md_m5 hR hj hi
  · refine wg_aload_n (d134_167 L xs) rfl ?_
    refine wg_iload_n (d134_168 L xs) rfl ?_
    refine wg_iload_n (d134_169 L xs) rfl ?_
    refine wg_iconst (d134_170 L xs) (x := 3) (by decide) ?_
    refine wg_iadd (d134_171 L xs) ?_
    refine wg_top (y := (nI (c + i + 3))) (nI_add (c + i) 3) ?_
    refine wg_invv (d134_172 L xs) (kd := 7) (mj := 125) (n := 2) rfl (Or.inl rfl) (ys := [.int (nI (c + i + 3)), .int (nI r)]) (r := []) rfl rfl (by decide) rfl rfl (Nat.le_of_ble_eq_true rfl) (md_at (i := i + 3) hR (by omega) (by omega)) ?_
    rintro _ _ ⟨rfl, rfl⟩
    refine wg_bipush (d134_175 L xs) (x := 58) (by decide) ?_
    refine wn_icmp_ne (d134_177 L xs) (x := ga D (i + 3)) (y := 58) (by omega) (by omega) (t := 189) (by decide) (fun h2 => ?_) (fun h2 => ?_)
    · rw [r_m4, if_neg (by omega)]; exact md_m5 hR hj hi
    · refine wg_aload_n (d134_180 L xs) rfl ?_
      refine wg_iload_n (d134_181 L xs) rfl ?_
      refine wg_iconst (d134_182 L xs) (x := 3) (by decide) ?_
      refine wg_iadd (d134_183 L xs) ?_
      refine wg_top (y := (nI (c + i + 3))) (nI_add (c + i) 3) ?_
      refine wg_puti (d134_184 L xs) (cj := 9) (k0 := 9) rfl (by decide) rfl (Nat.le_of_ble_eq_true rfl) rfl rfl rfl ?_
      refine wg_iconst (d134_187 L xs) (x := 4) (by decide) ?_
      exact wg_iret (d134_188 L xs) rfl rfl (by rw [r_m4, if_pos (by omega)]; exact ⟨rfl, rfl⟩)
theorem md_m3 {i j : Nat} (hR : isRec s r c D) (hj : j ≤ D.length) (hi : i ≤ j) : wp L xs (d + 2) 134 96 [some (.ref 141), some (.int (nI r)), some (.int (nI (c + i))), some (.int (nI (c + j))), none, none, none] [] s (fun v s' => v = some (.int (oI (r_m3 D i j).1)) ∧ mg_I s 141 9 (nI (c + (r_m3 D i j).2)) = s') := by
  have hr16 := hR.1
  have hc1 := hR.2.1
  have hcl := hR.2.2.1
  have hgl0 := ga_lt hR i
  have hgl1 := ga_lt hR (i + 1)
  have hgl2 := ga_lt hR (i + 2)
  have hgl3 := ga_lt hR (i + 3)
  have hgl4 := ga_lt hR (i + 4)
  have hgl5 := ga_lt hR (i + 5)
  have hgl6 := ga_lt hR (i + 6)
  have hgl7 := ga_lt hR (i + 7)
  have hgl8 := ga_lt hR (i + 8)
  have hw0 := w3_n D i 101 120 105
  have hw1 := w3_n D (i + 3) 115 116 115
  try simp only [Nat.add_assoc, Nat.reduceAdd, and_true] at hw0 hw1
  refine wg_aload_n (d134_96 L xs) rfl ?_
  refine wg_iload_n (d134_97 L xs) rfl ?_
  refine wg_iload_n (d134_98 L xs) rfl ?_
  refine wg_bipush (d134_99 L xs) (x := 101) (by decide) ?_
  refine wg_bipush (d134_101 L xs) (x := 120) (by decide) ?_
  refine wg_bipush (d134_103 L xs) (x := 105) (by decide) ?_
  refine wg_invv (d134_105 L xs) (kd := 7) (mj := 124) (n := 5) rfl (Or.inl rfl) (ys := [.int 105, .int 120, .int 101, .int (nI (c + i)), .int (nI r)]) (r := []) rfl rfl (by decide) rfl rfl (Nat.le_of_ble_eq_true rfl) (md_word (i := i) (x := 101) (y := 120) (z := 105) hR (by omega) (by omega) (by omega) (by omega) (by omega)) ?_
  rintro _ _ ⟨rfl, rfl⟩
  refine wn_if_eq (d134_108 L xs) (x := bI (w3 D i 101 120 105)) (by omega) (t := 152) (by decide) (fun h1 => ?_) (fun h1 => ?_)
  · rw [r_m3, if_neg (by omega)]; exact md_m4 hR hj hi
  · refine wg_aload_n (d134_111 L xs) rfl ?_
    refine wg_iload_n (d134_112 L xs) rfl ?_
    refine wg_iload_n (d134_113 L xs) rfl ?_
    refine wg_iconst (d134_114 L xs) (x := 3) (by decide) ?_
    refine wg_iadd (d134_115 L xs) ?_
    refine wg_top (y := (nI (c + i + 3))) (nI_add (c + i) 3) ?_
    refine wg_bipush (d134_116 L xs) (x := 115) (by decide) ?_
    refine wg_bipush (d134_118 L xs) (x := 116) (by decide) ?_
    refine wg_bipush (d134_120 L xs) (x := 115) (by decide) ?_
    refine wg_invv (d134_122 L xs) (kd := 7) (mj := 124) (n := 5) rfl (Or.inl rfl) (ys := [.int 115, .int 116, .int 115, .int (nI (c + i + 3)), .int (nI r)]) (r := []) rfl rfl (by decide) rfl rfl (Nat.le_of_ble_eq_true rfl) (md_word (i := i + 3) (x := 115) (y := 116) (z := 115) hR (by omega) (by omega) (by omega) (by omega) (by omega)) ?_
    rintro _ _ ⟨rfl, rfl⟩
    refine wn_if_eq (d134_125 L xs) (x := bI (w3 D (i + 3) 115 116 115)) (by omega) (t := 152) (by decide) (fun h2 => ?_) (fun h2 => ?_)
    · rw [r_m3, if_neg (by omega)]; exact md_m4 hR hj hi
    · refine wg_aload_n (d134_128 L xs) rfl ?_
      refine wg_iload_n (d134_129 L xs) rfl ?_
      refine wg_iload_n (d134_130 L xs) rfl ?_
      refine wg_bipush (d134_131 L xs) (x := 6) (by decide) ?_
      refine wg_iadd (d134_133 L xs) ?_
      refine wg_top (y := (nI (c + i + 6))) (nI_add (c + i) 6) ?_
      refine wg_invv (d134_134 L xs) (kd := 7) (mj := 125) (n := 2) rfl (Or.inl rfl) (ys := [.int (nI (c + i + 6)), .int (nI r)]) (r := []) rfl rfl (by decide) rfl rfl (Nat.le_of_ble_eq_true rfl) (md_at (i := i + 6) hR (by omega) (by omega)) ?_
      rintro _ _ ⟨rfl, rfl⟩
      refine wg_bipush (d134_137 L xs) (x := 58) (by decide) ?_
      refine wn_icmp_ne (d134_139 L xs) (x := ga D (i + 6)) (y := 58) (by omega) (by omega) (t := 152) (by decide) (fun h3 => ?_) (fun h3 => ?_)
      · rw [r_m3, if_neg (by omega)]; exact md_m4 hR hj hi
      · refine wg_aload_n (d134_142 L xs) rfl ?_
        refine wg_iload_n (d134_143 L xs) rfl ?_
        refine wg_bipush (d134_144 L xs) (x := 6) (by decide) ?_
        refine wg_iadd (d134_146 L xs) ?_
        refine wg_top (y := (nI (c + i + 6))) (nI_add (c + i) 6) ?_
        refine wg_puti (d134_147 L xs) (cj := 9) (k0 := 9) rfl (by decide) rfl (Nat.le_of_ble_eq_true rfl) rfl rfl rfl ?_
        refine wg_iconst (d134_150 L xs) (x := 5) (by decide) ?_
        exact wg_iret (d134_151 L xs) rfl rfl (by rw [r_m3, if_pos (by omega)]; exact ⟨rfl, rfl⟩)
theorem md_m2 {i j : Nat} (hR : isRec s r c D) (hj : j ≤ D.length) (hi : i ≤ j) : wp L xs (d + 2) 134 29 [some (.ref 141), some (.int (nI r)), some (.int (nI (c + i))), some (.int (nI (c + j))), none, none, none] [] s (fun v s' => v = some (.int (oI (r_m2 D i j).1)) ∧ mg_I s 141 9 (nI (c + (r_m2 D i j).2)) = s') := by
  have hr16 := hR.1
  have hc1 := hR.2.1
  have hcl := hR.2.2.1
  have hgl0 := ga_lt hR i
  have hgl1 := ga_lt hR (i + 1)
  have hgl2 := ga_lt hR (i + 2)
  have hgl3 := ga_lt hR (i + 3)
  have hgl4 := ga_lt hR (i + 4)
  have hgl5 := ga_lt hR (i + 5)
  have hgl6 := ga_lt hR (i + 6)
  have hgl7 := ga_lt hR (i + 7)
  have hgl8 := ga_lt hR (i + 8)
  have hw0 := w3_n D i 105 110 99
  have hw1 := w3_n D (i + 3) 108 117 100
  have hw2 := w3_n D (i + 6) 101 58 (ga D (i + 8))
  try simp only [Nat.add_assoc, Nat.reduceAdd, and_true] at hw0 hw1 hw2
  refine wg_aload_n (d134_29 L xs) rfl ?_
  refine wg_iload_n (d134_30 L xs) rfl ?_
  refine wg_iload_n (d134_31 L xs) rfl ?_
  refine wg_bipush (d134_32 L xs) (x := 105) (by decide) ?_
  refine wg_bipush (d134_34 L xs) (x := 110) (by decide) ?_
  refine wg_bipush (d134_36 L xs) (x := 99) (by decide) ?_
  refine wg_invv (d134_38 L xs) (kd := 7) (mj := 124) (n := 5) rfl (Or.inl rfl) (ys := [.int 99, .int 110, .int 105, .int (nI (c + i)), .int (nI r)]) (r := []) rfl rfl (by decide) rfl rfl (Nat.le_of_ble_eq_true rfl) (md_word (i := i) (x := 105) (y := 110) (z := 99) hR (by omega) (by omega) (by omega) (by omega) (by omega)) ?_
  rintro _ _ ⟨rfl, rfl⟩
  refine wn_if_eq (d134_41 L xs) (x := bI (w3 D i 105 110 99)) (by omega) (t := 96) (by decide) (fun h1 => ?_) (fun h1 => ?_)
  · rw [r_m2, if_neg (by omega)]; exact md_m3 hR hj hi
  · refine wg_aload_n (d134_44 L xs) rfl ?_
    refine wg_iload_n (d134_45 L xs) rfl ?_
    refine wg_iload_n (d134_46 L xs) rfl ?_
    refine wg_iconst (d134_47 L xs) (x := 3) (by decide) ?_
    refine wg_iadd (d134_48 L xs) ?_
    refine wg_top (y := (nI (c + i + 3))) (nI_add (c + i) 3) ?_
    refine wg_bipush (d134_49 L xs) (x := 108) (by decide) ?_
    refine wg_bipush (d134_51 L xs) (x := 117) (by decide) ?_
    refine wg_bipush (d134_53 L xs) (x := 100) (by decide) ?_
    refine wg_invv (d134_55 L xs) (kd := 7) (mj := 124) (n := 5) rfl (Or.inl rfl) (ys := [.int 100, .int 117, .int 108, .int (nI (c + i + 3)), .int (nI r)]) (r := []) rfl rfl (by decide) rfl rfl (Nat.le_of_ble_eq_true rfl) (md_word (i := i + 3) (x := 108) (y := 117) (z := 100) hR (by omega) (by omega) (by omega) (by omega) (by omega)) ?_
    rintro _ _ ⟨rfl, rfl⟩
    refine wn_if_eq (d134_58 L xs) (x := bI (w3 D (i + 3) 108 117 100)) (by omega) (t := 96) (by decide) (fun h2 => ?_) (fun h2 => ?_)
    · rw [r_m2, if_neg (by omega)]; exact md_m3 hR hj hi
    · refine wg_aload_n (d134_61 L xs) rfl ?_
      refine wg_iload_n (d134_62 L xs) rfl ?_
      refine wg_iload_n (d134_63 L xs) rfl ?_
      refine wg_bipush (d134_64 L xs) (x := 6) (by decide) ?_
      refine wg_iadd (d134_66 L xs) ?_
      refine wg_top (y := (nI (c + i + 6))) (nI_add (c + i) 6) ?_
      refine wg_bipush (d134_67 L xs) (x := 101) (by decide) ?_
      refine wg_bipush (d134_69 L xs) (x := 58) (by decide) ?_
      refine wg_aload_n (d134_71 L xs) rfl ?_
      refine wg_iload_n (d134_72 L xs) rfl ?_
      refine wg_iload_n (d134_73 L xs) rfl ?_
      refine wg_bipush (d134_74 L xs) (x := 8) (by decide) ?_
      refine wg_iadd (d134_76 L xs) ?_
      refine wg_top (y := (nI (c + i + 8))) (nI_add (c + i) 8) ?_
      refine wg_invv (d134_77 L xs) (kd := 7) (mj := 125) (n := 2) rfl (Or.inl rfl) (ys := [.int (nI (c + i + 8)), .int (nI r)]) (r := [.int 58, .int 101, .int (nI (c + i + 6)), .int (nI r), .ref 141]) rfl rfl (by decide) rfl rfl (Nat.le_of_ble_eq_true rfl) (md_at (i := i + 8) hR (by omega) (by omega)) ?_
      rintro _ _ ⟨rfl, rfl⟩
      refine wg_invv (d134_80 L xs) (kd := 7) (mj := 124) (n := 5) rfl (Or.inl rfl) (ys := [.int (nI (ga D (i + 8))), .int 58, .int 101, .int (nI (c + i + 6)), .int (nI r)]) (r := []) rfl rfl (by decide) rfl rfl (Nat.le_of_ble_eq_true rfl) (md_word (i := i + 6) (x := 101) (y := 58) (z := ga D (i + 8)) hR (by omega) (by omega) (by omega) (by omega) (by omega)) ?_
      rintro _ _ ⟨rfl, rfl⟩
      refine wn_if_eq (d134_83 L xs) (x := bI (w3 D (i + 6) 101 58 (ga D (i + 8)))) (by omega) (t := 96) (by decide) (fun h3 => ?_) (fun h3 => ?_)
      · rw [r_m2, if_neg (by omega)]; exact md_m3 hR hj hi
      · refine wg_aload_n (d134_86 L xs) rfl ?_
        refine wg_iload_n (d134_87 L xs) rfl ?_
        refine wg_bipush (d134_88 L xs) (x := 7) (by decide) ?_
        refine wg_iadd (d134_90 L xs) ?_
        refine wg_top (y := (nI (c + i + 7))) (nI_add (c + i) 7) ?_
        refine wg_puti (d134_91 L xs) (cj := 9) (k0 := 9) rfl (by decide) rfl (Nat.le_of_ble_eq_true rfl) rfl rfl rfl ?_
        refine wg_iconst (d134_94 L xs) (x := 1) (by decide) ?_
        exact wg_iret (d134_95 L xs) rfl rfl (by rw [r_m2, if_pos (by omega)]; exact ⟨rfl, rfl⟩)
theorem md_m1 {i j : Nat} (hR : isRec s r c D) (hj : j ≤ D.length) (hi : i ≤ j) : wp L xs (d + 2) 134 0 [some (.ref 141), some (.int (nI r)), some (.int (nI (c + i))), some (.int (nI (c + j))), none, none, none] [] s (fun v s' => v = some (.int (oI (r_m1 D i j).1)) ∧ mg_I s 141 9 (nI (c + (r_m1 D i j).2)) = s') := by
  have hr16 := hR.1
  have hc1 := hR.2.1
  have hcl := hR.2.2.1
  have hgl0 := ga_lt hR i
  have hgl1 := ga_lt hR (i + 1)
  have hgl2 := ga_lt hR (i + 2)
  have hgl3 := ga_lt hR (i + 3)
  have hgl4 := ga_lt hR (i + 4)
  have hgl5 := ga_lt hR (i + 5)
  have hgl6 := ga_lt hR (i + 6)
  have hgl7 := ga_lt hR (i + 7)
  have hgl8 := ga_lt hR (i + 8)
  have hw0 := w3_n D i 97 108 108
  try simp only [Nat.add_assoc, Nat.reduceAdd, and_true] at hw0
  refine wg_aload_n (d134_0 L xs) rfl ?_
  refine wg_iload_n (d134_1 L xs) rfl ?_
  refine wg_iload_n (d134_2 L xs) rfl ?_
  refine wg_bipush (d134_3 L xs) (x := 97) (by decide) ?_
  refine wg_bipush (d134_5 L xs) (x := 108) (by decide) ?_
  refine wg_bipush (d134_7 L xs) (x := 108) (by decide) ?_
  refine wg_invv (d134_9 L xs) (kd := 7) (mj := 124) (n := 5) rfl (Or.inl rfl) (ys := [.int 108, .int 108, .int 97, .int (nI (c + i)), .int (nI r)]) (r := []) rfl rfl (by decide) rfl rfl (Nat.le_of_ble_eq_true rfl) (md_word (i := i) (x := 97) (y := 108) (z := 108) hR (by omega) (by omega) (by omega) (by omega) (by omega)) ?_
  rintro _ _ ⟨rfl, rfl⟩
  refine wn_if_eq (d134_12 L xs) (x := bI (w3 D i 97 108 108)) (by omega) (t := 29) (by decide) (fun h1 => ?_) (fun h1 => ?_)
  · rw [r_m1, if_neg (by omega)]; exact md_m2 hR hj hi
  · refine wg_iload_n (d134_15 L xs) rfl ?_
    refine wg_iconst (d134_16 L xs) (x := 3) (by decide) ?_
    refine wg_iadd (d134_17 L xs) ?_
    refine wg_top (y := (nI (c + i + 3))) (nI_add (c + i) 3) ?_
    refine wg_iload_n (d134_18 L xs) rfl ?_
    refine wn_icmp_ne (d134_19 L xs) (x := c + i + 3) (y := c + j) (by omega) (by omega) (t := 29) (by decide) (fun h2 => ?_) (fun h2 => ?_)
    · rw [r_m1, if_neg (by omega)]; exact md_m2 hR hj hi
    · refine wg_aload_n (d134_22 L xs) rfl ?_
      refine wg_iload_n (d134_23 L xs) rfl ?_
      refine wg_puti (d134_24 L xs) (cj := 9) (k0 := 9) rfl (by decide) rfl (Nat.le_of_ble_eq_true rfl) rfl rfl rfl ?_
      refine wg_iconst (d134_27 L xs) (x := 0) (by decide) ?_
      exact wg_iret (d134_28 L xs) rfl rfl (by rw [r_m1, if_pos (by omega)]; exact ⟨rfl, rfl⟩)
theorem md_mech {i j : Nat} (hR : isRec s r c D) (hj : j ≤ D.length) (hi : i ≤ j) : ca L xs (d + 3) 134 [.ref 141, .int (nI r), .int (nI (c + i)), .int (nI (c + j))] s (fun v s' => v = some (.int (oI (r_m1 D i j).1)) ∧ mg_I s 141 9 (nI (c + (r_m1 D i j).2)) = s') := by
  refine wg_call (Nat.le_of_ble_eq_true rfl) ?_
  show wp L xs (d + 2) 134 0 [some (.ref 141), some (.int (nI r)), some (.int (nI (c + i))), some (.int (nI (c + j))), none, none, none] [] s _
  exact md_m1 hR hj hi
end MM
theorem ff_skip {g : Nat → Nat} {c : Nat} : ∀ (n i m : Nat), (∀ q, i ≤ q → q < i + n → ¬ g q = c) → n ≤ m → f_find g c i m = f_find g c (i + n) (m - n) := by
  intro n
  induction n with
  | zero => intro i m _ _; rfl
  | succ n ih =>
    intro i m h hm
    obtain ⟨m', rfl⟩ : ∃ m', m = m' + 1 := ⟨m - 1, by omega⟩
    rw [f_find, if_neg (h i (Nat.le_refl _) (by omega)), ih (i + 1) m' (fun q h1 h2 => h q (by omega) (by omega)) (by omega), show i + 1 + n = i + (n + 1) by omega, show m' + 1 - (n + 1) = m' - n by omega]
theorem ff_hit {g : Nat → Nat} {c i m : Nat} (h : g i = c) : f_find g c i m = i := by
  cases m with
  | zero => rfl
  | succ m => rw [f_find, if_pos h]
theorem t_kind_w {g : Nat → Nat} {i e k : Nat} (h : t_kind g i e = some k) : (k = 0 ∧ t_word g i e w_all = true) ∨ (k = 1 ∧ t_word g i e w_inc = true) ∨ (k = 2 ∧ t_word g i e w_a = true) ∨ (k = 3 ∧ t_word g i e w_mx = true) ∨ (k = 4 ∧ t_word g i e w_ip4 = true) ∨ (k = 5 ∧ t_word g i e w_exi = true) := by
  unfold t_kind at h
  split at h
  · cases h; rename_i h1; exact Or.inl ⟨rfl, h1⟩
  · split at h
    · cases h; rename_i h1; exact Or.inr (Or.inl ⟨rfl, h1⟩)
    · split at h
      · cases h; rename_i h1; exact Or.inr (Or.inr (Or.inl ⟨rfl, h1⟩))
      · split at h
        · cases h; rename_i h1; exact Or.inr (Or.inr (Or.inr (Or.inl ⟨rfl, h1⟩)))
        · split at h
          · cases h; rename_i h1; exact Or.inr (Or.inr (Or.inr (Or.inr (Or.inl ⟨rfl, h1⟩))))
          · split at h
            · cases h; rename_i h1; exact Or.inr (Or.inr (Or.inr (Or.inr (Or.inr ⟨rfl, h1⟩))))
            · cases h
theorem w_no {b : Bool} (h : bI b = 0) : ¬ b = true := by rw [bI_f h]; decide
/-- what the reference's mechanism says, in the words of the other half -/
theorem r_m_some {D : List Nat} {i j k rd : Nat} (hj : j ≤ D.length) (hi : i ≤ j) (h32 : ga D j = 32) (h : r_m1 D i j = (some k, rd)) : k ≤ 5 ∧ i < rd ∧ rd ≤ j ∧ t_kind (gl D) i rd = some k ∧ t_co (gl D) i j = rd ∧ t_sl (gl D) i j = f_find (gl D) 47 rd (j - rd) ∧ ((k = 1 ∨ k = 4 ∨ k = 5) → rd < j ∧ gl D rd = 58) ∧ (k = 0 → rd = j) ∧ (rd < j → gl D rd = 58 ∨ gl D rd = 47) := by
  have fin : ∀ n : Nat, rd = i + n → 1 ≤ n → rd ≤ j → (∀ q, q < n → ¬ gl D (i + q) = 58 ∧ ¬ gl D (i + q) = 47) → (rd < j → gl D rd = 58 ∨ gl D rd = 47) → t_co (gl D) i j = rd ∧ t_sl (gl D) i j = f_find (gl D) 47 rd (j - rd) := by
    intro n hn h1 hrd hq hend
    have hsl : t_sl (gl D) i j = f_find (gl D) 47 rd (j - rd) := by
      unfold t_sl
      rw [ff_skip n i (j - i) (fun q h1 h2 => by have := (hq (q - i) (by omega)).2; rw [show i + (q - i) = q by omega] at this; exact this) (by omega), ← hn, show j - i - n = j - rd by omega]
    refine ⟨?_, hsl⟩
    have hs := f_find_s (g := gl D) (c := 47) (j - rd) rd
    unfold t_co
    rw [hsl]
    rw [ff_skip n i _ (fun q h1 h2 => by have := (hq (q - i) (by omega)).1; rw [show i + (q - i) = q by omega] at this; exact this) (by omega), ← hn]
    by_cases hlt : rd < j
    · rcases hend hlt with he | he
      · exact ff_hit he
      · rw [ff_hit (g := gl D) (c := 47) he, show rd - i - n = 0 by omega]; rfl
    · rw [show j - rd = 0 by omega]
      show f_find (gl D) 58 rd (rd - i - n) = rd
      rw [show rd - i - n = 0 by omega]; rfl
  have nx : ∀ q v : Nat, i + q ≤ j → ga D (i + q) = v → ¬ v = 32 → i + (q + 1) ≤ j ∧ gl D (i + q) = v := by
    intro q v hq hv h3
    have hne : ¬ j = i + q := fun e => h3 (by rw [← hv, ← e]; exact h32)
    exact ⟨by omega, by rw [← hv]; exact (ga_in (by omega)).symm⟩
  unfold r_m1 at h
  split at h
  · rename_i hc
    obtain ⟨⟨a0, a1, a2⟩, a3⟩ := hc
    subst a3
    obtain ⟨rfl, rfl⟩ : 0 = k ∧ i + 3 = rd := by cases h; exact ⟨rfl, rfl⟩
    have b0 := nx 0 97 hi a0 (by decide)
    have b1 := nx 1 108 b0.1 a1 (by decide)
    have b2 := nx 2 108 b1.1 a2 (by decide)
    have hend : i + 3 < i + 3 → gl D (i + 3) = 58 ∨ gl D (i + 3) = 47 := fun h => absurd h (Nat.lt_irrefl _)
    have hf := fin 3 rfl (by omega) (by omega) (fun q hq => by
          have h9 : q = 0 ∨ q = 1 ∨ q = 2 := by omega
          rcases h9 with rfl | rfl | rfl
          · rw [b0.2]; decide
          · rw [b1.2]; decide
          · rw [b2.2]; decide) hend
    exact ⟨by omega, by omega, by omega, by unfold t_kind; rw [if_pos (t_word_iff.mpr ⟨by show i + 3 - i = 3; omega, fun k hk => by
          have hk2 : k < 3 := hk
          have h9 : k = 0 ∨ k = 1 ∨ k = 2 := by omega
          rcases h9 with rfl | rfl | rfl
          · exact b0.2
          · exact b1.2
          · exact b2.2⟩)], hf.1, hf.2, fun h => absurd h (by decide), fun _ => rfl, hend⟩
  · rename_i hc1
    unfold r_m2 at h
    split at h
    · rename_i hc
      obtain ⟨⟨a0, a1, a2⟩, ⟨a3, a4, a5⟩, a6, a7⟩ := hc
      obtain ⟨rfl, rfl⟩ : 1 = k ∧ i + 7 = rd := by cases h; exact ⟨rfl, rfl⟩
      have b0 := nx 0 105 hi a0 (by decide)
      have b1 := nx 1 110 b0.1 a1 (by decide)
      have b2 := nx 2 99 b1.1 a2 (by decide)
      have b3 := nx 3 108 b2.1 a3 (by decide)
      have b4 := nx 4 117 b3.1 a4 (by decide)
      have b5 := nx 5 100 b4.1 a5 (by decide)
      have b6 := nx 6 101 b5.1 a6 (by decide)
      have bc := nx 7 58 b6.1 a7 (by decide)
      have hf := fin 7 rfl (by omega) (by omega) (fun q hq => by
          have h9 : q = 0 ∨ q = 1 ∨ q = 2 ∨ q = 3 ∨ q = 4 ∨ q = 5 ∨ q = 6 := by omega
          rcases h9 with rfl | rfl | rfl | rfl | rfl | rfl | rfl
          · rw [b0.2]; decide
          · rw [b1.2]; decide
          · rw [b2.2]; decide
          · rw [b3.2]; decide
          · rw [b4.2]; decide
          · rw [b5.2]; decide
          · rw [b6.2]; decide) (fun _ => Or.inl bc.2)
      exact ⟨by omega, by omega, by omega, by unfold t_kind; rw [if_neg (fun e => by have e2 := (t_word_iff.mp e).1; have e3 : (i + 7) - i = 3 := e2; omega), if_pos (t_word_iff.mpr ⟨by show i + 7 - i = 7; omega, fun k hk => by
          have hk2 : k < 7 := hk
          have h9 : k = 0 ∨ k = 1 ∨ k = 2 ∨ k = 3 ∨ k = 4 ∨ k = 5 ∨ k = 6 := by omega
          rcases h9 with rfl | rfl | rfl | rfl | rfl | rfl | rfl
          · exact b0.2
          · exact b1.2
          · exact b2.2
          · exact b3.2
          · exact b4.2
          · exact b5.2
          · exact b6.2⟩)], hf.1, hf.2, fun _ => ⟨by omega, bc.2⟩, fun h => absurd h (by decide), fun _ => Or.inl bc.2⟩
    · rename_i hc2
      unfold r_m3 at h
      split at h
      · rename_i hc
        obtain ⟨⟨a0, a1, a2⟩, ⟨a3, a4, a5⟩, a6⟩ := hc
        obtain ⟨rfl, rfl⟩ : 5 = k ∧ i + 6 = rd := by cases h; exact ⟨rfl, rfl⟩
        have b0 := nx 0 101 hi a0 (by decide)
        have b1 := nx 1 120 b0.1 a1 (by decide)
        have b2 := nx 2 105 b1.1 a2 (by decide)
        have b3 := nx 3 115 b2.1 a3 (by decide)
        have b4 := nx 4 116 b3.1 a4 (by decide)
        have b5 := nx 5 115 b4.1 a5 (by decide)
        have bc := nx 6 58 b5.1 a6 (by decide)
        have hf := fin 6 rfl (by omega) (by omega) (fun q hq => by
          have h9 : q = 0 ∨ q = 1 ∨ q = 2 ∨ q = 3 ∨ q = 4 ∨ q = 5 := by omega
          rcases h9 with rfl | rfl | rfl | rfl | rfl | rfl
          · rw [b0.2]; decide
          · rw [b1.2]; decide
          · rw [b2.2]; decide
          · rw [b3.2]; decide
          · rw [b4.2]; decide
          · rw [b5.2]; decide) (fun _ => Or.inl bc.2)
        exact ⟨by omega, by omega, by omega, by unfold t_kind; rw [if_neg (fun e => by have e2 := (t_word_iff.mp e).1; have e3 : (i + 6) - i = 3 := e2; omega), if_neg (fun e => by have e2 := (t_word_iff.mp e).1; have e3 : (i + 6) - i = 7 := e2; omega), if_neg (fun e => by have e2 := (t_word_iff.mp e).1; have e3 : (i + 6) - i = 1 := e2; omega), if_neg (fun e => by have e2 := (t_word_iff.mp e).1; have e3 : (i + 6) - i = 2 := e2; omega), if_neg (fun e => by have e2 := (t_word_iff.mp e).1; have e3 : (i + 6) - i = 3 := e2; omega), if_pos (t_word_iff.mpr ⟨by show i + 6 - i = 6; omega, fun k hk => by
          have hk2 : k < 6 := hk
          have h9 : k = 0 ∨ k = 1 ∨ k = 2 ∨ k = 3 ∨ k = 4 ∨ k = 5 := by omega
          rcases h9 with rfl | rfl | rfl | rfl | rfl | rfl
          · exact b0.2
          · exact b1.2
          · exact b2.2
          · exact b3.2
          · exact b4.2
          · exact b5.2⟩)], hf.1, hf.2, fun _ => ⟨by omega, bc.2⟩, fun h => absurd h (by decide), fun _ => Or.inl bc.2⟩
      · rename_i hc3
        unfold r_m4 at h
        split at h
        · rename_i hc
          obtain ⟨⟨a0, a1, a2⟩, a3⟩ := hc
          obtain ⟨rfl, rfl⟩ : 4 = k ∧ i + 3 = rd := by cases h; exact ⟨rfl, rfl⟩
          have b0 := nx 0 105 hi a0 (by decide)
          have b1 := nx 1 112 b0.1 a1 (by decide)
          have b2 := nx 2 52 b1.1 a2 (by decide)
          have bc := nx 3 58 b2.1 a3 (by decide)
          have hf := fin 3 rfl (by omega) (by omega) (fun q hq => by
          have h9 : q = 0 ∨ q = 1 ∨ q = 2 := by omega
          rcases h9 with rfl | rfl | rfl
          · rw [b0.2]; decide
          · rw [b1.2]; decide
          · rw [b2.2]; decide) (fun _ => Or.inl bc.2)
          exact ⟨by omega, by omega, by omega, by unfold t_kind; rw [if_neg (fun e => by have e2 := (t_word_iff.mp e).2 0 (by decide); have e3 : gl D (i + 0) = 97 := e2; rw [b0.2] at e3; exact absurd e3 (by decide)), if_neg (fun e => by have e2 := (t_word_iff.mp e).1; have e3 : (i + 3) - i = 7 := e2; omega), if_neg (fun e => by have e2 := (t_word_iff.mp e).1; have e3 : (i + 3) - i = 1 := e2; omega), if_neg (fun e => by have e2 := (t_word_iff.mp e).1; have e3 : (i + 3) - i = 2 := e2; omega), if_pos (t_word_iff.mpr ⟨by show i + 3 - i = 3; omega, fun k hk => by
          have hk2 : k < 3 := hk
          have h9 : k = 0 ∨ k = 1 ∨ k = 2 := by omega
          rcases h9 with rfl | rfl | rfl
          · exact b0.2
          · exact b1.2
          · exact b2.2⟩)], hf.1, hf.2, fun _ => ⟨by omega, bc.2⟩, fun h => absurd h (by decide), fun _ => Or.inl bc.2⟩
        · rename_i hc4
          unfold r_m5 at h
          split at h
          · rename_i hc
            split at h
            · rename_i he
              obtain ⟨a0, a1⟩ := hc
              obtain ⟨rfl, rfl⟩ : 3 = k ∧ i + 2 = rd := by cases h; exact ⟨rfl, rfl⟩
              have b0 := nx 0 109 hi a0 (by decide)
              have b1 := nx 1 120 b0.1 a1 (by decide)
              have hend : i + 2 < j → gl D (i + 2) = 58 ∨ gl D (i + 2) = 47 := fun h => by
                rw [ga_in (show i + 2 < D.length by omega)] at he
                exact he.resolve_left (by omega)
              have hf := fin 2 rfl (by omega) (by omega) (fun q hq => by
          have h9 : q = 0 ∨ q = 1 := by omega
          rcases h9 with rfl | rfl
          · rw [b0.2]; decide
          · rw [b1.2]; decide) hend
              exact ⟨by omega, by omega, by omega, by unfold t_kind; rw [if_neg (fun e => by have e2 := (t_word_iff.mp e).1; have e3 : (i + 2) - i = 3 := e2; omega), if_neg (fun e => by have e2 := (t_word_iff.mp e).1; have e3 : (i + 2) - i = 7 := e2; omega), if_neg (fun e => by have e2 := (t_word_iff.mp e).1; have e3 : (i + 2) - i = 1 := e2; omega), if_pos (t_word_iff.mpr ⟨by show i + 2 - i = 2; omega, fun k hk => by
          have hk2 : k < 2 := hk
          have h9 : k = 0 ∨ k = 1 := by omega
          rcases h9 with rfl | rfl
          · exact b0.2
          · exact b1.2⟩)], hf.1, hf.2, fun h => absurd h (by decide), fun h => absurd h (by decide), hend⟩
            · cases h
          · rename_i hc
            split at h
            · rename_i he
              obtain ⟨he, a0⟩ := he
              obtain ⟨rfl, rfl⟩ : 2 = k ∧ i + 1 = rd := by cases h; exact ⟨rfl, rfl⟩
              have b0 := nx 0 97 hi a0 (by decide)
              have hend : i + 1 < j → gl D (i + 1) = 58 ∨ gl D (i + 1) = 47 := fun h => by
                rw [ga_in (show i + 1 < D.length by omega)] at he
                exact he.resolve_left (by omega)
              have hf := fin 1 rfl (by omega) (by omega) (fun q hq => by
          have h9 : q = 0 := by omega
          rcases h9 with rfl
          rw [b0.2]; decide) hend
              exact ⟨by omega, by omega, by omega, by unfold t_kind; rw [if_neg (fun e => by have e2 := (t_word_iff.mp e).1; have e3 : (i + 1) - i = 3 := e2; omega), if_neg (fun e => by have e2 := (t_word_iff.mp e).1; have e3 : (i + 1) - i = 7 := e2; omega), if_pos (t_word_iff.mpr ⟨by show i + 1 - i = 1; omega, fun k hk => by
          have hk2 : k < 1 := hk
          have h9 : k = 0 := by omega
          rcases h9 with rfl
          exact b0.2⟩)], hf.1, hf.2, fun h => absurd h (by decide), fun h => absurd h (by decide), hend⟩
            · cases h
theorem f_addr_nil {g : Nat → Nat} {a : Nat} : f_addr g a (a + 1 - a) 0 0 a a = none := by
  rw [adr_same (Nat.le_refl _), r_addr, if_neg (by omega)]
  have e : r_dg g a (if 3 < 3 then a + 1 else a) = (0, a) := by
    rw [if_neg (by decide)]
    unfold r_dg
    rw [if_neg (by omega), Nat.sub_self]; rfl
  rw [e, if_neg (by decide), r_num, if_pos (Or.inl rfl)]; rfl
theorem r_m_none {D : List Nat} {i j rd res : Nat} (hj : j ≤ D.length) (hi : i ≤ j) (h32 : ga D j = 32) (h : r_m1 D i j = (none, rd)) : t_rest (gl D) i j res = none := by
  have hs := f_find_s (g := gl D) (c := 47) (j - i) i
  have hs1 : i ≤ t_sl (gl D) i j := hs.1
  have hs2 : t_sl (gl D) i j ≤ j := by have := hs.2.1; unfold t_sl; omega
  have hs3 : t_sl (gl D) i j < j → gl D (t_sl (gl D) i j) = 47 := fun q => hs.2.2.2 (by unfold t_sl at q; omega)
  have hc := f_find_s (g := gl D) (c := 58) (t_sl (gl D) i j - i) i
  have hc1 : i ≤ t_co (gl D) i j := hc.1
  have hc2 : t_co (gl D) i j ≤ t_sl (gl D) i j := by have := hc.2.1; unfold t_co; omega
  have hc3 : t_co (gl D) i j < t_sl (gl D) i j → gl D (t_co (gl D) i j) = 58 := fun q => hc.2.2.2 (by unfold t_co at q; omega)
  have htf : ¬ t_co (gl D) i j < t_sl (gl D) i j → t_tf (gl D) i j = t_sl (gl D) i j := fun q => by unfold t_tf; rw [if_neg q]
  unfold t_rest
  cases hk : t_kind (gl D) i (t_co (gl D) i j) with
  | none => rfl
  | some k =>
    show (t_bits (gl D) i j).bind (fun b => t_rk (gl D) i j res k b) = none
    cases hb : t_bits (gl D) i j with
    | none => rfl
    | some b =>
      show t_rk (gl D) i j res k b = none
      revert hs1 hs2 hs3 hc1 hc2 hc3 htf hk
      unfold t_rk
      generalize t_sl (gl D) i j = sl
      generalize t_co (gl D) i j = co
      generalize t_tf (gl D) i j = tf
      intro hs1 hs2 hs3 hc1 hc2 hc3 htf hk
      have endx : ∀ {e : Nat}, e = co → ∀ {v : Nat}, ga D e = v → ¬ v = 58 → ¬ v = 47 → ¬ v = 32 → False := by
        intro e he v hv h1 h2 h3
        subst he
        by_cases e1 : e < j
        · rw [ga_in (by omega)] at hv
          by_cases e2 : e < sl
          · exact h1 (by rw [← hv]; exact hc3 e2)
          · have e3 : e = sl := by omega
            exact h2 (by rw [← hv, e3]; exact hs3 (by omega))
        · have e3 : e = j := by omega
          exact h3 (by rw [← hv, e3]; exact h32)
      rcases t_kind_w hk with ⟨rfl, hw⟩ | ⟨rfl, hw⟩ | ⟨rfl, hw⟩ | ⟨rfl, hw⟩ | ⟨rfl, hw⟩ | ⟨rfl, hw⟩
      · obtain ⟨hl, hch⟩ := t_word_iff.mp hw
        have hl2 : co - i = 3 := hl
        have hco : co = i + 3 := by omega
        have a0 : ga D (i + 0) = 97 := by rw [ga_in (by omega)]; exact hch 0 (by decide)
        have a1 : ga D (i + 1) = 108 := by rw [ga_in (by omega)]; exact hch 1 (by decide)
        have a2 : ga D (i + 2) = 108 := by rw [ga_in (by omega)]; exact hch 2 (by decide)
        rw [if_pos rfl]
        by_cases e : ¬ co < sl ∧ ¬ sl < j
        · exfalso
          rw [r_m1, if_pos ⟨⟨a0, a1, a2⟩, by omega⟩] at h
          cases h
        · rw [if_neg e]
      · obtain ⟨hl, hch⟩ := t_word_iff.mp hw
        have hl2 : co - i = 7 := hl
        have hco : co = i + 7 := by omega
        have a0 : ga D (i + 0) = 105 := by rw [ga_in (by omega)]; exact hch 0 (by decide)
        have a1 : ga D (i + 1) = 110 := by rw [ga_in (by omega)]; exact hch 1 (by decide)
        have a2 : ga D (i + 2) = 99 := by rw [ga_in (by omega)]; exact hch 2 (by decide)
        have a3 : ga D (i + 3) = 108 := by rw [ga_in (by omega)]; exact hch 3 (by decide)
        have a4 : ga D (i + 4) = 117 := by rw [ga_in (by omega)]; exact hch 4 (by decide)
        have a5 : ga D (i + 5) = 100 := by rw [ga_in (by omega)]; exact hch 5 (by decide)
        have a6 : ga D (i + 6) = 101 := by rw [ga_in (by omega)]; exact hch 6 (by decide)
        rw [if_neg (by decide), if_pos (by decide)]
        by_cases e : co < sl
        · exfalso
          have a7 : ga D (i + 7) = 58 := by rw [ga_in (by omega), ← hco]; exact hc3 e
          rw [r_m1, if_neg (fun hh => absurd (a0.symm.trans hh.1.1) (by decide)), r_m2, if_pos ⟨⟨a0, a1, a2⟩, ⟨a3, a4, a5⟩, a6, a7⟩] at h
          cases h
        · rw [if_neg]
          rintro ⟨_, e2⟩
          rw [htf e] at e2
          unfold t_tgt at e2
          rw [decide_eq_false (by omega)] at e2
          cases e2
      · obtain ⟨hl, hch⟩ := t_word_iff.mp hw
        have hl2 : co - i = 1 := hl
        have hco : co = i + 1 := by omega
        have a0 : ga D (i + 0) = 97 := by rw [ga_in (by omega)]; exact hch 0 (by decide)
        exfalso
        have hend : i + 1 = j ∨ ga D (i + 1) = 58 ∨ ga D (i + 1) = 47 := by
          by_cases e1 : co < sl
          · right; left; rw [ga_in (by omega), ← hco]; exact hc3 e1
          · by_cases e2 : sl < j
            · right; right; rw [ga_in (by omega), ← hco, show co = sl by omega]; exact hs3 e2
            · left; omega
        rw [r_m1, if_neg (fun hh => endx hco.symm hh.1.2.1 (by decide) (by decide) (by decide)), r_m2, if_neg (fun hh => absurd (a0.symm.trans hh.1.1) (by decide)), r_m3, if_neg (fun hh => absurd (a0.symm.trans hh.1.1) (by decide)), r_m4, if_neg (fun hh => absurd (a0.symm.trans hh.1.1) (by decide)), r_m5, if_neg (fun hh => absurd (a0.symm.trans hh.1) (by decide)), if_pos ⟨hend, a0⟩] at h
        cases h
      · obtain ⟨hl, hch⟩ := t_word_iff.mp hw
        have hl2 : co - i = 2 := hl
        have hco : co = i + 2 := by omega
        have a0 : ga D (i + 0) = 109 := by rw [ga_in (by omega)]; exact hch 0 (by decide)
        have a1 : ga D (i + 1) = 120 := by rw [ga_in (by omega)]; exact hch 1 (by decide)
        exfalso
        have hend : i + 2 = j ∨ ga D (i + 2) = 58 ∨ ga D (i + 2) = 47 := by
          by_cases e1 : co < sl
          · right; left; rw [ga_in (by omega), ← hco]; exact hc3 e1
          · by_cases e2 : sl < j
            · right; right; rw [ga_in (by omega), ← hco, show co = sl by omega]; exact hs3 e2
            · left; omega
        rw [r_m1, if_neg (fun hh => absurd (a0.symm.trans hh.1.1) (by decide)), r_m2, if_neg (fun hh => absurd (a0.symm.trans hh.1.1) (by decide)), r_m3, if_neg (fun hh => absurd (a0.symm.trans hh.1.1) (by decide)), r_m4, if_neg (fun hh => absurd (a0.symm.trans hh.1.1) (by decide)), r_m5, if_pos ⟨a0, a1⟩, if_pos hend] at h
        cases h
      · obtain ⟨hl, hch⟩ := t_word_iff.mp hw
        have hl2 : co - i = 3 := hl
        have hco : co = i + 3 := by omega
        have a0 : ga D (i + 0) = 105 := by rw [ga_in (by omega)]; exact hch 0 (by decide)
        have a1 : ga D (i + 1) = 112 := by rw [ga_in (by omega)]; exact hch 1 (by decide)
        have a2 : ga D (i + 2) = 52 := by rw [ga_in (by omega)]; exact hch 2 (by decide)
        rw [if_neg (by decide), if_neg (by decide), if_neg (by decide)]
        by_cases e : co < sl
        · exfalso
          have a3 : ga D (i + 3) = 58 := by rw [ga_in (by omega), ← hco]; exact hc3 e
          rw [r_m1, if_neg (fun hh => absurd (a0.symm.trans hh.1.1) (by decide)), r_m2, if_neg (fun hh => absurd (a1.symm.trans hh.1.2.1) (by decide)), r_m3, if_neg (fun hh => absurd (a0.symm.trans hh.1.1) (by decide)), r_m4, if_pos ⟨⟨a0, a1, a2⟩, a3⟩] at h
          cases h
        · rw [htf e, f_addr_nil]; rfl
      · obtain ⟨hl, hch⟩ := t_word_iff.mp hw
        have hl2 : co - i = 6 := hl
        have hco : co = i + 6 := by omega
        have a0 : ga D (i + 0) = 101 := by rw [ga_in (by omega)]; exact hch 0 (by decide)
        have a1 : ga D (i + 1) = 120 := by rw [ga_in (by omega)]; exact hch 1 (by decide)
        have a2 : ga D (i + 2) = 105 := by rw [ga_in (by omega)]; exact hch 2 (by decide)
        have a3 : ga D (i + 3) = 115 := by rw [ga_in (by omega)]; exact hch 3 (by decide)
        have a4 : ga D (i + 4) = 116 := by rw [ga_in (by omega)]; exact hch 4 (by decide)
        have a5 : ga D (i + 5) = 115 := by rw [ga_in (by omega)]; exact hch 5 (by decide)
        rw [if_neg (by decide), if_pos (by decide)]
        by_cases e : co < sl
        · exfalso
          have a6 : ga D (i + 6) = 58 := by rw [ga_in (by omega), ← hco]; exact hc3 e
          rw [r_m1, if_neg (fun hh => absurd (a0.symm.trans hh.1.1) (by decide)), r_m2, if_neg (fun hh => absurd (a0.symm.trans hh.1.1) (by decide)), r_m3, if_pos ⟨⟨a0, a1, a2⟩, ⟨a3, a4, a5⟩, a6⟩] at h
          cases h
        · rw [if_neg]
          rintro ⟨_, e2⟩
          rw [htf e] at e2
          unfold t_tgt at e2
          rw [decide_eq_false (by omega)] at e2
          cases e2
