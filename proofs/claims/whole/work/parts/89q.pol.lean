/-! the reference: policy records -/
theorem d158_0 (L : Nat) (xs : Nat → Int32) : decode (ax_code (mgT L xs) 158) 0 = .ok (.aload_n 0, 1) := by
  show decode prog_11_method_56_code 0 = _
  decide +kernel
theorem d158_1 (L : Nat) (xs : Nat → Int32) : decode (ax_code (mgT L xs) 158) 1 = .ok (.getfield 22, 3) := by
  show decode prog_11_method_56_code 1 = _
  decide +kernel
theorem d158_4 (L : Nat) (xs : Nat → Int32) : decode (ax_code (mgT L xs) 158) 4 = .ok (.iload_n 1, 1) := by
  show decode prog_11_method_56_code 4 = _
  decide +kernel
theorem d158_5 (L : Nat) (xs : Nat → Int32) : decode (ax_code (mgT L xs) 158) 5 = .ok (.iaload, 1) := by
  show decode prog_11_method_56_code 5 = _
  decide +kernel
theorem d158_6 (L : Nat) (xs : Nat → Int32) : decode (ax_code (mgT L xs) 158) 6 = .ok (.iconst 1, 1) := by
  show decode prog_11_method_56_code 6 = _
  decide +kernel
theorem d158_7 (L : Nat) (xs : Nat → Int32) : decode (ax_code (mgT L xs) 158) 7 = .ok (.iadd, 1) := by
  show decode prog_11_method_56_code 7 = _
  decide +kernel
theorem d158_8 (L : Nat) (xs : Nat → Int32) : decode (ax_code (mgT L xs) 158) 8 = .ok (.istore_n 2, 1) := by
  show decode prog_11_method_56_code 8 = _
  decide +kernel
theorem d158_9 (L : Nat) (xs : Nat → Int32) : decode (ax_code (mgT L xs) 158) 9 = .ok (.aload_n 0, 1) := by
  show decode prog_11_method_56_code 9 = _
  decide +kernel
theorem d158_10 (L : Nat) (xs : Nat → Int32) : decode (ax_code (mgT L xs) 158) 10 = .ok (.iload_n 1, 1) := by
  show decode prog_11_method_56_code 10 = _
  decide +kernel
theorem d158_11 (L : Nat) (xs : Nat → Int32) : decode (ax_code (mgT L xs) 158) 11 = .ok (.iload_n 2, 1) := by
  show decode prog_11_method_56_code 11 = _
  decide +kernel
theorem d158_12 (L : Nat) (xs : Nat → Int32) : decode (ax_code (mgT L xs) 158) 12 = .ok (.bipush 118, 2) := by
  show decode prog_11_method_56_code 12 = _
  decide +kernel
theorem d158_14 (L : Nat) (xs : Nat → Int32) : decode (ax_code (mgT L xs) 158) 14 = .ok (.bipush 61, 2) := by
  show decode prog_11_method_56_code 14 = _
  decide +kernel
theorem d158_16 (L : Nat) (xs : Nat → Int32) : decode (ax_code (mgT L xs) 158) 16 = .ok (.bipush 68, 2) := by
  show decode prog_11_method_56_code 16 = _
  decide +kernel
theorem d158_18 (L : Nat) (xs : Nat → Int32) : decode (ax_code (mgT L xs) 158) 18 = .ok (.invokevirtual 170, 3) := by
  show decode prog_11_method_56_code 18 = _
  decide +kernel
theorem d158_21 (L : Nat) (xs : Nat → Int32) : decode (ax_code (mgT L xs) 158) 21 = .ok (.ifCond .eq 65, 3) := by
  show decode prog_11_method_56_code 21 = _
  decide +kernel
theorem d158_24 (L : Nat) (xs : Nat → Int32) : decode (ax_code (mgT L xs) 158) 24 = .ok (.aload_n 0, 1) := by
  show decode prog_11_method_56_code 24 = _
  decide +kernel
theorem d158_25 (L : Nat) (xs : Nat → Int32) : decode (ax_code (mgT L xs) 158) 25 = .ok (.iload_n 1, 1) := by
  show decode prog_11_method_56_code 25 = _
  decide +kernel
theorem d158_26 (L : Nat) (xs : Nat → Int32) : decode (ax_code (mgT L xs) 158) 26 = .ok (.iload_n 2, 1) := by
  show decode prog_11_method_56_code 26 = _
  decide +kernel
theorem d158_27 (L : Nat) (xs : Nat → Int32) : decode (ax_code (mgT L xs) 158) 27 = .ok (.iconst 3, 1) := by
  show decode prog_11_method_56_code 27 = _
  decide +kernel
theorem d158_28 (L : Nat) (xs : Nat → Int32) : decode (ax_code (mgT L xs) 158) 28 = .ok (.iadd, 1) := by
  show decode prog_11_method_56_code 28 = _
  decide +kernel
theorem d158_29 (L : Nat) (xs : Nat → Int32) : decode (ax_code (mgT L xs) 158) 29 = .ok (.bipush 77, 2) := by
  show decode prog_11_method_56_code 29 = _
  decide +kernel
theorem d158_31 (L : Nat) (xs : Nat → Int32) : decode (ax_code (mgT L xs) 158) 31 = .ok (.bipush 65, 2) := by
  show decode prog_11_method_56_code 31 = _
  decide +kernel
theorem d158_33 (L : Nat) (xs : Nat → Int32) : decode (ax_code (mgT L xs) 158) 33 = .ok (.bipush 82, 2) := by
  show decode prog_11_method_56_code 33 = _
  decide +kernel
theorem d158_35 (L : Nat) (xs : Nat → Int32) : decode (ax_code (mgT L xs) 158) 35 = .ok (.invokevirtual 170, 3) := by
  show decode prog_11_method_56_code 35 = _
  decide +kernel
theorem d158_38 (L : Nat) (xs : Nat → Int32) : decode (ax_code (mgT L xs) 158) 38 = .ok (.ifCond .eq 48, 3) := by
  show decode prog_11_method_56_code 38 = _
  decide +kernel
theorem d158_41 (L : Nat) (xs : Nat → Int32) : decode (ax_code (mgT L xs) 158) 41 = .ok (.aload_n 0, 1) := by
  show decode prog_11_method_56_code 41 = _
  decide +kernel
theorem d158_42 (L : Nat) (xs : Nat → Int32) : decode (ax_code (mgT L xs) 158) 42 = .ok (.iload_n 1, 1) := by
  show decode prog_11_method_56_code 42 = _
  decide +kernel
theorem d158_43 (L : Nat) (xs : Nat → Int32) : decode (ax_code (mgT L xs) 158) 43 = .ok (.iload_n 2, 1) := by
  show decode prog_11_method_56_code 43 = _
  decide +kernel
theorem d158_44 (L : Nat) (xs : Nat → Int32) : decode (ax_code (mgT L xs) 158) 44 = .ok (.bipush 6, 2) := by
  show decode prog_11_method_56_code 44 = _
  decide +kernel
theorem d158_46 (L : Nat) (xs : Nat → Int32) : decode (ax_code (mgT L xs) 158) 46 = .ok (.iadd, 1) := by
  show decode prog_11_method_56_code 46 = _
  decide +kernel
theorem d158_47 (L : Nat) (xs : Nat → Int32) : decode (ax_code (mgT L xs) 158) 47 = .ok (.invokevirtual 166, 3) := by
  show decode prog_11_method_56_code 47 = _
  decide +kernel
theorem d158_50 (L : Nat) (xs : Nat → Int32) : decode (ax_code (mgT L xs) 158) 50 = .ok (.bipush 67, 2) := by
  show decode prog_11_method_56_code 50 = _
  decide +kernel
theorem d158_52 (L : Nat) (xs : Nat → Int32) : decode (ax_code (mgT L xs) 158) 52 = .ok (.if_icmp .ne 34, 3) := by
  show decode prog_11_method_56_code 52 = _
  decide +kernel
theorem d158_55 (L : Nat) (xs : Nat → Int32) : decode (ax_code (mgT L xs) 158) 55 = .ok (.aload_n 0, 1) := by
  show decode prog_11_method_56_code 55 = _
  decide +kernel
theorem d158_56 (L : Nat) (xs : Nat → Int32) : decode (ax_code (mgT L xs) 158) 56 = .ok (.iload_n 1, 1) := by
  show decode prog_11_method_56_code 56 = _
  decide +kernel
theorem d158_57 (L : Nat) (xs : Nat → Int32) : decode (ax_code (mgT L xs) 158) 57 = .ok (.iload_n 2, 1) := by
  show decode prog_11_method_56_code 57 = _
  decide +kernel
theorem d158_58 (L : Nat) (xs : Nat → Int32) : decode (ax_code (mgT L xs) 158) 58 = .ok (.bipush 7, 2) := by
  show decode prog_11_method_56_code 58 = _
  decide +kernel
theorem d158_60 (L : Nat) (xs : Nat → Int32) : decode (ax_code (mgT L xs) 158) 60 = .ok (.iadd, 1) := by
  show decode prog_11_method_56_code 60 = _
  decide +kernel
theorem d158_61 (L : Nat) (xs : Nat → Int32) : decode (ax_code (mgT L xs) 158) 61 = .ok (.invokevirtual 166, 3) := by
  show decode prog_11_method_56_code 61 = _
  decide +kernel
theorem d158_64 (L : Nat) (xs : Nat → Int32) : decode (ax_code (mgT L xs) 158) 64 = .ok (.bipush 49, 2) := by
  show decode prog_11_method_56_code 64 = _
  decide +kernel
theorem d158_66 (L : Nat) (xs : Nat → Int32) : decode (ax_code (mgT L xs) 158) 66 = .ok (.if_icmp .ne 20, 3) := by
  show decode prog_11_method_56_code 66 = _
  decide +kernel
theorem d158_69 (L : Nat) (xs : Nat → Int32) : decode (ax_code (mgT L xs) 158) 69 = .ok (.iload_n 2, 1) := by
  show decode prog_11_method_56_code 69 = _
  decide +kernel
theorem d158_70 (L : Nat) (xs : Nat → Int32) : decode (ax_code (mgT L xs) 158) 70 = .ok (.bipush 8, 2) := by
  show decode prog_11_method_56_code 70 = _
  decide +kernel
theorem d158_72 (L : Nat) (xs : Nat → Int32) : decode (ax_code (mgT L xs) 158) 72 = .ok (.iadd, 1) := by
  show decode prog_11_method_56_code 72 = _
  decide +kernel
theorem d158_73 (L : Nat) (xs : Nat → Int32) : decode (ax_code (mgT L xs) 158) 73 = .ok (.aload_n 0, 1) := by
  show decode prog_11_method_56_code 73 = _
  decide +kernel
theorem d158_74 (L : Nat) (xs : Nat → Int32) : decode (ax_code (mgT L xs) 158) 74 = .ok (.getfield 19, 3) := by
  show decode prog_11_method_56_code 74 = _
  decide +kernel
theorem d158_77 (L : Nat) (xs : Nat → Int32) : decode (ax_code (mgT L xs) 158) 77 = .ok (.iload_n 1, 1) := by
  show decode prog_11_method_56_code 77 = _
  decide +kernel
theorem d158_78 (L : Nat) (xs : Nat → Int32) : decode (ax_code (mgT L xs) 158) 78 = .ok (.iaload, 1) := by
  show decode prog_11_method_56_code 78 = _
  decide +kernel
theorem d158_79 (L : Nat) (xs : Nat → Int32) : decode (ax_code (mgT L xs) 158) 79 = .ok (.if_icmp .gt 7, 3) := by
  show decode prog_11_method_56_code 79 = _
  decide +kernel
theorem d158_82 (L : Nat) (xs : Nat → Int32) : decode (ax_code (mgT L xs) 158) 82 = .ok (.iconst 1, 1) := by
  show decode prog_11_method_56_code 82 = _
  decide +kernel
theorem d158_83 (L : Nat) (xs : Nat → Int32) : decode (ax_code (mgT L xs) 158) 83 = .ok (.goto 4, 3) := by
  show decode prog_11_method_56_code 83 = _
  decide +kernel
theorem d158_86 (L : Nat) (xs : Nat → Int32) : decode (ax_code (mgT L xs) 158) 86 = .ok (.iconst 0, 1) := by
  show decode prog_11_method_56_code 86 = _
  decide +kernel
theorem d158_87 (L : Nat) (xs : Nat → Int32) : decode (ax_code (mgT L xs) 158) 87 = .ok (.istore_n 3, 1) := by
  show decode prog_11_method_56_code 87 = _
  decide +kernel
theorem d158_88 (L : Nat) (xs : Nat → Int32) : decode (ax_code (mgT L xs) 158) 88 = .ok (.aload_n 0, 1) := by
  show decode prog_11_method_56_code 88 = _
  decide +kernel
theorem d158_89 (L : Nat) (xs : Nat → Int32) : decode (ax_code (mgT L xs) 158) 89 = .ok (.iconst 0, 1) := by
  show decode prog_11_method_56_code 89 = _
  decide +kernel
theorem d158_90 (L : Nat) (xs : Nat → Int32) : decode (ax_code (mgT L xs) 158) 90 = .ok (.putfield 286, 3) := by
  show decode prog_11_method_56_code 90 = _
  decide +kernel
theorem d158_93 (L : Nat) (xs : Nat → Int32) : decode (ax_code (mgT L xs) 158) 93 = .ok (.aload_n 0, 1) := by
  show decode prog_11_method_56_code 93 = _
  decide +kernel
theorem d158_94 (L : Nat) (xs : Nat → Int32) : decode (ax_code (mgT L xs) 158) 94 = .ok (.iconst 0, 1) := by
  show decode prog_11_method_56_code 94 = _
  decide +kernel
theorem d158_95 (L : Nat) (xs : Nat → Int32) : decode (ax_code (mgT L xs) 158) 95 = .ok (.putfield 292, 3) := by
  show decode prog_11_method_56_code 95 = _
  decide +kernel
theorem d158_98 (L : Nat) (xs : Nat → Int32) : decode (ax_code (mgT L xs) 158) 98 = .ok (.aload_n 0, 1) := by
  show decode prog_11_method_56_code 98 = _
  decide +kernel
theorem d158_99 (L : Nat) (xs : Nat → Int32) : decode (ax_code (mgT L xs) 158) 99 = .ok (.iconst (-1), 1) := by
  show decode prog_11_method_56_code 99 = _
  decide +kernel
theorem d158_100 (L : Nat) (xs : Nat → Int32) : decode (ax_code (mgT L xs) 158) 100 = .ok (.putfield 295, 3) := by
  show decode prog_11_method_56_code 100 = _
  decide +kernel
theorem d158_103 (L : Nat) (xs : Nat → Int32) : decode (ax_code (mgT L xs) 158) 103 = .ok (.aload_n 0, 1) := by
  show decode prog_11_method_56_code 103 = _
  decide +kernel
theorem d158_104 (L : Nat) (xs : Nat → Int32) : decode (ax_code (mgT L xs) 158) 104 = .ok (.iconst (-1), 1) := by
  show decode prog_11_method_56_code 104 = _
  decide +kernel
theorem d158_105 (L : Nat) (xs : Nat → Int32) : decode (ax_code (mgT L xs) 158) 105 = .ok (.putfield 298, 3) := by
  show decode prog_11_method_56_code 105 = _
  decide +kernel
theorem d158_108 (L : Nat) (xs : Nat → Int32) : decode (ax_code (mgT L xs) 158) 108 = .ok (.iinc 2 8, 3) := by
  show decode prog_11_method_56_code 108 = _
  decide +kernel
theorem d158_111 (L : Nat) (xs : Nat → Int32) : decode (ax_code (mgT L xs) 158) 111 = .ok (.iload_n 3, 1) := by
  show decode prog_11_method_56_code 111 = _
  decide +kernel
theorem d158_112 (L : Nat) (xs : Nat → Int32) : decode (ax_code (mgT L xs) 158) 112 = .ok (.ifCond .eq 200, 3) := by
  show decode prog_11_method_56_code 112 = _
  decide +kernel
theorem d158_115 (L : Nat) (xs : Nat → Int32) : decode (ax_code (mgT L xs) 158) 115 = .ok (.iload_n 2, 1) := by
  show decode prog_11_method_56_code 115 = _
  decide +kernel
theorem d158_116 (L : Nat) (xs : Nat → Int32) : decode (ax_code (mgT L xs) 158) 116 = .ok (.aload_n 0, 1) := by
  show decode prog_11_method_56_code 116 = _
  decide +kernel
theorem d158_117 (L : Nat) (xs : Nat → Int32) : decode (ax_code (mgT L xs) 158) 117 = .ok (.getfield 19, 3) := by
  show decode prog_11_method_56_code 117 = _
  decide +kernel
theorem d158_120 (L : Nat) (xs : Nat → Int32) : decode (ax_code (mgT L xs) 158) 120 = .ok (.iload_n 1, 1) := by
  show decode prog_11_method_56_code 120 = _
  decide +kernel
theorem d158_121 (L : Nat) (xs : Nat → Int32) : decode (ax_code (mgT L xs) 158) 121 = .ok (.iaload, 1) := by
  show decode prog_11_method_56_code 121 = _
  decide +kernel
theorem d158_122 (L : Nat) (xs : Nat → Int32) : decode (ax_code (mgT L xs) 158) 122 = .ok (.if_icmp .ge 190, 3) := by
  show decode prog_11_method_56_code 122 = _
  decide +kernel
theorem d158_125 (L : Nat) (xs : Nat → Int32) : decode (ax_code (mgT L xs) 158) 125 = .ok (.aload_n 0, 1) := by
  show decode prog_11_method_56_code 125 = _
  decide +kernel
theorem d158_126 (L : Nat) (xs : Nat → Int32) : decode (ax_code (mgT L xs) 158) 126 = .ok (.iload_n 1, 1) := by
  show decode prog_11_method_56_code 126 = _
  decide +kernel
theorem d158_127 (L : Nat) (xs : Nat → Int32) : decode (ax_code (mgT L xs) 158) 127 = .ok (.iload_n 2, 1) := by
  show decode prog_11_method_56_code 127 = _
  decide +kernel
theorem d158_128 (L : Nat) (xs : Nat → Int32) : decode (ax_code (mgT L xs) 158) 128 = .ok (.invokevirtual 166, 3) := by
  show decode prog_11_method_56_code 128 = _
  decide +kernel
theorem d158_131 (L : Nat) (xs : Nat → Int32) : decode (ax_code (mgT L xs) 158) 131 = .ok (.bipush 59, 2) := by
  show decode prog_11_method_56_code 131 = _
  decide +kernel
theorem d158_133 (L : Nat) (xs : Nat → Int32) : decode (ax_code (mgT L xs) 158) 133 = .ok (.if_icmp .eq 5, 3) := by
  show decode prog_11_method_56_code 133 = _
  decide +kernel
theorem d158_136 (L : Nat) (xs : Nat → Int32) : decode (ax_code (mgT L xs) 158) 136 = .ok (.iconst 0, 1) := by
  show decode prog_11_method_56_code 136 = _
  decide +kernel
theorem d158_137 (L : Nat) (xs : Nat → Int32) : decode (ax_code (mgT L xs) 158) 137 = .ok (.ireturn, 1) := by
  show decode prog_11_method_56_code 137 = _
  decide +kernel
theorem d158_138 (L : Nat) (xs : Nat → Int32) : decode (ax_code (mgT L xs) 158) 138 = .ok (.aload_n 0, 1) := by
  show decode prog_11_method_56_code 138 = _
  decide +kernel
theorem d158_139 (L : Nat) (xs : Nat → Int32) : decode (ax_code (mgT L xs) 158) 139 = .ok (.iload_n 1, 1) := by
  show decode prog_11_method_56_code 139 = _
  decide +kernel
theorem d158_140 (L : Nat) (xs : Nat → Int32) : decode (ax_code (mgT L xs) 158) 140 = .ok (.iload_n 2, 1) := by
  show decode prog_11_method_56_code 140 = _
  decide +kernel
theorem d158_141 (L : Nat) (xs : Nat → Int32) : decode (ax_code (mgT L xs) 158) 141 = .ok (.iconst 1, 1) := by
  show decode prog_11_method_56_code 141 = _
  decide +kernel
theorem d158_142 (L : Nat) (xs : Nat → Int32) : decode (ax_code (mgT L xs) 158) 142 = .ok (.iadd, 1) := by
  show decode prog_11_method_56_code 142 = _
  decide +kernel
theorem d158_143 (L : Nat) (xs : Nat → Int32) : decode (ax_code (mgT L xs) 158) 143 = .ok (.invokevirtual 301, 3) := by
  show decode prog_11_method_56_code 143 = _
  decide +kernel
theorem d158_146 (L : Nat) (xs : Nat → Int32) : decode (ax_code (mgT L xs) 158) 146 = .ok (.istore_n 2, 1) := by
  show decode prog_11_method_56_code 146 = _
  decide +kernel
theorem d158_147 (L : Nat) (xs : Nat → Int32) : decode (ax_code (mgT L xs) 158) 147 = .ok (.iload_n 2, 1) := by
  show decode prog_11_method_56_code 147 = _
  decide +kernel
theorem d158_148 (L : Nat) (xs : Nat → Int32) : decode (ax_code (mgT L xs) 158) 148 = .ok (.aload_n 0, 1) := by
  show decode prog_11_method_56_code 148 = _
  decide +kernel
theorem d158_149 (L : Nat) (xs : Nat → Int32) : decode (ax_code (mgT L xs) 158) 149 = .ok (.getfield 19, 3) := by
  show decode prog_11_method_56_code 149 = _
  decide +kernel
theorem d158_152 (L : Nat) (xs : Nat → Int32) : decode (ax_code (mgT L xs) 158) 152 = .ok (.iload_n 1, 1) := by
  show decode prog_11_method_56_code 152 = _
  decide +kernel
theorem d158_153 (L : Nat) (xs : Nat → Int32) : decode (ax_code (mgT L xs) 158) 153 = .ok (.iaload, 1) := by
  show decode prog_11_method_56_code 153 = _
  decide +kernel
theorem d158_154 (L : Nat) (xs : Nat → Int32) : decode (ax_code (mgT L xs) 158) 154 = .ok (.if_icmp .ge (-43), 3) := by
  show decode prog_11_method_56_code 154 = _
  decide +kernel
theorem d158_157 (L : Nat) (xs : Nat → Int32) : decode (ax_code (mgT L xs) 158) 157 = .ok (.aload_n 0, 1) := by
  show decode prog_11_method_56_code 157 = _
  decide +kernel
theorem d158_158 (L : Nat) (xs : Nat → Int32) : decode (ax_code (mgT L xs) 158) 158 = .ok (.iload_n 1, 1) := by
  show decode prog_11_method_56_code 158 = _
  decide +kernel
theorem d158_159 (L : Nat) (xs : Nat → Int32) : decode (ax_code (mgT L xs) 158) 159 = .ok (.iload_n 2, 1) := by
  show decode prog_11_method_56_code 159 = _
  decide +kernel
theorem d158_160 (L : Nat) (xs : Nat → Int32) : decode (ax_code (mgT L xs) 158) 160 = .ok (.invokevirtual 166, 3) := by
  show decode prog_11_method_56_code 160 = _
  decide +kernel
theorem d158_163 (L : Nat) (xs : Nat → Int32) : decode (ax_code (mgT L xs) 158) 163 = .ok (.bipush 59, 2) := by
  show decode prog_11_method_56_code 163 = _
  decide +kernel
theorem d158_165 (L : Nat) (xs : Nat → Int32) : decode (ax_code (mgT L xs) 158) 165 = .ok (.if_icmp .eq (-54), 3) := by
  show decode prog_11_method_56_code 165 = _
  decide +kernel
theorem d158_168 (L : Nat) (xs : Nat → Int32) : decode (ax_code (mgT L xs) 158) 168 = .ok (.iload_n 2, 1) := by
  show decode prog_11_method_56_code 168 = _
  decide +kernel
theorem d158_169 (L : Nat) (xs : Nat → Int32) : decode (ax_code (mgT L xs) 158) 169 = .ok (.istore 4, 2) := by
  show decode prog_11_method_56_code 169 = _
  decide +kernel
theorem d158_171 (L : Nat) (xs : Nat → Int32) : decode (ax_code (mgT L xs) 158) 171 = .ok (.iload 4, 2) := by
  show decode prog_11_method_56_code 171 = _
  decide +kernel
theorem d158_173 (L : Nat) (xs : Nat → Int32) : decode (ax_code (mgT L xs) 158) 173 = .ok (.aload_n 0, 1) := by
  show decode prog_11_method_56_code 173 = _
  decide +kernel
theorem d158_174 (L : Nat) (xs : Nat → Int32) : decode (ax_code (mgT L xs) 158) 174 = .ok (.getfield 19, 3) := by
  show decode prog_11_method_56_code 174 = _
  decide +kernel
theorem d158_177 (L : Nat) (xs : Nat → Int32) : decode (ax_code (mgT L xs) 158) 177 = .ok (.iload_n 1, 1) := by
  show decode prog_11_method_56_code 177 = _
  decide +kernel
theorem d158_178 (L : Nat) (xs : Nat → Int32) : decode (ax_code (mgT L xs) 158) 178 = .ok (.iaload, 1) := by
  show decode prog_11_method_56_code 178 = _
  decide +kernel
theorem d158_179 (L : Nat) (xs : Nat → Int32) : decode (ax_code (mgT L xs) 158) 179 = .ok (.if_icmp .ge 22, 3) := by
  show decode prog_11_method_56_code 179 = _
  decide +kernel
theorem d158_182 (L : Nat) (xs : Nat → Int32) : decode (ax_code (mgT L xs) 158) 182 = .ok (.aload_n 0, 1) := by
  show decode prog_11_method_56_code 182 = _
  decide +kernel
theorem d158_183 (L : Nat) (xs : Nat → Int32) : decode (ax_code (mgT L xs) 158) 183 = .ok (.iload_n 1, 1) := by
  show decode prog_11_method_56_code 183 = _
  decide +kernel
theorem d158_184 (L : Nat) (xs : Nat → Int32) : decode (ax_code (mgT L xs) 158) 184 = .ok (.iload 4, 2) := by
  show decode prog_11_method_56_code 184 = _
  decide +kernel
theorem d158_186 (L : Nat) (xs : Nat → Int32) : decode (ax_code (mgT L xs) 158) 186 = .ok (.invokevirtual 166, 3) := by
  show decode prog_11_method_56_code 186 = _
  decide +kernel
theorem d158_189 (L : Nat) (xs : Nat → Int32) : decode (ax_code (mgT L xs) 158) 189 = .ok (.invokestatic 89, 3) := by
  show decode prog_11_method_56_code 189 = _
  decide +kernel
theorem d158_192 (L : Nat) (xs : Nat → Int32) : decode (ax_code (mgT L xs) 158) 192 = .ok (.ifCond .eq 9, 3) := by
  show decode prog_11_method_56_code 192 = _
  decide +kernel
theorem d158_195 (L : Nat) (xs : Nat → Int32) : decode (ax_code (mgT L xs) 158) 195 = .ok (.iinc 4 1, 3) := by
  show decode prog_11_method_56_code 195 = _
  decide +kernel
theorem d158_198 (L : Nat) (xs : Nat → Int32) : decode (ax_code (mgT L xs) 158) 198 = .ok (.goto (-27), 3) := by
  show decode prog_11_method_56_code 198 = _
  decide +kernel
theorem d158_201 (L : Nat) (xs : Nat → Int32) : decode (ax_code (mgT L xs) 158) 201 = .ok (.iload 4, 2) := by
  show decode prog_11_method_56_code 201 = _
  decide +kernel
theorem d158_203 (L : Nat) (xs : Nat → Int32) : decode (ax_code (mgT L xs) 158) 203 = .ok (.iconst 1, 1) := by
  show decode prog_11_method_56_code 203 = _
  decide +kernel
theorem d158_204 (L : Nat) (xs : Nat → Int32) : decode (ax_code (mgT L xs) 158) 204 = .ok (.iadd, 1) := by
  show decode prog_11_method_56_code 204 = _
  decide +kernel
theorem d158_205 (L : Nat) (xs : Nat → Int32) : decode (ax_code (mgT L xs) 158) 205 = .ok (.istore 5, 2) := by
  show decode prog_11_method_56_code 205 = _
  decide +kernel
theorem d158_207 (L : Nat) (xs : Nat → Int32) : decode (ax_code (mgT L xs) 158) 207 = .ok (.iload 5, 2) := by
  show decode prog_11_method_56_code 207 = _
  decide +kernel
theorem d158_209 (L : Nat) (xs : Nat → Int32) : decode (ax_code (mgT L xs) 158) 209 = .ok (.aload_n 0, 1) := by
  show decode prog_11_method_56_code 209 = _
  decide +kernel
theorem d158_210 (L : Nat) (xs : Nat → Int32) : decode (ax_code (mgT L xs) 158) 210 = .ok (.getfield 19, 3) := by
  show decode prog_11_method_56_code 210 = _
  decide +kernel
theorem d158_213 (L : Nat) (xs : Nat → Int32) : decode (ax_code (mgT L xs) 158) 213 = .ok (.iload_n 1, 1) := by
  show decode prog_11_method_56_code 213 = _
  decide +kernel
theorem d158_214 (L : Nat) (xs : Nat → Int32) : decode (ax_code (mgT L xs) 158) 214 = .ok (.iaload, 1) := by
  show decode prog_11_method_56_code 214 = _
  decide +kernel
theorem d158_215 (L : Nat) (xs : Nat → Int32) : decode (ax_code (mgT L xs) 158) 215 = .ok (.if_icmp .ge 33, 3) := by
  show decode prog_11_method_56_code 215 = _
  decide +kernel
theorem d158_218 (L : Nat) (xs : Nat → Int32) : decode (ax_code (mgT L xs) 158) 218 = .ok (.aload_n 0, 1) := by
  show decode prog_11_method_56_code 218 = _
  decide +kernel
theorem d158_219 (L : Nat) (xs : Nat → Int32) : decode (ax_code (mgT L xs) 158) 219 = .ok (.iload_n 1, 1) := by
  show decode prog_11_method_56_code 219 = _
  decide +kernel
theorem d158_220 (L : Nat) (xs : Nat → Int32) : decode (ax_code (mgT L xs) 158) 220 = .ok (.iload 5, 2) := by
  show decode prog_11_method_56_code 220 = _
  decide +kernel
theorem d158_222 (L : Nat) (xs : Nat → Int32) : decode (ax_code (mgT L xs) 158) 222 = .ok (.invokevirtual 166, 3) := by
  show decode prog_11_method_56_code 222 = _
  decide +kernel
theorem d158_225 (L : Nat) (xs : Nat → Int32) : decode (ax_code (mgT L xs) 158) 225 = .ok (.bipush 32, 2) := by
  show decode prog_11_method_56_code 225 = _
  decide +kernel
theorem d158_227 (L : Nat) (xs : Nat → Int32) : decode (ax_code (mgT L xs) 158) 227 = .ok (.if_icmp .eq 21, 3) := by
  show decode prog_11_method_56_code 227 = _
  decide +kernel
theorem d158_230 (L : Nat) (xs : Nat → Int32) : decode (ax_code (mgT L xs) 158) 230 = .ok (.aload_n 0, 1) := by
  show decode prog_11_method_56_code 230 = _
  decide +kernel
theorem d158_231 (L : Nat) (xs : Nat → Int32) : decode (ax_code (mgT L xs) 158) 231 = .ok (.iload_n 1, 1) := by
  show decode prog_11_method_56_code 231 = _
  decide +kernel
theorem d158_232 (L : Nat) (xs : Nat → Int32) : decode (ax_code (mgT L xs) 158) 232 = .ok (.iload 5, 2) := by
  show decode prog_11_method_56_code 232 = _
  decide +kernel
theorem d158_234 (L : Nat) (xs : Nat → Int32) : decode (ax_code (mgT L xs) 158) 234 = .ok (.invokevirtual 166, 3) := by
  show decode prog_11_method_56_code 234 = _
  decide +kernel
theorem d158_237 (L : Nat) (xs : Nat → Int32) : decode (ax_code (mgT L xs) 158) 237 = .ok (.bipush 59, 2) := by
  show decode prog_11_method_56_code 237 = _
  decide +kernel
theorem d158_239 (L : Nat) (xs : Nat → Int32) : decode (ax_code (mgT L xs) 158) 239 = .ok (.if_icmp .eq 9, 3) := by
  show decode prog_11_method_56_code 239 = _
  decide +kernel
theorem d158_242 (L : Nat) (xs : Nat → Int32) : decode (ax_code (mgT L xs) 158) 242 = .ok (.iinc 5 1, 3) := by
  show decode prog_11_method_56_code 242 = _
  decide +kernel
theorem d158_245 (L : Nat) (xs : Nat → Int32) : decode (ax_code (mgT L xs) 158) 245 = .ok (.goto (-38), 3) := by
  show decode prog_11_method_56_code 245 = _
  decide +kernel
theorem d158_248 (L : Nat) (xs : Nat → Int32) : decode (ax_code (mgT L xs) 158) 248 = .ok (.iload 4, 2) := by
  show decode prog_11_method_56_code 248 = _
  decide +kernel
theorem d158_250 (L : Nat) (xs : Nat → Int32) : decode (ax_code (mgT L xs) 158) 250 = .ok (.iload_n 2, 1) := by
  show decode prog_11_method_56_code 250 = _
  decide +kernel
theorem d158_251 (L : Nat) (xs : Nat → Int32) : decode (ax_code (mgT L xs) 158) 251 = .ok (.if_icmp .eq 48, 3) := by
  show decode prog_11_method_56_code 251 = _
  decide +kernel
theorem d158_254 (L : Nat) (xs : Nat → Int32) : decode (ax_code (mgT L xs) 158) 254 = .ok (.iload 4, 2) := by
  show decode prog_11_method_56_code 254 = _
  decide +kernel
theorem d158_256 (L : Nat) (xs : Nat → Int32) : decode (ax_code (mgT L xs) 158) 256 = .ok (.aload_n 0, 1) := by
  show decode prog_11_method_56_code 256 = _
  decide +kernel
theorem d158_257 (L : Nat) (xs : Nat → Int32) : decode (ax_code (mgT L xs) 158) 257 = .ok (.getfield 19, 3) := by
  show decode prog_11_method_56_code 257 = _
  decide +kernel
theorem d158_260 (L : Nat) (xs : Nat → Int32) : decode (ax_code (mgT L xs) 158) 260 = .ok (.iload_n 1, 1) := by
  show decode prog_11_method_56_code 260 = _
  decide +kernel
theorem d158_261 (L : Nat) (xs : Nat → Int32) : decode (ax_code (mgT L xs) 158) 261 = .ok (.iaload, 1) := by
  show decode prog_11_method_56_code 261 = _
  decide +kernel
theorem d158_262 (L : Nat) (xs : Nat → Int32) : decode (ax_code (mgT L xs) 158) 262 = .ok (.if_icmp .ge 37, 3) := by
  show decode prog_11_method_56_code 262 = _
  decide +kernel
theorem d158_265 (L : Nat) (xs : Nat → Int32) : decode (ax_code (mgT L xs) 158) 265 = .ok (.aload_n 0, 1) := by
  show decode prog_11_method_56_code 265 = _
  decide +kernel
theorem d158_266 (L : Nat) (xs : Nat → Int32) : decode (ax_code (mgT L xs) 158) 266 = .ok (.iload_n 1, 1) := by
  show decode prog_11_method_56_code 266 = _
  decide +kernel
theorem d158_267 (L : Nat) (xs : Nat → Int32) : decode (ax_code (mgT L xs) 158) 267 = .ok (.iload 4, 2) := by
  show decode prog_11_method_56_code 267 = _
  decide +kernel
theorem d158_269 (L : Nat) (xs : Nat → Int32) : decode (ax_code (mgT L xs) 158) 269 = .ok (.invokevirtual 166, 3) := by
  show decode prog_11_method_56_code 269 = _
  decide +kernel
theorem d158_272 (L : Nat) (xs : Nat → Int32) : decode (ax_code (mgT L xs) 158) 272 = .ok (.bipush 61, 2) := by
  show decode prog_11_method_56_code 272 = _
  decide +kernel
theorem d158_274 (L : Nat) (xs : Nat → Int32) : decode (ax_code (mgT L xs) 158) 274 = .ok (.if_icmp .ne 25, 3) := by
  show decode prog_11_method_56_code 274 = _
  decide +kernel
theorem d158_277 (L : Nat) (xs : Nat → Int32) : decode (ax_code (mgT L xs) 158) 277 = .ok (.iload 5, 2) := by
  show decode prog_11_method_56_code 277 = _
  decide +kernel
theorem d158_279 (L : Nat) (xs : Nat → Int32) : decode (ax_code (mgT L xs) 158) 279 = .ok (.iload 4, 2) := by
  show decode prog_11_method_56_code 279 = _
  decide +kernel
theorem d158_281 (L : Nat) (xs : Nat → Int32) : decode (ax_code (mgT L xs) 158) 281 = .ok (.iconst 1, 1) := by
  show decode prog_11_method_56_code 281 = _
  decide +kernel
theorem d158_282 (L : Nat) (xs : Nat → Int32) : decode (ax_code (mgT L xs) 158) 282 = .ok (.iadd, 1) := by
  show decode prog_11_method_56_code 282 = _
  decide +kernel
theorem d158_283 (L : Nat) (xs : Nat → Int32) : decode (ax_code (mgT L xs) 158) 283 = .ok (.if_icmp .eq 16, 3) := by
  show decode prog_11_method_56_code 283 = _
  decide +kernel
theorem d158_286 (L : Nat) (xs : Nat → Int32) : decode (ax_code (mgT L xs) 158) 286 = .ok (.aload_n 0, 1) := by
  show decode prog_11_method_56_code 286 = _
  decide +kernel
theorem d158_287 (L : Nat) (xs : Nat → Int32) : decode (ax_code (mgT L xs) 158) 287 = .ok (.iload_n 1, 1) := by
  show decode prog_11_method_56_code 287 = _
  decide +kernel
theorem d158_288 (L : Nat) (xs : Nat → Int32) : decode (ax_code (mgT L xs) 158) 288 = .ok (.iload_n 2, 1) := by
  show decode prog_11_method_56_code 288 = _
  decide +kernel
theorem d158_289 (L : Nat) (xs : Nat → Int32) : decode (ax_code (mgT L xs) 158) 289 = .ok (.iload 4, 2) := by
  show decode prog_11_method_56_code 289 = _
  decide +kernel
theorem d158_291 (L : Nat) (xs : Nat → Int32) : decode (ax_code (mgT L xs) 158) 291 = .ok (.iload 5, 2) := by
  show decode prog_11_method_56_code 291 = _
  decide +kernel
theorem d158_293 (L : Nat) (xs : Nat → Int32) : decode (ax_code (mgT L xs) 158) 293 = .ok (.invokevirtual 304, 3) := by
  show decode prog_11_method_56_code 293 = _
  decide +kernel
theorem d158_296 (L : Nat) (xs : Nat → Int32) : decode (ax_code (mgT L xs) 158) 296 = .ok (.ifCond .ne 5, 3) := by
  show decode prog_11_method_56_code 296 = _
  decide +kernel
theorem d158_299 (L : Nat) (xs : Nat → Int32) : decode (ax_code (mgT L xs) 158) 299 = .ok (.iconst 0, 1) := by
  show decode prog_11_method_56_code 299 = _
  decide +kernel
theorem d158_300 (L : Nat) (xs : Nat → Int32) : decode (ax_code (mgT L xs) 158) 300 = .ok (.ireturn, 1) := by
  show decode prog_11_method_56_code 300 = _
  decide +kernel
theorem d158_301 (L : Nat) (xs : Nat → Int32) : decode (ax_code (mgT L xs) 158) 301 = .ok (.aload_n 0, 1) := by
  show decode prog_11_method_56_code 301 = _
  decide +kernel
theorem d158_302 (L : Nat) (xs : Nat → Int32) : decode (ax_code (mgT L xs) 158) 302 = .ok (.iload_n 1, 1) := by
  show decode prog_11_method_56_code 302 = _
  decide +kernel
theorem d158_303 (L : Nat) (xs : Nat → Int32) : decode (ax_code (mgT L xs) 158) 303 = .ok (.iload 5, 2) := by
  show decode prog_11_method_56_code 303 = _
  decide +kernel
theorem d158_305 (L : Nat) (xs : Nat → Int32) : decode (ax_code (mgT L xs) 158) 305 = .ok (.invokevirtual 301, 3) := by
  show decode prog_11_method_56_code 305 = _
  decide +kernel
theorem d158_308 (L : Nat) (xs : Nat → Int32) : decode (ax_code (mgT L xs) 158) 308 = .ok (.istore_n 2, 1) := by
  show decode prog_11_method_56_code 308 = _
  decide +kernel
theorem d158_309 (L : Nat) (xs : Nat → Int32) : decode (ax_code (mgT L xs) 158) 309 = .ok (.goto (-198), 3) := by
  show decode prog_11_method_56_code 309 = _
  decide +kernel
theorem d158_312 (L : Nat) (xs : Nat → Int32) : decode (ax_code (mgT L xs) 158) 312 = .ok (.iload_n 3, 1) := by
  show decode prog_11_method_56_code 312 = _
  decide +kernel
theorem d158_313 (L : Nat) (xs : Nat → Int32) : decode (ax_code (mgT L xs) 158) 313 = .ok (.ifCond .eq 14, 3) := by
  show decode prog_11_method_56_code 313 = _
  decide +kernel
theorem d158_316 (L : Nat) (xs : Nat → Int32) : decode (ax_code (mgT L xs) 158) 316 = .ok (.aload_n 0, 1) := by
  show decode prog_11_method_56_code 316 = _
  decide +kernel
theorem d158_317 (L : Nat) (xs : Nat → Int32) : decode (ax_code (mgT L xs) 158) 317 = .ok (.getfield 286, 3) := by
  show decode prog_11_method_56_code 317 = _
  decide +kernel
theorem d158_320 (L : Nat) (xs : Nat → Int32) : decode (ax_code (mgT L xs) 158) 320 = .ok (.ifCond .le 7, 3) := by
  show decode prog_11_method_56_code 320 = _
  decide +kernel
theorem d158_323 (L : Nat) (xs : Nat → Int32) : decode (ax_code (mgT L xs) 158) 323 = .ok (.iconst 1, 1) := by
  show decode prog_11_method_56_code 323 = _
  decide +kernel
theorem d158_324 (L : Nat) (xs : Nat → Int32) : decode (ax_code (mgT L xs) 158) 324 = .ok (.goto 4, 3) := by
  show decode prog_11_method_56_code 324 = _
  decide +kernel
theorem d158_327 (L : Nat) (xs : Nat → Int32) : decode (ax_code (mgT L xs) 158) 327 = .ok (.iconst 0, 1) := by
  show decode prog_11_method_56_code 327 = _
  decide +kernel
theorem d158_328 (L : Nat) (xs : Nat → Int32) : decode (ax_code (mgT L xs) 158) 328 = .ok (.ireturn, 1) := by
  show decode prog_11_method_56_code 328 = _
  decide +kernel
section KQ
variable {L : Nat} {xs : Nat → Int32} {d r c : Nat} {D : List Nat} {P : plT} {s : mg_s} {Q : Option Value → mg_s → Prop}
theorem md_pl_e {a : Nat} {c5 : Option Value} (hR : isRec s r c D) : ∀ (m i : Nat), i + m = D.length → wp L xs (d + 5) 158 201 [some (.ref 141), some (.int (nI r)), some (.int (nI (c + a))), some (.int 1), some (.int (nI (c + f_let (gl D) i m))), c5] [] s Q → wp L xs (d + 5) 158 171 [some (.ref 141), some (.int (nI r)), some (.int (nI (c + a))), some (.int 1), some (.int (nI (c + i))), c5] [] s Q := by
  have hr16 := hR.1
  have hc1 := hR.2.1
  have hcl := hR.2.2.1
  intro m
  induction m with
  | zero =>
    intro i hi kk
    refine wg_iload (d158_171 L xs) rfl ?_
    refine wg_aload_n (d158_173 L xs) rfl ?_
    refine wg_get (d158_174 L xs) (kd := 1) (cj := 9) (k0 := 6) rfl (Or.inl rfl) (by decide) rfl rfl ?_
    refine wg_iload_n (d158_177 L xs) rfl ?_
    refine wg_iald (d158_178 L xs) (n := 16) (by decide) rfl (vp_in_nI (n := r) (by omega) (by omega)) ?_
    refine wg_top (y := (nI (c + D.length))) (by rw [nI_nat (n := r) (by omega)]; exact hR.2.2.2.2.2.1) ?_
    refine wn_icmp_ge (d158_179 L xs) (x := c + i) (y := c + D.length) (by omega) (by omega) (t := 201) (by decide) (fun h1 => ?_) (fun h1 => by omega)
    exact kk
  | succ m ih =>
    intro i hi kk
    have hg := ga_lt hR i
    have hbl := bI_lt (c_let (ga D i))
    have hga := ga_in (D := D) (i := i) (by omega)
    rw [f_let, ← hga] at kk
    refine wg_iload (d158_171 L xs) rfl ?_
    refine wg_aload_n (d158_173 L xs) rfl ?_
    refine wg_get (d158_174 L xs) (kd := 1) (cj := 9) (k0 := 6) rfl (Or.inl rfl) (by decide) rfl rfl ?_
    refine wg_iload_n (d158_177 L xs) rfl ?_
    refine wg_iald (d158_178 L xs) (n := 16) (by decide) rfl (vp_in_nI (n := r) (by omega) (by omega)) ?_
    refine wg_top (y := (nI (c + D.length))) (by rw [nI_nat (n := r) (by omega)]; exact hR.2.2.2.2.2.1) ?_
    refine wn_icmp_ge (d158_179 L xs) (x := c + i) (y := c + D.length) (by omega) (by omega) (t := 201) (by decide) (fun h1 => by omega) (fun h1 => ?_)
    refine wg_aload_n (d158_182 L xs) rfl ?_
    refine wg_iload_n (d158_183 L xs) rfl ?_
    refine wg_iload (d158_184 L xs) rfl ?_
    refine wg_invv (d158_186 L xs) (kd := 7) (mj := 125) (n := 2) rfl (Or.inl rfl) (ys := [.int (nI (c + i)), .int (nI r)]) (r := []) rfl rfl (by decide) rfl rfl (Nat.le_of_ble_eq_true rfl) (md_at (i := i) hR (by omega) (by omega)) ?_
    rintro _ _ ⟨rfl, rfl⟩
    refine wg_invs (d158_189 L xs) (kd := 6) (mj := 111) (n := 1) rfl (Or.inl rfl) (ys := [.int (nI (ga D i))]) (r := []) rfl rfl (Nat.le_of_ble_eq_true rfl) (md_let (by omega)) ?_
    rintro _ _ ⟨rfl, rfl⟩
    refine wn_if_eq (d158_192 L xs) (x := bI (c_let (ga D i))) (by omega) (t := 201) (by decide) (fun h2 => ?_) (fun h2 => ?_)
    · rw [if_neg (w_no (b := c_let (ga D i)) (by omega))] at kk
      exact kk
    · refine wg_iinc (d158_195 L xs) (y := (nI (c + i + 1))) (ls' := [some (.ref 141), some (.int (nI r)), some (.int (nI (c + a))), some (.int 1), some (.int (nI (c + i + 1))), c5]) rfl (nI_add (c + i) 1) rfl ?_
      refine wg_goto (d158_198 L xs) (t := 171) (by decide) ?_
      rw [if_pos (bI_t (b := c_let (ga D i)) (by omega))] at kk
      exact ih (i + 1) (by omega) kk
theorem md_pl_n {a e : Nat} (hR : isRec s r c D) : ∀ (m i : Nat), m = D.length - i → i ≤ D.length + 1 → wp L xs (d + 5) 158 248 [some (.ref 141), some (.int (nI r)), some (.int (nI (c + a))), some (.int 1), some (.int (nI (c + e))), some (.int (nI (c + f_end (gl D) i m)))] [] s Q → wp L xs (d + 5) 158 207 [some (.ref 141), some (.int (nI r)), some (.int (nI (c + a))), some (.int 1), some (.int (nI (c + e))), some (.int (nI (c + i)))] [] s Q := by
  have hr16 := hR.1
  have hc1 := hR.2.1
  have hcl := hR.2.2.1
  intro m
  induction m with
  | zero =>
    intro i hi hi2 kk
    refine wg_iload (d158_207 L xs) rfl ?_
    refine wg_aload_n (d158_209 L xs) rfl ?_
    refine wg_get (d158_210 L xs) (kd := 1) (cj := 9) (k0 := 6) rfl (Or.inl rfl) (by decide) rfl rfl ?_
    refine wg_iload_n (d158_213 L xs) rfl ?_
    refine wg_iald (d158_214 L xs) (n := 16) (by decide) rfl (vp_in_nI (n := r) (by omega) (by omega)) ?_
    refine wg_top (y := (nI (c + D.length))) (by rw [nI_nat (n := r) (by omega)]; exact hR.2.2.2.2.2.1) ?_
    refine wn_icmp_ge (d158_215 L xs) (x := c + i) (y := c + D.length) (by omega) (by omega) (t := 248) (by decide) (fun h1 => ?_) (fun h1 => by omega)
    exact kk
  | succ m ih =>
    intro i hi hi2 kk
    have hg := ga_lt hR i
    have hga := ga_in (D := D) (i := i) (by omega)
    rw [f_end, ← hga] at kk
    refine wg_iload (d158_207 L xs) rfl ?_
    refine wg_aload_n (d158_209 L xs) rfl ?_
    refine wg_get (d158_210 L xs) (kd := 1) (cj := 9) (k0 := 6) rfl (Or.inl rfl) (by decide) rfl rfl ?_
    refine wg_iload_n (d158_213 L xs) rfl ?_
    refine wg_iald (d158_214 L xs) (n := 16) (by decide) rfl (vp_in_nI (n := r) (by omega) (by omega)) ?_
    refine wg_top (y := (nI (c + D.length))) (by rw [nI_nat (n := r) (by omega)]; exact hR.2.2.2.2.2.1) ?_
    refine wn_icmp_ge (d158_215 L xs) (x := c + i) (y := c + D.length) (by omega) (by omega) (t := 248) (by decide) (fun h1 => by omega) (fun h1 => ?_)
    refine wg_aload_n (d158_218 L xs) rfl ?_
    refine wg_iload_n (d158_219 L xs) rfl ?_
    refine wg_iload (d158_220 L xs) rfl ?_
    refine wg_invv (d158_222 L xs) (kd := 7) (mj := 125) (n := 2) rfl (Or.inl rfl) (ys := [.int (nI (c + i)), .int (nI r)]) (r := []) rfl rfl (by decide) rfl rfl (Nat.le_of_ble_eq_true rfl) (md_at (i := i) hR (by omega) (by omega)) ?_
    rintro _ _ ⟨rfl, rfl⟩
    refine wg_bipush (d158_225 L xs) (x := 32) (by decide) ?_
    refine wn_icmp_eq (d158_227 L xs) (x := ga D i) (y := 32) (by omega) (by omega) (t := 248) (by decide) (fun h2 => ?_) (fun h2 => ?_)
    · rw [if_pos (by omega)] at kk
      exact kk
    · refine wg_aload_n (d158_230 L xs) rfl ?_
      refine wg_iload_n (d158_231 L xs) rfl ?_
      refine wg_iload (d158_232 L xs) rfl ?_
      refine wg_invv (d158_234 L xs) (kd := 7) (mj := 125) (n := 2) rfl (Or.inl rfl) (ys := [.int (nI (c + i)), .int (nI r)]) (r := []) rfl rfl (by decide) rfl rfl (Nat.le_of_ble_eq_true rfl) (md_at (i := i) hR (by omega) (by omega)) ?_
      rintro _ _ ⟨rfl, rfl⟩
      refine wg_bipush (d158_237 L xs) (x := 59) (by decide) ?_
      refine wn_icmp_eq (d158_239 L xs) (x := ga D i) (y := 59) (by omega) (by omega) (t := 248) (by decide) (fun h3 => ?_) (fun h3 => ?_)
      · rw [if_pos (by omega)] at kk
        exact kk
      · refine wg_iinc (d158_242 L xs) (y := (nI (c + i + 1))) (ls' := [some (.ref 141), some (.int (nI r)), some (.int (nI (c + a))), some (.int 1), some (.int (nI (c + e))), some (.int (nI (c + i + 1)))]) rfl (nI_add (c + i) 1) rfl ?_
        refine wg_goto (d158_245 L xs) (t := 207) (by decide) ?_
        rw [if_neg (by omega)] at kk
        exact ih (i + 1) (by omega) (by omega) kk
theorem md_pl_x {k : Nat} {c4 c5 : Option Value} (hp : isPM s P) (hok : okP P) : wp L xs (d + 5) 158 312 [some (.ref 141), some (.int (nI r)), some (.int (nI k)), some (.int 1), c4, c5] [] s (fun rv s' => rv = some (.int (nI (bI ((decide (¬ P.1 = -1), P)).1))) ∧ mfr s s' pF [] ∧ (((decide (¬ P.1 = -1), P)).1 = true → isPM s' ((decide (¬ P.1 = -1), P)).2 ∧ okP ((decide (¬ P.1 = -1), P)).2)) := by
  rcases hok.1 with h | h | h | h
  · have h0 : s.1 141 43 = 0 := by rw [hp.1, h]; rfl
    refine wg_iload_n (d158_312 L xs) rfl ?_
    refine wg_if_eq (d158_313 L xs) (t := 327) (by decide) (fun hp => absurd hp (by decide)) (fun _ => ?_)
    refine wg_aload_n (d158_316 L xs) rfl ?_
    refine wg_get (d158_317 L xs) (kd := 1) (cj := 9) (k0 := 43) rfl (Or.inl rfl) (by decide) rfl rfl ?_
    refine wg_top (y := 0) h0 ?_
    refine wg_if_le (d158_320 L xs) (t := 327) (by decide) (fun _ => ?_) (fun hn => absurd (by decide) hn)
    refine wg_iconst (d158_327 L xs) (x := 0) (by decide) ?_
    exact wg_iret (d158_328 L xs) rfl rfl ⟨by rw [decide_eq_false (show ¬ ¬ P.1 = -1 from fun z => z h)]; rfl, mfr.rf s _ _, fun _ => ⟨hp, hok⟩⟩
  · have h0 : s.1 141 43 = 1 := by rw [hp.1, h]; decide
    refine wg_iload_n (d158_312 L xs) rfl ?_
    refine wg_if_eq (d158_313 L xs) (t := 327) (by decide) (fun hp => absurd hp (by decide)) (fun _ => ?_)
    refine wg_aload_n (d158_316 L xs) rfl ?_
    refine wg_get (d158_317 L xs) (kd := 1) (cj := 9) (k0 := 43) rfl (Or.inl rfl) (by decide) rfl rfl ?_
    refine wg_top (y := 1) h0 ?_
    refine wg_if_le (d158_320 L xs) (t := 327) (by decide) (fun hp => absurd hp (by decide)) (fun _ => ?_)
    refine wg_iconst (d158_323 L xs) (x := 1) (by decide) ?_
    refine wg_goto (d158_324 L xs) (t := 328) (by decide) ?_
    exact wg_iret (d158_328 L xs) rfl rfl ⟨by rw [decide_eq_true (show ¬ P.1 = -1 by rw [h]; decide)]; rfl, mfr.rf s _ _, fun _ => ⟨hp, hok⟩⟩
  · have h0 : s.1 141 43 = 2 := by rw [hp.1, h]; decide
    refine wg_iload_n (d158_312 L xs) rfl ?_
    refine wg_if_eq (d158_313 L xs) (t := 327) (by decide) (fun hp => absurd hp (by decide)) (fun _ => ?_)
    refine wg_aload_n (d158_316 L xs) rfl ?_
    refine wg_get (d158_317 L xs) (kd := 1) (cj := 9) (k0 := 43) rfl (Or.inl rfl) (by decide) rfl rfl ?_
    refine wg_top (y := 2) h0 ?_
    refine wg_if_le (d158_320 L xs) (t := 327) (by decide) (fun hp => absurd hp (by decide)) (fun _ => ?_)
    refine wg_iconst (d158_323 L xs) (x := 1) (by decide) ?_
    refine wg_goto (d158_324 L xs) (t := 328) (by decide) ?_
    exact wg_iret (d158_328 L xs) rfl rfl ⟨by rw [decide_eq_true (show ¬ P.1 = -1 by rw [h]; decide)]; rfl, mfr.rf s _ _, fun _ => ⟨hp, hok⟩⟩
  · have h0 : s.1 141 43 = 3 := by rw [hp.1, h]; decide
    refine wg_iload_n (d158_312 L xs) rfl ?_
    refine wg_if_eq (d158_313 L xs) (t := 327) (by decide) (fun hp => absurd hp (by decide)) (fun _ => ?_)
    refine wg_aload_n (d158_316 L xs) rfl ?_
    refine wg_get (d158_317 L xs) (kd := 1) (cj := 9) (k0 := 43) rfl (Or.inl rfl) (by decide) rfl rfl ?_
    refine wg_top (y := 3) h0 ?_
    refine wg_if_le (d158_320 L xs) (t := 327) (by decide) (fun hp => absurd hp (by decide)) (fun _ => ?_)
    refine wg_iconst (d158_323 L xs) (x := 1) (by decide) ?_
    refine wg_goto (d158_324 L xs) (t := 328) (by decide) ?_
    exact wg_iret (d158_328 L xs) rfl rfl ⟨by rw [decide_eq_true (show ¬ P.1 = -1 by rw [h]; decide)]; rfl, mfr.rf s _ _, fun _ => ⟨hp, hok⟩⟩
theorem md_pl_l : ∀ (m k : Nat) (P : plT) (s : mg_s) (c4 c5 : Option Value), D.length ≤ k + m → k ≤ D.length → isRec s r c D → isPM s P → okP P → wp L xs (d + 5) 158 111 [some (.ref 141), some (.int (nI r)), some (.int (nI (c + k))), some (.int 1), c4, c5] [] s (fun rv s' => rv = some (.int (nI (bI (r_pl D m k P).1))) ∧ mfr s s' pF [] ∧ ((r_pl D m k P).1 = true → isPM s' (r_pl D m k P).2 ∧ okP (r_pl D m k P).2)) := by
  intro m
  induction m with
  | zero =>
    intro k P s c4 c5 hm hk hR hp hok
    have hr16 := hR.1
    have hc1 := hR.2.1
    have hcl := hR.2.2.1
    refine wg_iload_n (d158_111 L xs) rfl ?_
    refine wg_if_eq (d158_112 L xs) (t := 312) (by decide) (fun hp => absurd hp (by decide)) (fun _ => ?_)
    refine wg_iload_n (d158_115 L xs) rfl ?_
    refine wg_aload_n (d158_116 L xs) rfl ?_
    refine wg_get (d158_117 L xs) (kd := 1) (cj := 9) (k0 := 6) rfl (Or.inl rfl) (by decide) rfl rfl ?_
    refine wg_iload_n (d158_120 L xs) rfl ?_
    refine wg_iald (d158_121 L xs) (n := 16) (by decide) rfl (vp_in_nI (n := r) (by omega) (by omega)) ?_
    refine wg_top (y := (nI (c + D.length))) (by rw [nI_nat (n := r) (by omega)]; exact hR.2.2.2.2.2.1) ?_
    refine wn_icmp_ge (d158_122 L xs) (x := c + k) (y := c + D.length) (by omega) (by omega) (t := 312) (by decide) (fun h2 => ?_) (fun h2 => by omega)
    rw [r_pl]
    exact md_pl_x hp hok
  | succ m ih =>
    intro k P s c4 c5 hm hk hR hp hok
    have hr16 := hR.1
    have hc1 := hR.2.1
    have hcl := hR.2.2.1
    rw [r_pl]
    refine wg_iload_n (d158_111 L xs) rfl ?_
    refine wg_if_eq (d158_112 L xs) (t := 312) (by decide) (fun hp => absurd hp (by decide)) (fun _ => ?_)
    refine wg_iload_n (d158_115 L xs) rfl ?_
    refine wg_aload_n (d158_116 L xs) rfl ?_
    refine wg_get (d158_117 L xs) (kd := 1) (cj := 9) (k0 := 6) rfl (Or.inl rfl) (by decide) rfl rfl ?_
    refine wg_iload_n (d158_120 L xs) rfl ?_
    refine wg_iald (d158_121 L xs) (n := 16) (by decide) rfl (vp_in_nI (n := r) (by omega) (by omega)) ?_
    refine wg_top (y := (nI (c + D.length))) (by rw [nI_nat (n := r) (by omega)]; exact hR.2.2.2.2.2.1) ?_
    refine wn_icmp_ge (d158_122 L xs) (x := c + k) (y := c + D.length) (by omega) (by omega) (t := 312) (by decide) (fun h2 => ?_) (fun h2 => ?_)
    · rw [if_neg (show ¬ k < D.length by omega)]
      exact md_pl_x hp hok
    · rw [if_pos (show k < D.length by omega)]
      have hgk := ga_in (D := D) (i := k) (by omega)
      obtain ⟨a1, a2, a3, a4⟩ := skip_s (g := gl D) (c := 32) (D.length - (k + 1)) (k + 1)
      change k + 1 ≤ p_a D k at a1
      change p_a D k ≤ k + 1 + (D.length - (k + 1)) at a2
      clear a3 a4
      generalize hpa : p_a D k = a at a1 a2 ⊢
      refine wg_aload_n (d158_125 L xs) rfl ?_
      refine wg_iload_n (d158_126 L xs) rfl ?_
      refine wg_iload_n (d158_127 L xs) rfl ?_
      refine wg_invv (d158_128 L xs) (kd := 7) (mj := 125) (n := 2) rfl (Or.inl rfl) (ys := [.int (nI (c + k)), .int (nI r)]) (r := []) rfl rfl (by decide) rfl rfl (Nat.le_of_ble_eq_true rfl) (md_at (i := k) hR (by omega) (by omega)) ?_
      rintro _ _ ⟨rfl, rfl⟩
      have hat_k := ga_lt hR (k)
      refine wg_bipush (d158_131 L xs) (x := 59) (by decide) ?_
      refine wn_icmp_eq (d158_133 L xs) (x := ga D k) (y := 59) (by omega) (by omega) (t := 138) (by decide) (fun h41 => ?_) (fun h41 => ?_)
      · refine wg_aload_n (d158_138 L xs) rfl ?_
        refine wg_iload_n (d158_139 L xs) rfl ?_
        refine wg_iload_n (d158_140 L xs) rfl ?_
        refine wg_iconst (d158_141 L xs) (x := 1) (by decide) ?_
        refine wg_iadd (d158_142 L xs) ?_
        refine wg_top (y := (nI (c + k + 1))) (nI_add (c + k) 1) ?_
        refine wg_invv (d158_143 L xs) (kd := 7) (mj := 159) (n := 2) rfl (Or.inl rfl) (ys := [.int (nI (c + k + 1)), .int (nI r)]) (r := []) rfl rfl (by decide) rfl rfl (Nat.le_of_ble_eq_true rfl) (by have h := md_blanks (L := L) (xs := xs) (d := d + 3) (i := k + 1) hR (by omega); rw [show f_skip (gl D) 32 (k + 1) (D.length - (k + 1)) = a from hpa] at h; exact h) ?_
        rintro _ _ ⟨rfl, rfl⟩
        refine wg_istore_n (d158_146 L xs) (ls' := [some (.ref 141), some (.int (nI r)), some (.int (nI (c + a))), some (.int 1), c4, c5]) (Nat.le_of_ble_eq_true rfl) rfl ?_
        refine wg_iload_n (d158_147 L xs) rfl ?_
        refine wg_aload_n (d158_148 L xs) rfl ?_
        refine wg_get (d158_149 L xs) (kd := 1) (cj := 9) (k0 := 6) rfl (Or.inl rfl) (by decide) rfl rfl ?_
        refine wg_iload_n (d158_152 L xs) rfl ?_
        refine wg_iald (d158_153 L xs) (n := 16) (by decide) rfl (vp_in_nI (n := r) (by omega) (by omega)) ?_
        refine wg_top (y := (nI (c + D.length))) (by rw [nI_nat (n := r) (by omega)]; exact hR.2.2.2.2.2.1) ?_
        refine wn_icmp_ge (d158_154 L xs) (x := c + a) (y := c + D.length) (by omega) (by omega) (t := 111) (by decide) (fun h42 => ?_) (fun h42 => ?_)
        · rw [if_pos (by omega), if_neg (show ¬ (a < D.length ∧ ¬ gl D a = 59) from fun z => by have z1 := z.1; have z2 := z.2; rw [← ga_in z1] at z2; omega)]
          exact ih a P s _ _ (by omega) (by omega) hR hp hok
        · refine wg_aload_n (d158_157 L xs) rfl ?_
          refine wg_iload_n (d158_158 L xs) rfl ?_
          refine wg_iload_n (d158_159 L xs) rfl ?_
          refine wg_invv (d158_160 L xs) (kd := 7) (mj := 125) (n := 2) rfl (Or.inl rfl) (ys := [.int (nI (c + a)), .int (nI r)]) (r := []) rfl rfl (by decide) rfl rfl (Nat.le_of_ble_eq_true rfl) (md_at (i := a) hR (by omega) (by omega)) ?_
          rintro _ _ ⟨rfl, rfl⟩
          have hat_a := ga_lt hR (a)
          refine wg_bipush (d158_163 L xs) (x := 59) (by decide) ?_
          refine wn_icmp_eq (d158_165 L xs) (x := ga D a) (y := 59) (by omega) (by omega) (t := 111) (by decide) (fun h43 => ?_) (fun h43 => ?_)
          · rw [if_pos (by omega), if_neg (show ¬ (a < D.length ∧ ¬ gl D a = 59) from fun z => by have z1 := z.1; have z2 := z.2; rw [← ga_in z1] at z2; omega)]
            exact ih a P s _ _ (by omega) (by omega) hR hp hok
          · have hga2 := ga_in (D := D) (i := a) (by omega)
            rw [if_pos (by omega), if_pos (show a < D.length ∧ ¬ gl D a = 59 by omega)]
            refine wg_iload_n (d158_168 L xs) rfl ?_
            refine wg_istore (d158_169 L xs) (ls' := [some (.ref 141), some (.int (nI r)), some (.int (nI (c + a))), some (.int 1), some (.int (nI (c + a))), c5]) (Nat.le_of_ble_eq_true rfl) rfl ?_
            refine md_pl_e hR (D.length - a) a (by omega) ?_
            obtain ⟨e1, e2, e3, e4⟩ := let_s (g := gl D) (D.length - a) a
            change a ≤ p_e D a at e1
            change p_e D a ≤ a + (D.length - a) at e2
            clear e3 e4
            show wp L xs (d + 5) 158 201 [some (.ref 141), some (.int (nI r)), some (.int (nI (c + a))), some (.int 1), some (.int (nI (c + p_e D a))), c5] [] s _
            generalize hpe : p_e D a = e at e1 e2 ⊢
            refine wg_iload (d158_201 L xs) rfl ?_
            refine wg_iconst (d158_203 L xs) (x := 1) (by decide) ?_
            refine wg_iadd (d158_204 L xs) ?_
            refine wg_top (y := (nI (c + e + 1))) (nI_add (c + e) 1) ?_
            refine wg_istore (d158_205 L xs) (ls' := [some (.ref 141), some (.int (nI r)), some (.int (nI (c + a))), some (.int 1), some (.int (nI (c + e))), some (.int (nI (c + e + 1)))]) (Nat.le_of_ble_eq_true rfl) rfl ?_
            refine md_pl_n hR (D.length - (e + 1)) (e + 1) rfl (by omega) ?_
            obtain ⟨n1, n2, n3, n4⟩ := end_s (g := gl D) (D.length - (e + 1)) (e + 1)
            change e + 1 ≤ p_n D e at n1
            change p_n D e ≤ e + 1 + (D.length - (e + 1)) at n2
            clear n3 n4
            show wp L xs (d + 5) 158 248 [some (.ref 141), some (.int (nI r)), some (.int (nI (c + a))), some (.int 1), some (.int (nI (c + e))), some (.int (nI (c + p_n D e)))] [] s _
            generalize hpn : p_n D e = en at n1 n2 ⊢
            have hge := ga_cs D e
            unfold r_pt
            refine wg_iload (d158_248 L xs) rfl ?_
            refine wg_iload_n (d158_250 L xs) rfl ?_
            refine wn_icmp_eq (d158_251 L xs) (x := c + e) (y := c + a) (by omega) (by omega) (t := 299) (by decide) (fun h101 => ?_) (fun h101 => ?_)
            · refine wg_iconst (d158_299 L xs) (x := 0) (by decide) ?_
              exact wg_iret (d158_300 L xs) rfl rfl ⟨by rw [if_pos (show e = a ∨ ¬ gl D e = 61 ∨ en = e + 1 by omega)]; rfl, mfr.rf s _ _, fun z => by rw [if_pos (show e = a ∨ ¬ gl D e = 61 ∨ en = e + 1 by omega)] at z; cases z⟩
            · refine wg_iload (d158_254 L xs) rfl ?_
              refine wg_aload_n (d158_256 L xs) rfl ?_
              refine wg_get (d158_257 L xs) (kd := 1) (cj := 9) (k0 := 6) rfl (Or.inl rfl) (by decide) rfl rfl ?_
              refine wg_iload_n (d158_260 L xs) rfl ?_
              refine wg_iald (d158_261 L xs) (n := 16) (by decide) rfl (vp_in_nI (n := r) (by omega) (by omega)) ?_
              refine wg_top (y := (nI (c + D.length))) (by rw [nI_nat (n := r) (by omega)]; exact hR.2.2.2.2.2.1) ?_
              refine wn_icmp_ge (d158_262 L xs) (x := c + e) (y := c + D.length) (by omega) (by omega) (t := 299) (by decide) (fun h102 => ?_) (fun h102 => ?_)
              · refine wg_iconst (d158_299 L xs) (x := 0) (by decide) ?_
                exact wg_iret (d158_300 L xs) rfl rfl ⟨by rw [if_pos (show e = a ∨ ¬ gl D e = 61 ∨ en = e + 1 by omega)]; rfl, mfr.rf s _ _, fun z => by rw [if_pos (show e = a ∨ ¬ gl D e = 61 ∨ en = e + 1 by omega)] at z; cases z⟩
              · refine wg_aload_n (d158_265 L xs) rfl ?_
                refine wg_iload_n (d158_266 L xs) rfl ?_
                refine wg_iload (d158_267 L xs) rfl ?_
                refine wg_invv (d158_269 L xs) (kd := 7) (mj := 125) (n := 2) rfl (Or.inl rfl) (ys := [.int (nI (c + e)), .int (nI r)]) (r := []) rfl rfl (by decide) rfl rfl (Nat.le_of_ble_eq_true rfl) (md_at (i := e) hR (by omega) (by omega)) ?_
                rintro _ _ ⟨rfl, rfl⟩
                have hat_e := ga_lt hR (e)
                refine wg_bipush (d158_272 L xs) (x := 61) (by decide) ?_
                refine wn_icmp_ne (d158_274 L xs) (x := ga D e) (y := 61) (by omega) (by omega) (t := 299) (by decide) (fun h103 => ?_) (fun h103 => ?_)
                · refine wg_iconst (d158_299 L xs) (x := 0) (by decide) ?_
                  exact wg_iret (d158_300 L xs) rfl rfl ⟨by rw [if_pos (show e = a ∨ ¬ gl D e = 61 ∨ en = e + 1 by omega)]; rfl, mfr.rf s _ _, fun z => by rw [if_pos (show e = a ∨ ¬ gl D e = 61 ∨ en = e + 1 by omega)] at z; cases z⟩
                · refine wg_iload (d158_277 L xs) rfl ?_
                  refine wg_iload (d158_279 L xs) rfl ?_
                  refine wg_iconst (d158_281 L xs) (x := 1) (by decide) ?_
                  refine wg_iadd (d158_282 L xs) ?_
                  refine wg_top (y := (nI (c + e + 1))) (nI_add (c + e) 1) ?_
                  refine wn_icmp_eq (d158_283 L xs) (x := c + en) (y := c + e + 1) (by omega) (by omega) (t := 299) (by decide) (fun h104 => ?_) (fun h104 => ?_)
                  · refine wg_iconst (d158_299 L xs) (x := 0) (by decide) ?_
                    exact wg_iret (d158_300 L xs) rfl rfl ⟨by rw [if_pos (show e = a ∨ ¬ gl D e = 61 ∨ en = e + 1 by omega)]; rfl, mfr.rf s _ _, fun z => by rw [if_pos (show e = a ∨ ¬ gl D e = 61 ∨ en = e + 1 by omega)] at z; cases z⟩
                  · refine wg_aload_n (d158_286 L xs) rfl ?_
                    refine wg_iload_n (d158_287 L xs) rfl ?_
                    refine wg_iload_n (d158_288 L xs) rfl ?_
                    refine wg_iload (d158_289 L xs) rfl ?_
                    refine wg_iload (d158_291 L xs) rfl ?_
                    refine wg_invv (d158_293 L xs) (kd := 7) (mj := 160) (n := 4) rfl (Or.inl rfl) (ys := [.int (nI (c + en)), .int (nI (c + e)), .int (nI (c + a)), .int (nI r)]) (r := []) rfl rfl (by decide) rfl rfl (Nat.le_of_ble_eq_true rfl) (md_tag (P := P) hR (by omega) (by omega) (by omega) hp hok) ?_
                    rintro _ s1 ⟨rfl, hm1, ht1⟩
                    have hbT := bI_lt (f_tg1 (gl D) a en e P).1
                    have hR1 : isRec s1 r c D := isRec_of hR (hm1.2.2.1 144 (by decide)) (hm1.2.2.1 145 (by decide)) (hm1.2.2.1 146 (by decide))
                    refine wn_if_ne (d158_296 L xs) (x := bI (f_tg1 (gl D) a en e P).1) (by omega) (t := 301) (by decide) (fun h105 => ?_) (fun h105 => ?_)
                    · refine wg_aload_n (d158_301 L xs) rfl ?_
                      refine wg_iload_n (d158_302 L xs) rfl ?_
                      refine wg_iload (d158_303 L xs) rfl ?_
                      refine wg_invv (d158_305 L xs) (kd := 7) (mj := 159) (n := 2) rfl (Or.inl rfl) (ys := [.int (nI (c + en)), .int (nI r)]) (r := []) rfl rfl (by decide) rfl rfl (Nat.le_of_ble_eq_true rfl) (by have h := md_blanks (L := L) (xs := xs) (d := d + 3) (i := en) hR1 (by omega); exact h) ?_
                      rintro _ _ ⟨rfl, rfl⟩
                      refine wg_istore_n (d158_308 L xs) (ls' := [some (.ref 141), some (.int (nI r)), some (.int (nI (c + f_skip (gl D) 32 en (D.length - en)))), some (.int 1), some (.int (nI (c + e))), some (.int (nI (c + en)))]) (Nat.le_of_ble_eq_true rfl) rfl ?_
                      refine wg_goto (d158_309 L xs) (t := 111) (by decide) ?_
                      have htt : (f_tg1 (gl D) a en e P).1 = true := bI_t (by omega)
                      have ht2 := ht1 htt
                      obtain ⟨k1, k2, k3, k4⟩ := skip_s (g := gl D) (c := 32) (D.length - en) en
                      rw [if_neg (show ¬ (e = a ∨ ¬ gl D e = 61 ∨ en = e + 1) by omega), if_pos htt]
                      exact wp_mono (ih (f_skip (gl D) 32 en (D.length - en)) (f_tg1 (gl D) a en e P).2 s1 _ _ (by omega) (by omega) hR1 ht2.1 ht2.2) (fun rv s' h => ⟨h.1, hm1.trans h.2.1, h.2.2⟩)
                    · refine wg_iconst (d158_299 L xs) (x := 0) (by decide) ?_
                      exact wg_iret (d158_300 L xs) rfl rfl ⟨by rw [if_neg (show ¬ (e = a ∨ ¬ gl D e = 61 ∨ en = e + 1) by omega), if_neg (w_no (b := (f_tg1 (gl D) a en e P).1) (by omega))]; rfl, hm1, fun z => by rw [if_neg (show ¬ (e = a ∨ ¬ gl D e = 61 ∨ en = e + 1) by omega), if_neg (w_no (b := (f_tg1 (gl D) a en e P).1) (by omega))] at z; cases z⟩
      · refine wg_iconst (d158_136 L xs) (x := 0) (by decide) ?_
        exact wg_iret (d158_137 L xs) rfl rfl ⟨by rw [if_neg (by omega)]; rfl, mfr.rf s _ _, fun z => by rw [if_neg (by omega)] at z; cases z⟩
theorem t_pol_eq (hdm : t_word (gl D) 0 (min 8 D.length) w_dm = true) : b_eq (r_pl D D.length 8 (-1, -1, -1, -1)) (t_pol D) := by
  have h8 : 8 ≤ D.length := by have := (t_word_iff.mp hdm).1; change min 8 D.length - 0 = 8 at this; omega
  unfold t_pol
  rw [if_pos hdm]
  by_cases c1 : 8 < D.length ∧ ¬ gl D 8 = 59
  · rw [if_pos c1]
    have h := r_pl_no (D := D) (m := D.length) (k := 8) (P := (-1, -1, -1, -1)) (by omega) c1.1 c1.2
    exact ⟨h, fun z => by rw [h] at z; cases z⟩
  · rw [if_neg c1]
    refine r_pl_eq D.length 8 _ (by omega) h8 ?_
    by_cases e : 8 = D.length
    · exact Or.inl e
    · right
      exact Decidable.byContradiction (fun z => c1 ⟨by omega, z⟩)
theorem md_isPol (hR : isRec s r c D) : ca L xs (d + 6) 158 [.ref 141, .int (nI r)] s (fun rv s' => rv = some (.int (nI (bI (t_pol D).1))) ∧ mfr s s' pF [] ∧ ((t_pol D).1 = true → isPM s' (t_pol D).2 ∧ okP (t_pol D).2)) := by
  refine wg_call (Nat.le_of_ble_eq_true rfl) ?_
  have hr16 := hR.1
  have hc1 := hR.2.1
  have hcl := hR.2.2.1
  have hwd := wd_dm (g := ga D) 0 (min 8 D.length)
  have hge := wd_ga (D := D) (fr := 0) (to := min 8 D.length) (w := w_dm) (by omega)
  have m4 : mfr s (mg_I (mg_I (mg_I (mg_I s 141 43 0) 141 44 0) 141 45 (-1)) 141 46 (-1)) pF [] := (((mfr_I s (by decide)).trans (mfr_I _ (by decide))).trans (mfr_I _ (by decide))).trans (mfr_I _ (by decide))
  have hp4 : isPM (mg_I (mg_I (mg_I (mg_I s 141 43 0) 141 44 0) 141 45 (-1)) 141 46 (-1)) (-1, -1, -1, -1) := ⟨rfl, rfl, rfl, rfl⟩
  have hga0 := fun k => ga_lt hR k
  show wp L xs (d + 5) 158 0 [some (.ref 141), some (.int (nI r)), none, none, none, none] [] s _
  by_cases hw : t_word (ga D) 0 (min 8 D.length) w_dm = true
  · have hwg : t_word (gl D) 0 (min 8 D.length) w_dm = true := hge.trans hw
    have heq := t_pol_eq hwg
    rw [hw] at hwd
    have hwd1 := hwd.resolve_right (fun z => absurd z.2 (by decide))
    clear hwd
    simp only [Nat.zero_add] at hwd1
    have h8 : 8 ≤ D.length := by omega
    refine wg_aload_n (d158_0 L xs) rfl ?_
    refine wg_get (d158_1 L xs) (kd := 1) (cj := 9) (k0 := 7) rfl (Or.inl rfl) (by decide) rfl rfl ?_
    refine wg_iload_n (d158_4 L xs) rfl ?_
    refine wg_iald (d158_5 L xs) (n := 16) (by decide) rfl (vp_in_nI (n := r) (by omega) (by omega)) ?_
    refine wg_top (y := (nI (c - 1))) (by rw [nI_nat (n := r) (by omega)]; exact hR.2.2.2.2.1) ?_
    refine wg_iconst (d158_6 L xs) (x := 1) (by decide) ?_
    refine wg_iadd (d158_7 L xs) ?_
    refine wg_top (y := (nI c)) (by rw [show (1 : Int32) = nI 1 from rfl, nI_add]; congr 1; omega) ?_
    refine wg_istore_n (d158_8 L xs) (ls' := [some (.ref 141), some (.int (nI r)), some (.int (nI c)), none, none, none]) (Nat.le_of_ble_eq_true rfl) rfl ?_
    refine wg_aload_n (d158_9 L xs) rfl ?_
    refine wg_iload_n (d158_10 L xs) rfl ?_
    refine wg_iload_n (d158_11 L xs) rfl ?_
    refine wg_bipush (d158_12 L xs) (x := 118) (by decide) ?_
    refine wg_bipush (d158_14 L xs) (x := 61) (by decide) ?_
    refine wg_bipush (d158_16 L xs) (x := 68) (by decide) ?_
    refine wg_invv (d158_18 L xs) (kd := 7) (mj := 124) (n := 5) rfl (Or.inl rfl) (ys := [.int 68, .int 61, .int 118, .int (nI c), .int (nI r)]) (r := []) rfl rfl (by decide) rfl rfl (Nat.le_of_ble_eq_true rfl) (md_word (i := 0) (x := 118) (y := 61) (z := 68) hR (by omega) (by omega) (by decide) (by decide) (by decide)) ?_
    rintro _ _ ⟨rfl, rfl⟩
    have hw_4472182 := w3_n D 0 118 61 68
    simp only [Nat.reduceAdd] at hw_4472182
    refine wn_if_eq (d158_21 L xs) (x := bI (w3 D 0 118 61 68)) (by omega) (t := 86) (by decide) (fun h41 => by omega) (fun h41 => ?_)
    refine wg_aload_n (d158_24 L xs) rfl ?_
    refine wg_iload_n (d158_25 L xs) rfl ?_
    refine wg_iload_n (d158_26 L xs) rfl ?_
    refine wg_iconst (d158_27 L xs) (x := 3) (by decide) ?_
    refine wg_iadd (d158_28 L xs) ?_
    refine wg_top (y := (nI (c + 3))) (nI_add c 3) ?_
    refine wg_bipush (d158_29 L xs) (x := 77) (by decide) ?_
    refine wg_bipush (d158_31 L xs) (x := 65) (by decide) ?_
    refine wg_bipush (d158_33 L xs) (x := 82) (by decide) ?_
    refine wg_invv (d158_35 L xs) (kd := 7) (mj := 124) (n := 5) rfl (Or.inl rfl) (ys := [.int 82, .int 65, .int 77, .int (nI (c + 3)), .int (nI r)]) (r := []) rfl rfl (by decide) rfl rfl (Nat.le_of_ble_eq_true rfl) (md_word (i := 3) (x := 77) (y := 65) (z := 82) hR (by omega) (by omega) (by decide) (by decide) (by decide)) ?_
    rintro _ _ ⟨rfl, rfl⟩
    have hw_5390669 := w3_n D 3 77 65 82
    simp only [Nat.reduceAdd] at hw_5390669
    refine wn_if_eq (d158_38 L xs) (x := bI (w3 D 3 77 65 82)) (by omega) (t := 86) (by decide) (fun h42 => by omega) (fun h42 => ?_)
    refine wg_aload_n (d158_41 L xs) rfl ?_
    refine wg_iload_n (d158_42 L xs) rfl ?_
    refine wg_iload_n (d158_43 L xs) rfl ?_
    refine wg_bipush (d158_44 L xs) (x := 6) (by decide) ?_
    refine wg_iadd (d158_46 L xs) ?_
    refine wg_top (y := (nI (c + 6))) (nI_add c 6) ?_
    refine wg_invv (d158_47 L xs) (kd := 7) (mj := 125) (n := 2) rfl (Or.inl rfl) (ys := [.int (nI (c + 6)), .int (nI r)]) (r := []) rfl rfl (by decide) rfl rfl (Nat.le_of_ble_eq_true rfl) (md_at (i := 6) hR (by omega) (by omega)) ?_
    rintro _ _ ⟨rfl, rfl⟩
    have hat_6 := hga0 (6)
    refine wg_bipush (d158_50 L xs) (x := 67) (by decide) ?_
    refine wn_icmp_ne (d158_52 L xs) (x := ga D 6) (y := 67) (by omega) (by omega) (t := 86) (by decide) (fun h43 => by omega) (fun h43 => ?_)
    refine wg_aload_n (d158_55 L xs) rfl ?_
    refine wg_iload_n (d158_56 L xs) rfl ?_
    refine wg_iload_n (d158_57 L xs) rfl ?_
    refine wg_bipush (d158_58 L xs) (x := 7) (by decide) ?_
    refine wg_iadd (d158_60 L xs) ?_
    refine wg_top (y := (nI (c + 7))) (nI_add c 7) ?_
    refine wg_invv (d158_61 L xs) (kd := 7) (mj := 125) (n := 2) rfl (Or.inl rfl) (ys := [.int (nI (c + 7)), .int (nI r)]) (r := []) rfl rfl (by decide) rfl rfl (Nat.le_of_ble_eq_true rfl) (md_at (i := 7) hR (by omega) (by omega)) ?_
    rintro _ _ ⟨rfl, rfl⟩
    have hat_7 := hga0 (7)
    refine wg_bipush (d158_64 L xs) (x := 49) (by decide) ?_
    refine wn_icmp_ne (d158_66 L xs) (x := ga D 7) (y := 49) (by omega) (by omega) (t := 86) (by decide) (fun h44 => by omega) (fun h44 => ?_)
    refine wg_iload_n (d158_69 L xs) rfl ?_
    refine wg_bipush (d158_70 L xs) (x := 8) (by decide) ?_
    refine wg_iadd (d158_72 L xs) ?_
    refine wg_top (y := (nI (c + 8))) (nI_add c 8) ?_
    refine wg_aload_n (d158_73 L xs) rfl ?_
    refine wg_get (d158_74 L xs) (kd := 1) (cj := 9) (k0 := 6) rfl (Or.inl rfl) (by decide) rfl rfl ?_
    refine wg_iload_n (d158_77 L xs) rfl ?_
    refine wg_iald (d158_78 L xs) (n := 16) (by decide) rfl (vp_in_nI (n := r) (by omega) (by omega)) ?_
    refine wg_top (y := (nI (c + D.length))) (by rw [nI_nat (n := r) (by omega)]; exact hR.2.2.2.2.2.1) ?_
    refine wn_icmp_gt (d158_79 L xs) (x := c + 8) (y := c + D.length) (by omega) (by omega) (t := 86) (by decide) (fun h45 => by omega) (fun h45 => ?_)
    refine wg_iconst (d158_82 L xs) (x := 1) (by decide) ?_
    refine wg_goto (d158_83 L xs) (t := 87) (by decide) ?_
    refine wg_istore_n (d158_87 L xs) (ls' := [some (.ref 141), some (.int (nI r)), some (.int (nI c)), some (.int 1), none, none]) (Nat.le_of_ble_eq_true rfl) rfl ?_
    refine wg_aload_n (d158_88 L xs) rfl ?_
    refine wg_iconst (d158_89 L xs) (x := 0) (by decide) ?_
    refine wg_puti (d158_90 L xs) (cj := 9) (k0 := 43) rfl (by decide) rfl (Nat.le_of_ble_eq_true rfl) rfl rfl rfl ?_
    refine wg_aload_n (d158_93 L xs) rfl ?_
    refine wg_iconst (d158_94 L xs) (x := 0) (by decide) ?_
    refine wg_puti (d158_95 L xs) (cj := 9) (k0 := 44) rfl (by decide) rfl (Nat.le_of_ble_eq_true rfl) rfl rfl rfl ?_
    refine wg_aload_n (d158_98 L xs) rfl ?_
    refine wg_iconst (d158_99 L xs) (x := (-1)) (by decide) ?_
    refine wg_puti (d158_100 L xs) (cj := 9) (k0 := 45) rfl (by decide) rfl (Nat.le_of_ble_eq_true rfl) rfl rfl rfl ?_
    refine wg_aload_n (d158_103 L xs) rfl ?_
    refine wg_iconst (d158_104 L xs) (x := (-1)) (by decide) ?_
    refine wg_puti (d158_105 L xs) (cj := 9) (k0 := 46) rfl (by decide) rfl (Nat.le_of_ble_eq_true rfl) rfl rfl rfl ?_
    refine wg_iinc (d158_108 L xs) (y := (nI (c + 8))) (ls' := [some (.ref 141), some (.int (nI r)), some (.int (nI (c + 8))), some (.int 1), none, none]) rfl (nI_add c 8) rfl ?_
    exact wp_mono (md_pl_l D.length 8 (-1, -1, -1, -1) (mg_I (mg_I (mg_I (mg_I s 141 43 0) 141 44 0) 141 45 (-1)) 141 46 (-1)) _ _ (by omega) h8 (isRec_of hR rfl rfl rfl) hp4 ⟨Or.inl rfl, Or.inl rfl, Or.inl rfl, Or.inl rfl⟩) (fun rv s' h => ⟨by rw [← heq.1]; exact h.1, m4.trans h.2.1, fun z => by have z2 : (r_pl D D.length 8 (-1, -1, -1, -1)).1 = true := heq.1.trans z; rw [← heq.2 z2]; exact h.2.2 z2⟩)
  · have hT : t_pol D = (false, (-1, -1, -1, -1)) := by unfold t_pol; rw [if_neg (fun z => hw (hge.symm.trans z))]
    have hwd0 := hwd.resolve_left (fun z => absurd z.2 (by rw [bI_f' hw]; decide))
    clear hwd
    simp only [Nat.zero_add] at hwd0
    refine wg_aload_n (d158_0 L xs) rfl ?_
    refine wg_get (d158_1 L xs) (kd := 1) (cj := 9) (k0 := 7) rfl (Or.inl rfl) (by decide) rfl rfl ?_
    refine wg_iload_n (d158_4 L xs) rfl ?_
    refine wg_iald (d158_5 L xs) (n := 16) (by decide) rfl (vp_in_nI (n := r) (by omega) (by omega)) ?_
    refine wg_top (y := (nI (c - 1))) (by rw [nI_nat (n := r) (by omega)]; exact hR.2.2.2.2.1) ?_
    refine wg_iconst (d158_6 L xs) (x := 1) (by decide) ?_
    refine wg_iadd (d158_7 L xs) ?_
    refine wg_top (y := (nI c)) (by rw [show (1 : Int32) = nI 1 from rfl, nI_add]; congr 1; omega) ?_
    refine wg_istore_n (d158_8 L xs) (ls' := [some (.ref 141), some (.int (nI r)), some (.int (nI c)), none, none, none]) (Nat.le_of_ble_eq_true rfl) rfl ?_
    refine wg_aload_n (d158_9 L xs) rfl ?_
    refine wg_iload_n (d158_10 L xs) rfl ?_
    refine wg_iload_n (d158_11 L xs) rfl ?_
    refine wg_bipush (d158_12 L xs) (x := 118) (by decide) ?_
    refine wg_bipush (d158_14 L xs) (x := 61) (by decide) ?_
    refine wg_bipush (d158_16 L xs) (x := 68) (by decide) ?_
    refine wg_invv (d158_18 L xs) (kd := 7) (mj := 124) (n := 5) rfl (Or.inl rfl) (ys := [.int 68, .int 61, .int 118, .int (nI c), .int (nI r)]) (r := []) rfl rfl (by decide) rfl rfl (Nat.le_of_ble_eq_true rfl) (md_word (i := 0) (x := 118) (y := 61) (z := 68) hR (by omega) (by omega) (by decide) (by decide) (by decide)) ?_
    rintro _ _ ⟨rfl, rfl⟩
    have hw_4472182 := w3_n D 0 118 61 68
    simp only [Nat.reduceAdd] at hw_4472182
    refine wn_if_eq (d158_21 L xs) (x := bI (w3 D 0 118 61 68)) (by omega) (t := 86) (by decide) (fun h41 => ?_) (fun h41 => ?_)
    · refine wg_iconst (d158_86 L xs) (x := 0) (by decide) ?_
      refine wg_istore_n (d158_87 L xs) (ls' := [some (.ref 141), some (.int (nI r)), some (.int (nI c)), some (.int 0), none, none]) (Nat.le_of_ble_eq_true rfl) rfl ?_
      refine wg_aload_n (d158_88 L xs) rfl ?_
      refine wg_iconst (d158_89 L xs) (x := 0) (by decide) ?_
      refine wg_puti (d158_90 L xs) (cj := 9) (k0 := 43) rfl (by decide) rfl (Nat.le_of_ble_eq_true rfl) rfl rfl rfl ?_
      refine wg_aload_n (d158_93 L xs) rfl ?_
      refine wg_iconst (d158_94 L xs) (x := 0) (by decide) ?_
      refine wg_puti (d158_95 L xs) (cj := 9) (k0 := 44) rfl (by decide) rfl (Nat.le_of_ble_eq_true rfl) rfl rfl rfl ?_
      refine wg_aload_n (d158_98 L xs) rfl ?_
      refine wg_iconst (d158_99 L xs) (x := (-1)) (by decide) ?_
      refine wg_puti (d158_100 L xs) (cj := 9) (k0 := 45) rfl (by decide) rfl (Nat.le_of_ble_eq_true rfl) rfl rfl rfl ?_
      refine wg_aload_n (d158_103 L xs) rfl ?_
      refine wg_iconst (d158_104 L xs) (x := (-1)) (by decide) ?_
      refine wg_puti (d158_105 L xs) (cj := 9) (k0 := 46) rfl (by decide) rfl (Nat.le_of_ble_eq_true rfl) rfl rfl rfl ?_
      refine wg_iinc (d158_108 L xs) (y := (nI (c + 8))) (ls' := [some (.ref 141), some (.int (nI r)), some (.int (nI (c + 8))), some (.int 0), none, none]) rfl (nI_add c 8) rfl ?_
      refine wg_iload_n (d158_111 L xs) rfl ?_
      refine wg_if_eq (d158_112 L xs) (t := 312) (by decide) (fun _ => ?_) (fun hn => absurd (by decide) hn)
      refine wg_iload_n (d158_312 L xs) rfl ?_
      refine wg_if_eq (d158_313 L xs) (t := 327) (by decide) (fun _ => ?_) (fun hn => absurd (by decide) hn)
      refine wg_iconst (d158_327 L xs) (x := 0) (by decide) ?_
      exact wg_iret (d158_328 L xs) rfl rfl ⟨by rw [hT]; rfl, m4, fun z => by rw [hT] at z; cases z⟩
    · refine wg_aload_n (d158_24 L xs) rfl ?_
      refine wg_iload_n (d158_25 L xs) rfl ?_
      refine wg_iload_n (d158_26 L xs) rfl ?_
      refine wg_iconst (d158_27 L xs) (x := 3) (by decide) ?_
      refine wg_iadd (d158_28 L xs) ?_
      refine wg_top (y := (nI (c + 3))) (nI_add c 3) ?_
      refine wg_bipush (d158_29 L xs) (x := 77) (by decide) ?_
      refine wg_bipush (d158_31 L xs) (x := 65) (by decide) ?_
      refine wg_bipush (d158_33 L xs) (x := 82) (by decide) ?_
      refine wg_invv (d158_35 L xs) (kd := 7) (mj := 124) (n := 5) rfl (Or.inl rfl) (ys := [.int 82, .int 65, .int 77, .int (nI (c + 3)), .int (nI r)]) (r := []) rfl rfl (by decide) rfl rfl (Nat.le_of_ble_eq_true rfl) (md_word (i := 3) (x := 77) (y := 65) (z := 82) hR (by omega) (by omega) (by decide) (by decide) (by decide)) ?_
      rintro _ _ ⟨rfl, rfl⟩
      have hw_5390669 := w3_n D 3 77 65 82
      simp only [Nat.reduceAdd] at hw_5390669
      refine wn_if_eq (d158_38 L xs) (x := bI (w3 D 3 77 65 82)) (by omega) (t := 86) (by decide) (fun h44 => ?_) (fun h44 => ?_)
      · refine wg_iconst (d158_86 L xs) (x := 0) (by decide) ?_
        refine wg_istore_n (d158_87 L xs) (ls' := [some (.ref 141), some (.int (nI r)), some (.int (nI c)), some (.int 0), none, none]) (Nat.le_of_ble_eq_true rfl) rfl ?_
        refine wg_aload_n (d158_88 L xs) rfl ?_
        refine wg_iconst (d158_89 L xs) (x := 0) (by decide) ?_
        refine wg_puti (d158_90 L xs) (cj := 9) (k0 := 43) rfl (by decide) rfl (Nat.le_of_ble_eq_true rfl) rfl rfl rfl ?_
        refine wg_aload_n (d158_93 L xs) rfl ?_
        refine wg_iconst (d158_94 L xs) (x := 0) (by decide) ?_
        refine wg_puti (d158_95 L xs) (cj := 9) (k0 := 44) rfl (by decide) rfl (Nat.le_of_ble_eq_true rfl) rfl rfl rfl ?_
        refine wg_aload_n (d158_98 L xs) rfl ?_
        refine wg_iconst (d158_99 L xs) (x := (-1)) (by decide) ?_
        refine wg_puti (d158_100 L xs) (cj := 9) (k0 := 45) rfl (by decide) rfl (Nat.le_of_ble_eq_true rfl) rfl rfl rfl ?_
        refine wg_aload_n (d158_103 L xs) rfl ?_
        refine wg_iconst (d158_104 L xs) (x := (-1)) (by decide) ?_
        refine wg_puti (d158_105 L xs) (cj := 9) (k0 := 46) rfl (by decide) rfl (Nat.le_of_ble_eq_true rfl) rfl rfl rfl ?_
        refine wg_iinc (d158_108 L xs) (y := (nI (c + 8))) (ls' := [some (.ref 141), some (.int (nI r)), some (.int (nI (c + 8))), some (.int 0), none, none]) rfl (nI_add c 8) rfl ?_
        refine wg_iload_n (d158_111 L xs) rfl ?_
        refine wg_if_eq (d158_112 L xs) (t := 312) (by decide) (fun _ => ?_) (fun hn => absurd (by decide) hn)
        refine wg_iload_n (d158_312 L xs) rfl ?_
        refine wg_if_eq (d158_313 L xs) (t := 327) (by decide) (fun _ => ?_) (fun hn => absurd (by decide) hn)
        refine wg_iconst (d158_327 L xs) (x := 0) (by decide) ?_
        exact wg_iret (d158_328 L xs) rfl rfl ⟨by rw [hT]; rfl, m4, fun z => by rw [hT] at z; cases z⟩
      · refine wg_aload_n (d158_41 L xs) rfl ?_
        refine wg_iload_n (d158_42 L xs) rfl ?_
        refine wg_iload_n (d158_43 L xs) rfl ?_
        refine wg_bipush (d158_44 L xs) (x := 6) (by decide) ?_
        refine wg_iadd (d158_46 L xs) ?_
        refine wg_top (y := (nI (c + 6))) (nI_add c 6) ?_
        refine wg_invv (d158_47 L xs) (kd := 7) (mj := 125) (n := 2) rfl (Or.inl rfl) (ys := [.int (nI (c + 6)), .int (nI r)]) (r := []) rfl rfl (by decide) rfl rfl (Nat.le_of_ble_eq_true rfl) (md_at (i := 6) hR (by omega) (by omega)) ?_
        rintro _ _ ⟨rfl, rfl⟩
        have hat_6 := hga0 (6)
        refine wg_bipush (d158_50 L xs) (x := 67) (by decide) ?_
        refine wn_icmp_ne (d158_52 L xs) (x := ga D 6) (y := 67) (by omega) (by omega) (t := 86) (by decide) (fun h47 => ?_) (fun h47 => ?_)
        · refine wg_iconst (d158_86 L xs) (x := 0) (by decide) ?_
          refine wg_istore_n (d158_87 L xs) (ls' := [some (.ref 141), some (.int (nI r)), some (.int (nI c)), some (.int 0), none, none]) (Nat.le_of_ble_eq_true rfl) rfl ?_
          refine wg_aload_n (d158_88 L xs) rfl ?_
          refine wg_iconst (d158_89 L xs) (x := 0) (by decide) ?_
          refine wg_puti (d158_90 L xs) (cj := 9) (k0 := 43) rfl (by decide) rfl (Nat.le_of_ble_eq_true rfl) rfl rfl rfl ?_
          refine wg_aload_n (d158_93 L xs) rfl ?_
          refine wg_iconst (d158_94 L xs) (x := 0) (by decide) ?_
          refine wg_puti (d158_95 L xs) (cj := 9) (k0 := 44) rfl (by decide) rfl (Nat.le_of_ble_eq_true rfl) rfl rfl rfl ?_
          refine wg_aload_n (d158_98 L xs) rfl ?_
          refine wg_iconst (d158_99 L xs) (x := (-1)) (by decide) ?_
          refine wg_puti (d158_100 L xs) (cj := 9) (k0 := 45) rfl (by decide) rfl (Nat.le_of_ble_eq_true rfl) rfl rfl rfl ?_
          refine wg_aload_n (d158_103 L xs) rfl ?_
          refine wg_iconst (d158_104 L xs) (x := (-1)) (by decide) ?_
          refine wg_puti (d158_105 L xs) (cj := 9) (k0 := 46) rfl (by decide) rfl (Nat.le_of_ble_eq_true rfl) rfl rfl rfl ?_
          refine wg_iinc (d158_108 L xs) (y := (nI (c + 8))) (ls' := [some (.ref 141), some (.int (nI r)), some (.int (nI (c + 8))), some (.int 0), none, none]) rfl (nI_add c 8) rfl ?_
          refine wg_iload_n (d158_111 L xs) rfl ?_
          refine wg_if_eq (d158_112 L xs) (t := 312) (by decide) (fun _ => ?_) (fun hn => absurd (by decide) hn)
          refine wg_iload_n (d158_312 L xs) rfl ?_
          refine wg_if_eq (d158_313 L xs) (t := 327) (by decide) (fun _ => ?_) (fun hn => absurd (by decide) hn)
          refine wg_iconst (d158_327 L xs) (x := 0) (by decide) ?_
          exact wg_iret (d158_328 L xs) rfl rfl ⟨by rw [hT]; rfl, m4, fun z => by rw [hT] at z; cases z⟩
        · refine wg_aload_n (d158_55 L xs) rfl ?_
          refine wg_iload_n (d158_56 L xs) rfl ?_
          refine wg_iload_n (d158_57 L xs) rfl ?_
          refine wg_bipush (d158_58 L xs) (x := 7) (by decide) ?_
          refine wg_iadd (d158_60 L xs) ?_
          refine wg_top (y := (nI (c + 7))) (nI_add c 7) ?_
          refine wg_invv (d158_61 L xs) (kd := 7) (mj := 125) (n := 2) rfl (Or.inl rfl) (ys := [.int (nI (c + 7)), .int (nI r)]) (r := []) rfl rfl (by decide) rfl rfl (Nat.le_of_ble_eq_true rfl) (md_at (i := 7) hR (by omega) (by omega)) ?_
          rintro _ _ ⟨rfl, rfl⟩
          have hat_7 := hga0 (7)
          refine wg_bipush (d158_64 L xs) (x := 49) (by decide) ?_
          refine wn_icmp_ne (d158_66 L xs) (x := ga D 7) (y := 49) (by omega) (by omega) (t := 86) (by decide) (fun h50 => ?_) (fun h50 => ?_)
          · refine wg_iconst (d158_86 L xs) (x := 0) (by decide) ?_
            refine wg_istore_n (d158_87 L xs) (ls' := [some (.ref 141), some (.int (nI r)), some (.int (nI c)), some (.int 0), none, none]) (Nat.le_of_ble_eq_true rfl) rfl ?_
            refine wg_aload_n (d158_88 L xs) rfl ?_
            refine wg_iconst (d158_89 L xs) (x := 0) (by decide) ?_
            refine wg_puti (d158_90 L xs) (cj := 9) (k0 := 43) rfl (by decide) rfl (Nat.le_of_ble_eq_true rfl) rfl rfl rfl ?_
            refine wg_aload_n (d158_93 L xs) rfl ?_
            refine wg_iconst (d158_94 L xs) (x := 0) (by decide) ?_
            refine wg_puti (d158_95 L xs) (cj := 9) (k0 := 44) rfl (by decide) rfl (Nat.le_of_ble_eq_true rfl) rfl rfl rfl ?_
            refine wg_aload_n (d158_98 L xs) rfl ?_
            refine wg_iconst (d158_99 L xs) (x := (-1)) (by decide) ?_
            refine wg_puti (d158_100 L xs) (cj := 9) (k0 := 45) rfl (by decide) rfl (Nat.le_of_ble_eq_true rfl) rfl rfl rfl ?_
            refine wg_aload_n (d158_103 L xs) rfl ?_
            refine wg_iconst (d158_104 L xs) (x := (-1)) (by decide) ?_
            refine wg_puti (d158_105 L xs) (cj := 9) (k0 := 46) rfl (by decide) rfl (Nat.le_of_ble_eq_true rfl) rfl rfl rfl ?_
            refine wg_iinc (d158_108 L xs) (y := (nI (c + 8))) (ls' := [some (.ref 141), some (.int (nI r)), some (.int (nI (c + 8))), some (.int 0), none, none]) rfl (nI_add c 8) rfl ?_
            refine wg_iload_n (d158_111 L xs) rfl ?_
            refine wg_if_eq (d158_112 L xs) (t := 312) (by decide) (fun _ => ?_) (fun hn => absurd (by decide) hn)
            refine wg_iload_n (d158_312 L xs) rfl ?_
            refine wg_if_eq (d158_313 L xs) (t := 327) (by decide) (fun _ => ?_) (fun hn => absurd (by decide) hn)
            refine wg_iconst (d158_327 L xs) (x := 0) (by decide) ?_
            exact wg_iret (d158_328 L xs) rfl rfl ⟨by rw [hT]; rfl, m4, fun z => by rw [hT] at z; cases z⟩
          · refine wg_iload_n (d158_69 L xs) rfl ?_
            refine wg_bipush (d158_70 L xs) (x := 8) (by decide) ?_
            refine wg_iadd (d158_72 L xs) ?_
            refine wg_top (y := (nI (c + 8))) (nI_add c 8) ?_
            refine wg_aload_n (d158_73 L xs) rfl ?_
            refine wg_get (d158_74 L xs) (kd := 1) (cj := 9) (k0 := 6) rfl (Or.inl rfl) (by decide) rfl rfl ?_
            refine wg_iload_n (d158_77 L xs) rfl ?_
            refine wg_iald (d158_78 L xs) (n := 16) (by decide) rfl (vp_in_nI (n := r) (by omega) (by omega)) ?_
            refine wg_top (y := (nI (c + D.length))) (by rw [nI_nat (n := r) (by omega)]; exact hR.2.2.2.2.2.1) ?_
            refine wn_icmp_gt (d158_79 L xs) (x := c + 8) (y := c + D.length) (by omega) (by omega) (t := 86) (by decide) (fun h53 => ?_) (fun h53 => ?_)
            · refine wg_iconst (d158_86 L xs) (x := 0) (by decide) ?_
              refine wg_istore_n (d158_87 L xs) (ls' := [some (.ref 141), some (.int (nI r)), some (.int (nI c)), some (.int 0), none, none]) (Nat.le_of_ble_eq_true rfl) rfl ?_
              refine wg_aload_n (d158_88 L xs) rfl ?_
              refine wg_iconst (d158_89 L xs) (x := 0) (by decide) ?_
              refine wg_puti (d158_90 L xs) (cj := 9) (k0 := 43) rfl (by decide) rfl (Nat.le_of_ble_eq_true rfl) rfl rfl rfl ?_
              refine wg_aload_n (d158_93 L xs) rfl ?_
              refine wg_iconst (d158_94 L xs) (x := 0) (by decide) ?_
              refine wg_puti (d158_95 L xs) (cj := 9) (k0 := 44) rfl (by decide) rfl (Nat.le_of_ble_eq_true rfl) rfl rfl rfl ?_
              refine wg_aload_n (d158_98 L xs) rfl ?_
              refine wg_iconst (d158_99 L xs) (x := (-1)) (by decide) ?_
              refine wg_puti (d158_100 L xs) (cj := 9) (k0 := 45) rfl (by decide) rfl (Nat.le_of_ble_eq_true rfl) rfl rfl rfl ?_
              refine wg_aload_n (d158_103 L xs) rfl ?_
              refine wg_iconst (d158_104 L xs) (x := (-1)) (by decide) ?_
              refine wg_puti (d158_105 L xs) (cj := 9) (k0 := 46) rfl (by decide) rfl (Nat.le_of_ble_eq_true rfl) rfl rfl rfl ?_
              refine wg_iinc (d158_108 L xs) (y := (nI (c + 8))) (ls' := [some (.ref 141), some (.int (nI r)), some (.int (nI (c + 8))), some (.int 0), none, none]) rfl (nI_add c 8) rfl ?_
              refine wg_iload_n (d158_111 L xs) rfl ?_
              refine wg_if_eq (d158_112 L xs) (t := 312) (by decide) (fun _ => ?_) (fun hn => absurd (by decide) hn)
              refine wg_iload_n (d158_312 L xs) rfl ?_
              refine wg_if_eq (d158_313 L xs) (t := 327) (by decide) (fun _ => ?_) (fun hn => absurd (by decide) hn)
              refine wg_iconst (d158_327 L xs) (x := 0) (by decide) ?_
              exact wg_iret (d158_328 L xs) rfl rfl ⟨by rw [hT]; rfl, m4, fun z => by rw [hT] at z; cases z⟩
            · exfalso; omega
end KQ
