/-! the reference: the parts of a source -/
theorem d145_0 (L : Nat) (xs : Nat → Int32) : decode (ax_code (mgT L xs) 145) 0 = .ok (.aload_n 0, 1) := by
  show decode prog_11_method_20_code 0 = _
  decide +kernel
theorem d145_1 (L : Nat) (xs : Nat → Int32) : decode (ax_code (mgT L xs) 145) 1 = .ok (.iconst 1, 1) := by
  show decode prog_11_method_20_code 1 = _
  decide +kernel
theorem d145_2 (L : Nat) (xs : Nat → Int32) : decode (ax_code (mgT L xs) 145) 2 = .ok (.putfield 153, 3) := by
  show decode prog_11_method_20_code 2 = _
  decide +kernel
theorem d145_5 (L : Nat) (xs : Nat → Int32) : decode (ax_code (mgT L xs) 145) 5 = .ok (.aload_n 0, 1) := by
  show decode prog_11_method_20_code 5 = _
  decide +kernel
theorem d145_6 (L : Nat) (xs : Nat → Int32) : decode (ax_code (mgT L xs) 145) 6 = .ok (.getfield 40, 3) := by
  show decode prog_11_method_20_code 6 = _
  decide +kernel
theorem d145_9 (L : Nat) (xs : Nat → Int32) : decode (ax_code (mgT L xs) 145) 9 = .ok (.iconst 0, 1) := by
  show decode prog_11_method_20_code 9 = _
  decide +kernel
theorem d145_10 (L : Nat) (xs : Nat → Int32) : decode (ax_code (mgT L xs) 145) 10 = .ok (.iconst 0, 1) := by
  show decode prog_11_method_20_code 10 = _
  decide +kernel
theorem d145_11 (L : Nat) (xs : Nat → Int32) : decode (ax_code (mgT L xs) 145) 11 = .ok (.iastore, 1) := by
  show decode prog_11_method_20_code 11 = _
  decide +kernel
theorem d145_12 (L : Nat) (xs : Nat → Int32) : decode (ax_code (mgT L xs) 145) 12 = .ok (.iconst 0, 1) := by
  show decode prog_11_method_20_code 12 = _
  decide +kernel
theorem d145_13 (L : Nat) (xs : Nat → Int32) : decode (ax_code (mgT L xs) 145) 13 = .ok (.istore_n 3, 1) := by
  show decode prog_11_method_20_code 13 = _
  decide +kernel
theorem d145_14 (L : Nat) (xs : Nat → Int32) : decode (ax_code (mgT L xs) 145) 14 = .ok (.iload_n 3, 1) := by
  show decode prog_11_method_20_code 14 = _
  decide +kernel
theorem d145_15 (L : Nat) (xs : Nat → Int32) : decode (ax_code (mgT L xs) 145) 15 = .ok (.aload_n 0, 1) := by
  show decode prog_11_method_20_code 15 = _
  decide +kernel
theorem d145_16 (L : Nat) (xs : Nat → Int32) : decode (ax_code (mgT L xs) 145) 16 = .ok (.getfield 137, 3) := by
  show decode prog_11_method_20_code 16 = _
  decide +kernel
theorem d145_19 (L : Nat) (xs : Nat → Int32) : decode (ax_code (mgT L xs) 145) 19 = .ok (.if_icmp .ge 42, 3) := by
  show decode prog_11_method_20_code 19 = _
  decide +kernel
theorem d145_22 (L : Nat) (xs : Nat → Int32) : decode (ax_code (mgT L xs) 145) 22 = .ok (.aload_n 0, 1) := by
  show decode prog_11_method_20_code 22 = _
  decide +kernel
theorem d145_23 (L : Nat) (xs : Nat → Int32) : decode (ax_code (mgT L xs) 145) 23 = .ok (.getfield 43, 3) := by
  show decode prog_11_method_20_code 23 = _
  decide +kernel
theorem d145_26 (L : Nat) (xs : Nat → Int32) : decode (ax_code (mgT L xs) 145) 26 = .ok (.iload_n 3, 1) := by
  show decode prog_11_method_20_code 26 = _
  decide +kernel
theorem d145_27 (L : Nat) (xs : Nat → Int32) : decode (ax_code (mgT L xs) 145) 27 = .ok (.iaload, 1) := by
  show decode prog_11_method_20_code 27 = _
  decide +kernel
theorem d145_28 (L : Nat) (xs : Nat → Int32) : decode (ax_code (mgT L xs) 145) 28 = .ok (.bipush 46, 2) := by
  show decode prog_11_method_20_code 28 = _
  decide +kernel
theorem d145_30 (L : Nat) (xs : Nat → Int32) : decode (ax_code (mgT L xs) 145) 30 = .ok (.if_icmp .ne 25, 3) := by
  show decode prog_11_method_20_code 30 = _
  decide +kernel
theorem d145_33 (L : Nat) (xs : Nat → Int32) : decode (ax_code (mgT L xs) 145) 33 = .ok (.aload_n 0, 1) := by
  show decode prog_11_method_20_code 33 = _
  decide +kernel
theorem d145_34 (L : Nat) (xs : Nat → Int32) : decode (ax_code (mgT L xs) 145) 34 = .ok (.getfield 40, 3) := by
  show decode prog_11_method_20_code 34 = _
  decide +kernel
theorem d145_37 (L : Nat) (xs : Nat → Int32) : decode (ax_code (mgT L xs) 145) 37 = .ok (.aload_n 0, 1) := by
  show decode prog_11_method_20_code 37 = _
  decide +kernel
theorem d145_38 (L : Nat) (xs : Nat → Int32) : decode (ax_code (mgT L xs) 145) 38 = .ok (.getfield 153, 3) := by
  show decode prog_11_method_20_code 38 = _
  decide +kernel
theorem d145_41 (L : Nat) (xs : Nat → Int32) : decode (ax_code (mgT L xs) 145) 41 = .ok (.iload_n 3, 1) := by
  show decode prog_11_method_20_code 41 = _
  decide +kernel
theorem d145_42 (L : Nat) (xs : Nat → Int32) : decode (ax_code (mgT L xs) 145) 42 = .ok (.iconst 1, 1) := by
  show decode prog_11_method_20_code 42 = _
  decide +kernel
theorem d145_43 (L : Nat) (xs : Nat → Int32) : decode (ax_code (mgT L xs) 145) 43 = .ok (.iadd, 1) := by
  show decode prog_11_method_20_code 43 = _
  decide +kernel
theorem d145_44 (L : Nat) (xs : Nat → Int32) : decode (ax_code (mgT L xs) 145) 44 = .ok (.iastore, 1) := by
  show decode prog_11_method_20_code 44 = _
  decide +kernel
theorem d145_45 (L : Nat) (xs : Nat → Int32) : decode (ax_code (mgT L xs) 145) 45 = .ok (.aload_n 0, 1) := by
  show decode prog_11_method_20_code 45 = _
  decide +kernel
theorem d145_46 (L : Nat) (xs : Nat → Int32) : decode (ax_code (mgT L xs) 145) 46 = .ok (.dup, 1) := by
  show decode prog_11_method_20_code 46 = _
  decide +kernel
theorem d145_47 (L : Nat) (xs : Nat → Int32) : decode (ax_code (mgT L xs) 145) 47 = .ok (.getfield 153, 3) := by
  show decode prog_11_method_20_code 47 = _
  decide +kernel
theorem d145_50 (L : Nat) (xs : Nat → Int32) : decode (ax_code (mgT L xs) 145) 50 = .ok (.iconst 1, 1) := by
  show decode prog_11_method_20_code 50 = _
  decide +kernel
theorem d145_51 (L : Nat) (xs : Nat → Int32) : decode (ax_code (mgT L xs) 145) 51 = .ok (.iadd, 1) := by
  show decode prog_11_method_20_code 51 = _
  decide +kernel
theorem d145_52 (L : Nat) (xs : Nat → Int32) : decode (ax_code (mgT L xs) 145) 52 = .ok (.putfield 153, 3) := by
  show decode prog_11_method_20_code 52 = _
  decide +kernel
theorem d145_55 (L : Nat) (xs : Nat → Int32) : decode (ax_code (mgT L xs) 145) 55 = .ok (.iinc 3 1, 3) := by
  show decode prog_11_method_20_code 55 = _
  decide +kernel
theorem d145_58 (L : Nat) (xs : Nat → Int32) : decode (ax_code (mgT L xs) 145) 58 = .ok (.goto (-44), 3) := by
  show decode prog_11_method_20_code 58 = _
  decide +kernel
theorem d145_61 (L : Nat) (xs : Nat → Int32) : decode (ax_code (mgT L xs) 145) 61 = .ok (.aload_n 0, 1) := by
  show decode prog_11_method_20_code 61 = _
  decide +kernel
theorem d145_62 (L : Nat) (xs : Nat → Int32) : decode (ax_code (mgT L xs) 145) 62 = .ok (.getfield 40, 3) := by
  show decode prog_11_method_20_code 62 = _
  decide +kernel
theorem d145_65 (L : Nat) (xs : Nat → Int32) : decode (ax_code (mgT L xs) 145) 65 = .ok (.aload_n 0, 1) := by
  show decode prog_11_method_20_code 65 = _
  decide +kernel
theorem d145_66 (L : Nat) (xs : Nat → Int32) : decode (ax_code (mgT L xs) 145) 66 = .ok (.getfield 153, 3) := by
  show decode prog_11_method_20_code 66 = _
  decide +kernel
theorem d145_69 (L : Nat) (xs : Nat → Int32) : decode (ax_code (mgT L xs) 145) 69 = .ok (.aload_n 0, 1) := by
  show decode prog_11_method_20_code 69 = _
  decide +kernel
theorem d145_70 (L : Nat) (xs : Nat → Int32) : decode (ax_code (mgT L xs) 145) 70 = .ok (.getfield 137, 3) := by
  show decode prog_11_method_20_code 70 = _
  decide +kernel
theorem d145_73 (L : Nat) (xs : Nat → Int32) : decode (ax_code (mgT L xs) 145) 73 = .ok (.iconst 1, 1) := by
  show decode prog_11_method_20_code 73 = _
  decide +kernel
theorem d145_74 (L : Nat) (xs : Nat → Int32) : decode (ax_code (mgT L xs) 145) 74 = .ok (.iadd, 1) := by
  show decode prog_11_method_20_code 74 = _
  decide +kernel
theorem d145_75 (L : Nat) (xs : Nat → Int32) : decode (ax_code (mgT L xs) 145) 75 = .ok (.iastore, 1) := by
  show decode prog_11_method_20_code 75 = _
  decide +kernel
theorem d145_76 (L : Nat) (xs : Nat → Int32) : decode (ax_code (mgT L xs) 145) 76 = .ok (.iload_n 1, 1) := by
  show decode prog_11_method_20_code 76 = _
  decide +kernel
theorem d145_77 (L : Nat) (xs : Nat → Int32) : decode (ax_code (mgT L xs) 145) 77 = .ok (.ifCond .eq 11, 3) := by
  show decode prog_11_method_20_code 77 = _
  decide +kernel
theorem d145_80 (L : Nat) (xs : Nat → Int32) : decode (ax_code (mgT L xs) 145) 80 = .ok (.iload_n 1, 1) := by
  show decode prog_11_method_20_code 80 = _
  decide +kernel
theorem d145_81 (L : Nat) (xs : Nat → Int32) : decode (ax_code (mgT L xs) 145) 81 = .ok (.aload_n 0, 1) := by
  show decode prog_11_method_20_code 81 = _
  decide +kernel
theorem d145_82 (L : Nat) (xs : Nat → Int32) : decode (ax_code (mgT L xs) 145) 82 = .ok (.getfield 153, 3) := by
  show decode prog_11_method_20_code 82 = _
  decide +kernel
theorem d145_85 (L : Nat) (xs : Nat → Int32) : decode (ax_code (mgT L xs) 145) 85 = .ok (.if_icmp .le 10, 3) := by
  show decode prog_11_method_20_code 85 = _
  decide +kernel
theorem d145_88 (L : Nat) (xs : Nat → Int32) : decode (ax_code (mgT L xs) 145) 88 = .ok (.aload_n 0, 1) := by
  show decode prog_11_method_20_code 88 = _
  decide +kernel
theorem d145_89 (L : Nat) (xs : Nat → Int32) : decode (ax_code (mgT L xs) 145) 89 = .ok (.getfield 153, 3) := by
  show decode prog_11_method_20_code 89 = _
  decide +kernel
theorem d145_92 (L : Nat) (xs : Nat → Int32) : decode (ax_code (mgT L xs) 145) 92 = .ok (.goto 4, 3) := by
  show decode prog_11_method_20_code 92 = _
  decide +kernel
theorem d145_95 (L : Nat) (xs : Nat → Int32) : decode (ax_code (mgT L xs) 145) 95 = .ok (.iload_n 1, 1) := by
  show decode prog_11_method_20_code 95 = _
  decide +kernel
theorem d145_96 (L : Nat) (xs : Nat → Int32) : decode (ax_code (mgT L xs) 145) 96 = .ok (.istore_n 3, 1) := by
  show decode prog_11_method_20_code 96 = _
  decide +kernel
theorem d145_97 (L : Nat) (xs : Nat → Int32) : decode (ax_code (mgT L xs) 145) 97 = .ok (.aload_n 0, 1) := by
  show decode prog_11_method_20_code 97 = _
  decide +kernel
theorem d145_98 (L : Nat) (xs : Nat → Int32) : decode (ax_code (mgT L xs) 145) 98 = .ok (.getfield 153, 3) := by
  show decode prog_11_method_20_code 98 = _
  decide +kernel
theorem d145_101 (L : Nat) (xs : Nat → Int32) : decode (ax_code (mgT L xs) 145) 101 = .ok (.iload_n 3, 1) := by
  show decode prog_11_method_20_code 101 = _
  decide +kernel
theorem d145_102 (L : Nat) (xs : Nat → Int32) : decode (ax_code (mgT L xs) 145) 102 = .ok (.isub, 1) := by
  show decode prog_11_method_20_code 102 = _
  decide +kernel
theorem d145_103 (L : Nat) (xs : Nat → Int32) : decode (ax_code (mgT L xs) 145) 103 = .ok (.istore 4, 2) := by
  show decode prog_11_method_20_code 103 = _
  decide +kernel
theorem d145_105 (L : Nat) (xs : Nat → Int32) : decode (ax_code (mgT L xs) 145) 105 = .ok (.iload 4, 2) := by
  show decode prog_11_method_20_code 105 = _
  decide +kernel
theorem d145_107 (L : Nat) (xs : Nat → Int32) : decode (ax_code (mgT L xs) 145) 107 = .ok (.aload_n 0, 1) := by
  show decode prog_11_method_20_code 107 = _
  decide +kernel
theorem d145_108 (L : Nat) (xs : Nat → Int32) : decode (ax_code (mgT L xs) 145) 108 = .ok (.getfield 153, 3) := by
  show decode prog_11_method_20_code 108 = _
  decide +kernel
theorem d145_111 (L : Nat) (xs : Nat → Int32) : decode (ax_code (mgT L xs) 145) 111 = .ok (.if_icmp .ge 88, 3) := by
  show decode prog_11_method_20_code 111 = _
  decide +kernel
theorem d145_114 (L : Nat) (xs : Nat → Int32) : decode (ax_code (mgT L xs) 145) 114 = .ok (.iload_n 2, 1) := by
  show decode prog_11_method_20_code 114 = _
  decide +kernel
theorem d145_115 (L : Nat) (xs : Nat → Int32) : decode (ax_code (mgT L xs) 145) 115 = .ok (.ifCond .eq 15, 3) := by
  show decode prog_11_method_20_code 115 = _
  decide +kernel
theorem d145_118 (L : Nat) (xs : Nat → Int32) : decode (ax_code (mgT L xs) 145) 118 = .ok (.aload_n 0, 1) := by
  show decode prog_11_method_20_code 118 = _
  decide +kernel
theorem d145_119 (L : Nat) (xs : Nat → Int32) : decode (ax_code (mgT L xs) 145) 119 = .ok (.getfield 153, 3) := by
  show decode prog_11_method_20_code 119 = _
  decide +kernel
theorem d145_122 (L : Nat) (xs : Nat → Int32) : decode (ax_code (mgT L xs) 145) 122 = .ok (.iconst 1, 1) := by
  show decode prog_11_method_20_code 122 = _
  decide +kernel
theorem d145_123 (L : Nat) (xs : Nat → Int32) : decode (ax_code (mgT L xs) 145) 123 = .ok (.isub, 1) := by
  show decode prog_11_method_20_code 123 = _
  decide +kernel
theorem d145_124 (L : Nat) (xs : Nat → Int32) : decode (ax_code (mgT L xs) 145) 124 = .ok (.iload 4, 2) := by
  show decode prog_11_method_20_code 124 = _
  decide +kernel
theorem d145_126 (L : Nat) (xs : Nat → Int32) : decode (ax_code (mgT L xs) 145) 126 = .ok (.isub, 1) := by
  show decode prog_11_method_20_code 126 = _
  decide +kernel
theorem d145_127 (L : Nat) (xs : Nat → Int32) : decode (ax_code (mgT L xs) 145) 127 = .ok (.goto 5, 3) := by
  show decode prog_11_method_20_code 127 = _
  decide +kernel
theorem d145_130 (L : Nat) (xs : Nat → Int32) : decode (ax_code (mgT L xs) 145) 130 = .ok (.iload 4, 2) := by
  show decode prog_11_method_20_code 130 = _
  decide +kernel
theorem d145_132 (L : Nat) (xs : Nat → Int32) : decode (ax_code (mgT L xs) 145) 132 = .ok (.istore 5, 2) := by
  show decode prog_11_method_20_code 132 = _
  decide +kernel
theorem d145_134 (L : Nat) (xs : Nat → Int32) : decode (ax_code (mgT L xs) 145) 134 = .ok (.iload 4, 2) := by
  show decode prog_11_method_20_code 134 = _
  decide +kernel
theorem d145_136 (L : Nat) (xs : Nat → Int32) : decode (ax_code (mgT L xs) 145) 136 = .ok (.aload_n 0, 1) := by
  show decode prog_11_method_20_code 136 = _
  decide +kernel
theorem d145_137 (L : Nat) (xs : Nat → Int32) : decode (ax_code (mgT L xs) 145) 137 = .ok (.getfield 153, 3) := by
  show decode prog_11_method_20_code 137 = _
  decide +kernel
theorem d145_140 (L : Nat) (xs : Nat → Int32) : decode (ax_code (mgT L xs) 145) 140 = .ok (.iload_n 3, 1) := by
  show decode prog_11_method_20_code 140 = _
  decide +kernel
theorem d145_141 (L : Nat) (xs : Nat → Int32) : decode (ax_code (mgT L xs) 145) 141 = .ok (.isub, 1) := by
  show decode prog_11_method_20_code 141 = _
  decide +kernel
theorem d145_142 (L : Nat) (xs : Nat → Int32) : decode (ax_code (mgT L xs) 145) 142 = .ok (.if_icmp .le 9, 3) := by
  show decode prog_11_method_20_code 142 = _
  decide +kernel
theorem d145_145 (L : Nat) (xs : Nat → Int32) : decode (ax_code (mgT L xs) 145) 145 = .ok (.aload_n 0, 1) := by
  show decode prog_11_method_20_code 145 = _
  decide +kernel
theorem d145_146 (L : Nat) (xs : Nat → Int32) : decode (ax_code (mgT L xs) 145) 146 = .ok (.bipush 46, 2) := by
  show decode prog_11_method_20_code 146 = _
  decide +kernel
theorem d145_148 (L : Nat) (xs : Nat → Int32) : decode (ax_code (mgT L xs) 145) 148 = .ok (.invokevirtual 156, 3) := by
  show decode prog_11_method_20_code 148 = _
  decide +kernel
theorem d145_151 (L : Nat) (xs : Nat → Int32) : decode (ax_code (mgT L xs) 145) 151 = .ok (.aload_n 0, 1) := by
  show decode prog_11_method_20_code 151 = _
  decide +kernel
theorem d145_152 (L : Nat) (xs : Nat → Int32) : decode (ax_code (mgT L xs) 145) 152 = .ok (.getfield 40, 3) := by
  show decode prog_11_method_20_code 152 = _
  decide +kernel
theorem d145_155 (L : Nat) (xs : Nat → Int32) : decode (ax_code (mgT L xs) 145) 155 = .ok (.iload 5, 2) := by
  show decode prog_11_method_20_code 155 = _
  decide +kernel
theorem d145_157 (L : Nat) (xs : Nat → Int32) : decode (ax_code (mgT L xs) 145) 157 = .ok (.iaload, 1) := by
  show decode prog_11_method_20_code 157 = _
  decide +kernel
theorem d145_158 (L : Nat) (xs : Nat → Int32) : decode (ax_code (mgT L xs) 145) 158 = .ok (.istore 6, 2) := by
  show decode prog_11_method_20_code 158 = _
  decide +kernel
theorem d145_160 (L : Nat) (xs : Nat → Int32) : decode (ax_code (mgT L xs) 145) 160 = .ok (.iload 6, 2) := by
  show decode prog_11_method_20_code 160 = _
  decide +kernel
theorem d145_162 (L : Nat) (xs : Nat → Int32) : decode (ax_code (mgT L xs) 145) 162 = .ok (.aload_n 0, 1) := by
  show decode prog_11_method_20_code 162 = _
  decide +kernel
theorem d145_163 (L : Nat) (xs : Nat → Int32) : decode (ax_code (mgT L xs) 145) 163 = .ok (.getfield 40, 3) := by
  show decode prog_11_method_20_code 163 = _
  decide +kernel
theorem d145_166 (L : Nat) (xs : Nat → Int32) : decode (ax_code (mgT L xs) 145) 166 = .ok (.iload 5, 2) := by
  show decode prog_11_method_20_code 166 = _
  decide +kernel
theorem d145_168 (L : Nat) (xs : Nat → Int32) : decode (ax_code (mgT L xs) 145) 168 = .ok (.iconst 1, 1) := by
  show decode prog_11_method_20_code 168 = _
  decide +kernel
theorem d145_169 (L : Nat) (xs : Nat → Int32) : decode (ax_code (mgT L xs) 145) 169 = .ok (.iadd, 1) := by
  show decode prog_11_method_20_code 169 = _
  decide +kernel
theorem d145_170 (L : Nat) (xs : Nat → Int32) : decode (ax_code (mgT L xs) 145) 170 = .ok (.iaload, 1) := by
  show decode prog_11_method_20_code 170 = _
  decide +kernel
theorem d145_171 (L : Nat) (xs : Nat → Int32) : decode (ax_code (mgT L xs) 145) 171 = .ok (.iconst 1, 1) := by
  show decode prog_11_method_20_code 171 = _
  decide +kernel
theorem d145_172 (L : Nat) (xs : Nat → Int32) : decode (ax_code (mgT L xs) 145) 172 = .ok (.isub, 1) := by
  show decode prog_11_method_20_code 172 = _
  decide +kernel
theorem d145_173 (L : Nat) (xs : Nat → Int32) : decode (ax_code (mgT L xs) 145) 173 = .ok (.if_icmp .ge 20, 3) := by
  show decode prog_11_method_20_code 173 = _
  decide +kernel
theorem d145_176 (L : Nat) (xs : Nat → Int32) : decode (ax_code (mgT L xs) 145) 176 = .ok (.aload_n 0, 1) := by
  show decode prog_11_method_20_code 176 = _
  decide +kernel
theorem d145_177 (L : Nat) (xs : Nat → Int32) : decode (ax_code (mgT L xs) 145) 177 = .ok (.aload_n 0, 1) := by
  show decode prog_11_method_20_code 177 = _
  decide +kernel
theorem d145_178 (L : Nat) (xs : Nat → Int32) : decode (ax_code (mgT L xs) 145) 178 = .ok (.getfield 43, 3) := by
  show decode prog_11_method_20_code 178 = _
  decide +kernel
theorem d145_181 (L : Nat) (xs : Nat → Int32) : decode (ax_code (mgT L xs) 145) 181 = .ok (.iload 6, 2) := by
  show decode prog_11_method_20_code 181 = _
  decide +kernel
theorem d145_183 (L : Nat) (xs : Nat → Int32) : decode (ax_code (mgT L xs) 145) 183 = .ok (.iaload, 1) := by
  show decode prog_11_method_20_code 183 = _
  decide +kernel
theorem d145_184 (L : Nat) (xs : Nat → Int32) : decode (ax_code (mgT L xs) 145) 184 = .ok (.invokevirtual 156, 3) := by
  show decode prog_11_method_20_code 184 = _
  decide +kernel
theorem d145_187 (L : Nat) (xs : Nat → Int32) : decode (ax_code (mgT L xs) 145) 187 = .ok (.iinc 6 1, 3) := by
  show decode prog_11_method_20_code 187 = _
  decide +kernel
theorem d145_190 (L : Nat) (xs : Nat → Int32) : decode (ax_code (mgT L xs) 145) 190 = .ok (.goto (-30), 3) := by
  show decode prog_11_method_20_code 190 = _
  decide +kernel
theorem d145_193 (L : Nat) (xs : Nat → Int32) : decode (ax_code (mgT L xs) 145) 193 = .ok (.iinc 4 1, 3) := by
  show decode prog_11_method_20_code 193 = _
  decide +kernel
theorem d145_196 (L : Nat) (xs : Nat → Int32) : decode (ax_code (mgT L xs) 145) 196 = .ok (.goto (-91), 3) := by
  show decode prog_11_method_20_code 196 = _
  decide +kernel
theorem d145_199 (L : Nat) (xs : Nat → Int32) : decode (ax_code (mgT L xs) 145) 199 = .ok (.return_, 1) := by
  show decode prog_11_method_20_code 199 = _
  decide +kernel
/-- P says where the parts of src begin; P parts is one behind its end and a dot -/
def isPts (src : List Nat) (P : Nat → Nat) (n : Nat) : Prop := P 0 = 0 ∧ 1 ≤ n ∧ P n = src.length + 1 ∧ ∀ k, k < n → P k < P (k + 1) ∧ (∀ j, P k ≤ j → j + 1 < P (k + 1) → ¬ gl src j = 46) ∧ (k + 1 < n → gl src (P (k + 1) - 1) = 46)
theorem pts_le {src : List Nat} {P : Nat → Nat} {n : Nat} (h : isPts src P n) : ∀ (m k : Nat), k + m = n → P k + m ≤ src.length + 1 := by
  intro m
  induction m with
  | zero => intro k hk; rw [show k = n by omega, h.2.2.1]; omega
  | succ m ih => intro k hk; have := ih (k + 1) (by omega); have := (h.2.2.2 k (by omega)).1; omega
theorem last_run {g : Nat → Nat} {n dots : Nat} : ∀ (q m : Nat), (∀ j, m ≤ j → j < m + q → ¬ g j = 46) → f_last g n dots (m + q) = f_last g n dots m := by
  intro q
  induction q with
  | zero => intro m _; rfl
  | succ q ih =>
    intro m h
    rw [show m + (q + 1) = (m + q) + 1 by omega, f_last, if_neg (h (m + q) (by omega) (by omega)), ih m (fun j a b => h j a (by omega))]
theorem pts_last {src : List Nat} {P : Nat → Nat} {n w : Nat} (h : isPts src P n) : ∀ (k m dots : Nat), k < n → P k ≤ m → m + 1 ≤ P (k + 1) → dots + k + 1 = n → dots < w → f_last (gl src) w dots m = P (n - w) := by
  intro k
  induction k with
  | zero =>
    intro m dots hk h1 h2 hd hw
    have hp := h.2.2.2 0 hk
    have e := last_run (g := gl src) (n := w) (dots := dots) m 0 (fun j a b => hp.2.1 j (by rw [h.1]; omega) (by omega))
    rw [Nat.zero_add] at e
    rw [e, f_last, show n - w = 0 by omega, h.1]
  | succ k ih =>
    intro m dots hk h1 h2 hd hw
    have hp := h.2.2.2 (k + 1) hk
    have hp0 := h.2.2.2 k (by omega)
    have e := last_run (g := gl src) (n := w) (dots := dots) (m - P (k + 1)) (P (k + 1)) (fun j a b => hp.2.1 j a (by omega))
    rw [show P (k + 1) + (m - P (k + 1)) = m by omega] at e
    rw [e, show P (k + 1) = (P (k + 1) - 1) + 1 by omega, f_last, if_pos (hp0.2.2 (by omega))]
    by_cases c : dots + 1 = w
    · rw [if_pos c, show n - w = k + 1 by omega]; omega
    · rw [if_neg c]
      exact ih _ (dots + 1) (by omega) (by omega) (by omega) (by omega) (by omega)
theorem first_run {g : Nat → Nat} {n dots : Nat} : ∀ (q i m : Nat), (∀ j, i ≤ j → j < i + q → ¬ g j = 46) → f_first g n dots i (q + m) = f_first g n dots (i + q) m := by
  intro q
  induction q with
  | zero => intro i m _; rw [Nat.zero_add]; rfl
  | succ q ih =>
    intro i m h
    rw [show q + 1 + m = (q + m) + 1 by omega, f_first, if_neg (h i (by omega) (by omega)), ih (i + 1) m (fun j a b => h j (by omega) (by omega)), show i + 1 + q = i + (q + 1) by omega]
theorem pts_first {src : List Nat} {P : Nat → Nat} {n w : Nat} (h : isPts src P n) (hw1 : 1 ≤ w) : ∀ (m k : Nat), k + m + 1 = n → k < w → f_first (gl src) w k (P k) (src.length - P k) = P (if w ≤ n then w else n) - 1 := by
  intro m
  induction m with
  | zero =>
    intro k hk hkw
    have hp := h.2.2.2 k (by omega)
    rw [show k + 1 = n by omega, h.2.2.1] at hp
    have e := first_run (g := gl src) (n := w) (dots := k) (src.length - P k) (P k) 0 (fun j a b => hp.2.1 j a (by omega))
    rw [Nat.add_zero] at e
    rw [e, f_first]
    have : P (if w ≤ n then w else n) = src.length + 1 := by
      split
      · rw [show w = n by omega]; exact h.2.2.1
      · exact h.2.2.1
    omega
  | succ m ih =>
    intro k hk hkw
    have hp := h.2.2.2 k (by omega)
    have hle := pts_le h (m + 1) (k + 1) (by omega)
    have e := first_run (g := gl src) (n := w) (dots := k) (P (k + 1) - 1 - P k) (P k) (src.length - (P (k + 1) - 1)) (fun j a b => hp.2.1 j a (by omega))
    rw [show P (k + 1) - 1 - P k + (src.length - (P (k + 1) - 1)) = src.length - P k by omega, show P k + (P (k + 1) - 1 - P k) = P (k + 1) - 1 by omega] at e
    rw [e, show src.length - (P (k + 1) - 1) = (src.length - P (k + 1)) + 1 by omega, f_first, if_pos (hp.2.2 (by omega))]
    by_cases c : k + 1 = w
    · rw [if_pos c, if_pos (by omega), ← c]
    · rw [if_neg c, show P (k + 1) - 1 + 1 = P (k + 1) by omega]
      exact ih (k + 1) (by omega) (by omega)
/-- the parts that sel picks, from the q-th of the last on, with dots between them -/
def jn (src : List Nat) (P : Nat → Nat) (n : Nat) (sel : Nat → Nat) : Nat → List Nat
  | 0 => []
  | q + 1 => seg src (P (sel (n - (q + 1)))) (P (sel (n - (q + 1)) + 1) - 1) ++ (if q = 0 then [] else 46 :: jn src P n sel q)
theorem rv_run {src : List Nat} {e : Nat} : ∀ (q m : Nat), (∀ j, m ≤ j → j < m + q → ¬ gl src j = 46) → f_rv src (m + q) e = f_rv src m e := by
  intro q
  induction q with
  | zero => intro m _; rfl
  | succ q ih =>
    intro m h
    rw [show m + (q + 1) = (m + q) + 1 by omega, f_rv, if_neg (h (m + q) (by omega) (by omega)), ih m (fun j a b => h j a (by omega))]
theorem jn_back {src : List Nat} {P : Nat → Nat} {n : Nat} (h : isPts src P n) : ∀ (q : Nat), q + 1 ≤ n → jn src P n (fun i => n - 1 - i) (q + 1) = f_rv src (P (q + 1) - 1) (P (q + 1) - 1) := by
  intro q
  induction q with
  | zero =>
    intro hq
    have hp := h.2.2.2 0 (by omega)
    have e := rv_run (src := src) (e := P 1 - 1) (P 1 - 1) 0 (fun j a b => hp.2.1 j (by rw [h.1]; omega) (by show j + 1 < P 1; omega))
    rw [Nat.zero_add] at e
    rw [jn, if_pos rfl, List.append_nil]
    show seg src (P (n - 1 - (n - (0 + 1)))) (P (n - 1 - (n - (0 + 1)) + 1) - 1) = f_rv src (P 1 - 1) (P 1 - 1)
    rw [e, f_rv, show n - 1 - (n - (0 + 1)) = 0 by omega, h.1]
  | succ q ih =>
    intro hq
    have hp := h.2.2.2 (q + 1) (by omega)
    have hp0 := h.2.2.2 q (by omega)
    have e := rv_run (src := src) (e := P (q + 1 + 1) - 1) (P (q + 1 + 1) - 1 - P (q + 1)) (P (q + 1)) (fun j a b => hp.2.1 j a (by omega))
    rw [show P (q + 1) + (P (q + 1 + 1) - 1 - P (q + 1)) = P (q + 1 + 1) - 1 by omega] at e
    rw [jn, if_neg (by omega), ih (by omega), e]
    show seg src (P (n - 1 - (n - (q + 1 + 1)))) (P (n - 1 - (n - (q + 1 + 1)) + 1) - 1) ++ _ = _
    rw [show n - 1 - (n - (q + 1 + 1)) = q + 1 by omega]
    have e2 : f_rv src (P (q + 1)) (P (q + 1 + 1) - 1) = f_rv src ((P (q + 1) - 1) + 1) (P (q + 1 + 1) - 1) := by rw [show P (q + 1) - 1 + 1 = P (q + 1) by omega]
    rw [e2, f_rv, if_pos (hp0.2.2 (by omega)), show P (q + 1) - 1 + 1 = P (q + 1) by omega]; rfl
theorem seg_join {src : List Nat} {a b c : Nat} (h1 : a ≤ b) (h2 : b < c) (h3 : c ≤ src.length) (h4 : gl src b = 46) : seg src a b ++ 46 :: seg src (b + 1) c = seg src a c := by
  apply gl_ext
  · rw [List.length_append, List.length_cons, seg_len, seg_len, seg_len]; omega
  · intro i hi
    rw [List.length_append, List.length_cons, seg_len, seg_len] at hi
    rw [seg_gl (by rw [seg_len]; omega)]
    rcases Nat.lt_trichotomy i (b - a) with q | q | q
    · rw [gl_appl (by rw [seg_len]; omega), seg_gl (by rw [seg_len]; omega)]
    · have : i = (seg src a b).length := by rw [seg_len]; omega
      rw [this, gl_mid, seg_len, show a + (min b src.length - a) = b by omega, h4]
    · have e : gl (seg src a b ++ 46 :: seg src (b + 1) c) i = gl (seg src (b + 1) c) (i - (b - a) - 1) := by
        unfold gl
        rw [List.getD_eq_getElem?_getD, List.getD_eq_getElem?_getD, List.getElem?_append_right (by rw [seg_len]; omega), seg_len, show i - (min b src.length - a) = (i - (b - a) - 1) + 1 by omega, List.getElem?_cons_succ]
      rw [e, seg_gl (by rw [seg_len]; omega)]
      congr 1
      omega
theorem jn_fwd {src : List Nat} {P : Nat → Nat} {n : Nat} (h : isPts src P n) : ∀ (q : Nat), q + 1 ≤ n → jn src P n (fun i => i) (q + 1) = seg src (P (n - (q + 1))) src.length := by
  intro q
  induction q with
  | zero =>
    intro hq
    rw [jn, if_pos rfl, List.append_nil]
    show seg src (P (n - (0 + 1))) (P (n - (0 + 1) + 1) - 1) = _
    rw [show n - (0 + 1) + 1 = n by omega, h.2.2.1]; rfl
  | succ q ih =>
    intro hq
    have hp := h.2.2.2 (n - (q + 1 + 1)) (by omega)
    have hle := pts_le h (q + 1) (n - (q + 1)) (by omega)
    rw [jn, if_neg (by omega), ih (by omega)]
    show seg src (P (n - (q + 1 + 1))) (P (n - (q + 1 + 1) + 1) - 1) ++ 46 :: seg src (P (n - (q + 1))) src.length = _
    rw [show n - (q + 1 + 1) + 1 = n - (q + 1) by omega] at hp ⊢
    have hd := hp.2.2 (by omega)
    have e := seg_join (src := src) (a := P (n - (q + 1 + 1))) (b := P (n - (q + 1)) - 1) (c := src.length) (by omega) (by omega) (Nat.le_refl _) hd
    rw [show P (n - (q + 1)) - 1 + 1 = P (n - (q + 1)) by omega] at e
    exact e
/-- what putParts adds -/
def x_pp (src : List Nat) (many : Nat) (back : Bool) : List Nat := if back = true then f_rv src (f_first (gl src) (if many = 0 then 48 else many) 0 0 src.length) (f_first (gl src) (if many = 0 then 48 else many) 0 0 src.length) else seg src (f_last (gl src) (if many = 0 then 48 else many) 0 src.length) src.length
theorem jn_pp {src : List Nat} {P : Nat → Nat} {n many : Nat} {back : Bool} (h : isPts src P n) (h48 : n ≤ 48) : jn src P n (fun i => if back = true then n - 1 - i else i) (if many = 0 ∨ n < many then n else many) = x_pp src many back := by
  generalize hw : (if many = 0 then 48 else many) = w
  have hw1 : 1 ≤ w := by rw [← hw]; split <;> omega
  have hn1 := h.2.1
  have hm : (if many = 0 ∨ n < many then n else many) = (if w ≤ n then w else n) := by
    rw [← hw]
    by_cases c : many = 0
    · rw [if_pos (Or.inl c), if_pos c]
      split <;> omega
    · rw [if_neg c]
      by_cases c2 : n < many
      · rw [if_pos (Or.inr c2), if_neg (by omega)]
      · rw [if_neg (by omega), if_pos (by omega)]
  have hm1 : 1 ≤ (if w ≤ n then w else n) := by split <;> omega
  have hm2 : (if w ≤ n then w else n) ≤ n := by split <;> omega
  rw [hm]
  unfold x_pp
  rw [hw]
  cases back with
  | true =>
    rw [if_pos rfl]
    have hf := pts_first h hw1 (n - 1) 0 (by omega) (by omega)
    rw [h.1, Nat.sub_zero] at hf
    rw [hf]
    have e := jn_back h ((if w ≤ n then w else n) - 1) (by omega)
    rw [show (if w ≤ n then w else n) - 1 + 1 = (if w ≤ n then w else n) by omega] at e
    exact e
  | false =>
    show jn src P n (fun i => i) (if w ≤ n then w else n) = seg src (f_last (gl src) w 0 src.length) src.length
    have hl := pts_last h (n - 1) src.length 0 (by omega) (by have := pts_le h 1 (n - 1) (by omega); omega) (by rw [show n - 1 + 1 = n by omega, h.2.2.1]; exact Nat.le_refl _) (by omega) hw1
    rw [hl]
    have e := jn_fwd h ((if w ≤ n then w else n) - 1) (by omega)
    rw [show (if w ≤ n then w else n) - 1 + 1 = (if w ≤ n then w else n) by omega] at e
    rw [show n - w = n - (if w ≤ n then w else n) by split <;> omega]
    exact e
theorem seg_ok {src : List Nat} {a b : Nat} (h : okc src) : okc (seg src a b) := fun x hx => h x (List.mem_of_mem_take (List.mem_of_mem_drop hx))
theorem pts_48 {src : List Nat} {P : Nat → Nat} {n : Nat} (h : isPts src P n) (hl : src.length ≤ 48) (h0 : src.length ≤ 47 ∨ ¬ gl src 0 = 46) : n ≤ 48 := by
  rcases Nat.lt_or_ge n 2 with q | q
  · omega
  · have h1 := pts_le h n 0 (by omega)
    have h2 := pts_le h (n - 1) 1 (by omega)
    have hp := h.2.2.2 0 (by omega)
    rw [h.1, Nat.zero_add] at hp
    have hd := hp.2.2 (by omega)
    rcases h0 with q0 | q0
    · rw [h.1] at h1; omega
    · have : ¬ P 1 = 1 := fun e => by rw [e] at hd; exact q0 hd
      omega
theorem f_rv_len {src : List Nat} : ∀ (m e : Nat), m ≤ e → (f_rv src m e).length ≤ e := by
  intro m
  induction m with
  | zero => intro e _; rw [f_rv, seg_len]; omega
  | succ m ih =>
    intro e h
    rw [f_rv]
    split
    · rw [List.length_append, List.length_append, seg_len]
      have := ih m (Nat.le_refl _)
      show _ + (1 + _) ≤ e
      omega
    · exact ih e (by omega)
theorem x_pp_len {src : List Nat} {many : Nat} {back : Bool} : (x_pp src many back).length ≤ src.length := by
  unfold x_pp
  split
  · have := f_rv_len (src := src) (f_first (gl src) (if many = 0 then 48 else many) 0 0 src.length) (f_first (gl src) (if many = 0 then 48 else many) 0 0 src.length) (Nat.le_refl _)
    have h2 := (f_first_le (g := gl src) (parts := if many = 0 then 48 else many) src.length 0 0).2
    omega
  · rw [seg_len]; omega
section KP
variable {L : Nat} {xs : Nat → Int32} {d : Nat} {s : mg_s} {src : List Nat} {Q : Option Value → mg_s → Prop}
theorem md_pp1 {many bk : Nat} {c4 c5 c6 : Option Value} (hl48 : src.length ≤ 48) (kk : ∀ s' n P, mfr s s' [19] [152] → s'.1 141 19 = nI n → (∀ k, k < n → s'.2.1 152 k = nI (P k)) → isPts src P n → wp L xs (d + 1) 145 61 [some (.ref 141), some (.int (nI many)), some (.int (nI bk)), some (.int (nI src.length)), c4, c5, c6] [] s' Q) : ∀ (q j pt : Nat) (P : Nat → Nat) (s1 : mg_s), mfr s s1 [19] [152] → j + q = src.length → s1.1 141 22 = nI src.length → s1.1 141 19 = nI pt → holdA s1 153 0 src → (∀ k, k < pt → s1.2.1 152 k = nI (P k)) → P 0 = 0 → 1 ≤ pt → pt ≤ j + 1 → P (pt - 1) ≤ j → (∀ i, P (pt - 1) ≤ i → i < j → ¬ gl src i = 46) → (∀ k, k + 1 < pt → P k < P (k + 1) ∧ (∀ i, P k ≤ i → i + 1 < P (k + 1) → ¬ gl src i = 46) ∧ gl src (P (k + 1) - 1) = 46) → wp L xs (d + 1) 145 14 [some (.ref 141), some (.int (nI many)), some (.int (nI bk)), some (.int (nI j)), c4, c5, c6] [] s1 Q := by
  intro q
  induction q with
  | zero =>
    intro j pt P s1 hm hj h22 h19 hsrc hc hP0 hp1 hpj hPj hnd hk
    have hj0 : j = src.length := by omega
    subst hj0
    refine wg_iload_n (d145_14 L xs) rfl ?_
    refine wg_aload_n (d145_15 L xs) rfl ?_
    refine wg_get (d145_16 L xs) (kd := 1) (cj := 9) (k0 := 22) rfl (Or.inl rfl) (by decide) rfl rfl ?_
    refine wg_top (y := (nI src.length)) h22 ?_
    refine wn_icmp_ge (d145_19 L xs) (x := src.length) (y := src.length) (by omega) (by omega) (t := 61) (by decide) (fun h1 => ?_) (fun h1 => by omega)
    refine kk s1 pt (fun k => if k < pt then P k else src.length + 1) hm h19 (fun k q => (hc k q).trans (by (try dsimp only); rw [if_pos q])) ⟨by (try dsimp only); rw [if_pos (by omega)]; exact hP0, hp1, by (try dsimp only); rw [if_neg (by omega)], fun k q => ?_⟩
    try dsimp only
    rw [if_pos q]
    by_cases e : k + 1 < pt
    · rw [if_pos e]; exact ⟨(hk k e).1, (hk k e).2.1, fun _ => (hk k e).2.2⟩
    · rw [if_neg e, show k = pt - 1 by omega]
      exact ⟨by omega, fun i a b => hnd i a (by omega), fun z => absurd z (by omega)⟩
  | succ q ih =>
    intro j pt P s1 hm hj h22 h19 hsrc hc hP0 hp1 hpj hPj hnd hk
    have hgj := gl_lt hsrc.1 j
    refine wg_iload_n (d145_14 L xs) rfl ?_
    refine wg_aload_n (d145_15 L xs) rfl ?_
    refine wg_get (d145_16 L xs) (kd := 1) (cj := 9) (k0 := 22) rfl (Or.inl rfl) (by decide) rfl rfl ?_
    refine wg_top (y := (nI src.length)) h22 ?_
    refine wn_icmp_ge (d145_19 L xs) (x := j) (y := src.length) (by omega) (by omega) (t := 61) (by decide) (fun h1 => by omega) (fun h1 => ?_)
    refine wg_aload_n (d145_22 L xs) rfl ?_
    refine wg_get (d145_23 L xs) (kd := 1) (cj := 9) (k0 := 21) rfl (Or.inl rfl) (by decide) rfl rfl ?_
    refine wg_iload_n (d145_26 L xs) rfl ?_
    refine wg_iald (d145_27 L xs) (n := 64) (by decide) rfl (vp_in_nI (n := j) (by omega) (by omega)) ?_
    refine wg_top (y := (nI (gl src j))) (by rw [nI_nat (n := j) (by omega)]; exact (by have := hsrc.2 j (by omega); rw [Nat.zero_add] at this; exact this)) ?_
    refine wg_bipush (d145_28 L xs) (x := 46) (by decide) ?_
    refine wn_icmp_ne (d145_30 L xs) (x := gl src j) (y := 46) (by omega) (by omega) (t := 55) (by decide) (fun h2 => ?_) (fun h2 => ?_)
    · refine wg_iinc (d145_55 L xs) (y := (nI (j + 1))) (ls' := [some (.ref 141), some (.int (nI many)), some (.int (nI bk)), some (.int (nI (j + 1))), c4, c5, c6]) rfl (nI_add j 1) rfl ?_
      refine wg_goto (d145_58 L xs) (t := 14) (by decide) ?_
      exact ih (j + 1) pt P s1 hm (by omega) h22 h19 hsrc hc hP0 hp1 (by omega) (by omega) (fun i a b => by by_cases e : i = j; rw [e]; omega; exact hnd i a (by omega)) hk
    · refine wg_aload_n (d145_33 L xs) rfl ?_
      refine wg_get (d145_34 L xs) (kd := 1) (cj := 9) (k0 := 20) rfl (Or.inl rfl) (by decide) rfl rfl ?_
      refine wg_aload_n (d145_37 L xs) rfl ?_
      refine wg_get (d145_38 L xs) (kd := 1) (cj := 9) (k0 := 19) rfl (Or.inl rfl) (by decide) rfl rfl ?_
      refine wg_top (y := (nI pt)) h19 ?_
      refine wg_iload_n (d145_41 L xs) rfl ?_
      refine wg_iconst (d145_42 L xs) (x := 1) (by decide) ?_
      refine wg_iadd (d145_43 L xs) ?_
      refine wg_top (y := (nI (j + 1))) (nI_add j 1) ?_
      refine wg_iast (d145_44 L xs) (n := 64) (by decide) rfl (vp_in_nI (n := pt) (by omega) (by omega)) rfl ?_
      rw [nI_nat (n := pt) (by omega)]
      refine wg_aload_n (d145_45 L xs) rfl ?_
      refine wg_dup (d145_46 L xs) rfl ?_
      refine wg_get (d145_47 L xs) (kd := 1) (cj := 9) (k0 := 19) rfl (Or.inl rfl) (by decide) rfl rfl ?_
      refine wg_top (y := (nI pt)) h19 ?_
      refine wg_iconst (d145_50 L xs) (x := 1) (by decide) ?_
      refine wg_iadd (d145_51 L xs) ?_
      refine wg_top (y := (nI (pt + 1))) (nI_add pt 1) ?_
      refine wg_puti (d145_52 L xs) (cj := 9) (k0 := 19) rfl (by decide) rfl (Nat.le_of_ble_eq_true rfl) rfl rfl rfl ?_
      refine wg_iinc (d145_55 L xs) (y := (nI (j + 1))) (ls' := [some (.ref 141), some (.int (nI many)), some (.int (nI bk)), some (.int (nI (j + 1))), c4, c5, c6]) rfl (nI_add j 1) rfl ?_
      refine wg_goto (d145_58 L xs) (t := 14) (by decide) ?_
      refine ih (j + 1) (pt + 1) (fun k => if k = pt then j + 1 else P k) _ (hm.trans ((mfr_A s1 (by decide)).trans (mfr_I _ (by decide)))) (by omega) h22 rfl (holdA_of (holdA_A hsrc (by decide)) rfl) (fun k q => ?_) (by (try dsimp only); rw [if_neg (by omega)]; exact hP0) (by omega) (by omega) (by (try dsimp only); rw [if_pos (by omega)]; exact Nat.le_refl _) (fun i a b => by (try dsimp only at a); rw [if_pos (by omega)] at a; omega) (fun k q => ?_)
      · try dsimp only
        by_cases e : k = pt
        · rw [if_pos e, e]; exact mA_at _ _ _ _
        · rw [if_neg e]; exact (mA_ne _ _ (Or.inr e)).trans (hc k (by omega))
      · try dsimp only
        by_cases e : k + 1 = pt
        · rw [if_pos e, if_neg (by omega), show k = pt - 1 by omega]
          exact ⟨by omega, fun i a b => hnd i a (by omega), by rw [Nat.add_sub_cancel]; omega⟩
        · rw [if_neg e, if_neg (by omega)]
          exact hk k (by omega)
theorem seg_cons {l : List Nat} {k e : Nat} (h : k < e) (he : e ≤ l.length) : seg l k e = gl l k :: seg l (k + 1) e := by
  apply gl_ext
  · rw [List.length_cons, seg_len, seg_len]; omega
  · intro i hi
    rw [seg_gl hi]
    rw [seg_len] at hi
    cases i with
    | zero => rfl
    | succ i =>
      have e1 : gl (gl l k :: seg l (k + 1) e) (i + 1) = gl (seg l (k + 1) e) i := by unfold gl; rw [List.getD_cons_succ]
      rw [e1, seg_gl (by rw [seg_len]; omega)]
      congr 1
      omega
theorem md_pp3 {many bk nn i p e : Nat} (hl48 : src.length ≤ 48) (hp : p < 60) (he : e ≤ src.length) : ∀ (q k : Nat) (B : List Nat) (s : mg_s), k + q = e → holdA s 153 0 src → s.2.1 152 (p + 1) = nI (e + 1) → s.1 141 17 = nI B.length → holdA s 151 0 B → B.length + q ≤ 1500 → (∀ s', mfr s s' [17] [151] → s'.1 141 17 = nI (B ++ seg src k e).length → holdA s' 151 0 (B ++ seg src k e) → wp L xs (d + 1) 145 193 [some (.ref 141), some (.int (nI many)), some (.int (nI bk)), some (.int (nI nn)), some (.int (nI i)), some (.int (nI p)), some (.int (nI e))] [] s' Q) → wp L xs (d + 1) 145 160 [some (.ref 141), some (.int (nI many)), some (.int (nI bk)), some (.int (nI nn)), some (.int (nI i)), some (.int (nI p)), some (.int (nI k))] [] s Q := by
  intro q
  induction q with
  | zero =>
    intro k B s hk hsrc h52 h17 hB hcap kk
    have hk0 : k = e := by omega
    subst hk0
    refine wg_iload (d145_160 L xs) rfl ?_
    refine wg_aload_n (d145_162 L xs) rfl ?_
    refine wg_get (d145_163 L xs) (kd := 1) (cj := 9) (k0 := 20) rfl (Or.inl rfl) (by decide) rfl rfl ?_
    refine wg_iload (d145_166 L xs) rfl ?_
    refine wg_iconst (d145_168 L xs) (x := 1) (by decide) ?_
    refine wg_iadd (d145_169 L xs) ?_
    refine wg_top (y := (nI (p + 1))) (nI_add p 1) ?_
    refine wg_iald (d145_170 L xs) (n := 64) (by decide) rfl (vp_in_nI (n := p + 1) (by omega) (by omega)) ?_
    refine wg_top (y := (nI (k + 1))) (by rw [nI_nat (n := p + 1) (by omega)]; exact h52) ?_
    refine wg_iconst (d145_171 L xs) (x := 1) (by decide) ?_
    refine wg_isub (d145_172 L xs) ?_
    refine wg_top (y := (nI k)) (pk_sub (a := k + 1) (b := 1) (by omega)) ?_
    refine wn_icmp_ge (d145_173 L xs) (x := k) (y := k) (by omega) (by omega) (t := 193) (by decide) (fun h1 => ?_) (fun h1 => by omega)
    have e0 : seg src k k = [] := List.eq_nil_of_length_eq_zero (by rw [seg_len]; omega)
    rw [e0, List.append_nil] at kk
    exact kk s (mfr.rf s _ _) h17 hB
  | succ q ih =>
    intro k B s hk hsrc h52 h17 hB hcap kk
    have hgk := gl_lt hsrc.1 k
    refine wg_iload (d145_160 L xs) rfl ?_
    refine wg_aload_n (d145_162 L xs) rfl ?_
    refine wg_get (d145_163 L xs) (kd := 1) (cj := 9) (k0 := 20) rfl (Or.inl rfl) (by decide) rfl rfl ?_
    refine wg_iload (d145_166 L xs) rfl ?_
    refine wg_iconst (d145_168 L xs) (x := 1) (by decide) ?_
    refine wg_iadd (d145_169 L xs) ?_
    refine wg_top (y := (nI (p + 1))) (nI_add p 1) ?_
    refine wg_iald (d145_170 L xs) (n := 64) (by decide) rfl (vp_in_nI (n := p + 1) (by omega) (by omega)) ?_
    refine wg_top (y := (nI (e + 1))) (by rw [nI_nat (n := p + 1) (by omega)]; exact h52) ?_
    refine wg_iconst (d145_171 L xs) (x := 1) (by decide) ?_
    refine wg_isub (d145_172 L xs) ?_
    refine wg_top (y := (nI e)) (pk_sub (a := e + 1) (b := 1) (by omega)) ?_
    refine wn_icmp_ge (d145_173 L xs) (x := k) (y := e) (by omega) (by omega) (t := 193) (by decide) (fun h1 => by omega) (fun h1 => ?_)
    refine wg_aload_n (d145_176 L xs) rfl ?_
    refine wg_aload_n (d145_177 L xs) rfl ?_
    refine wg_get (d145_178 L xs) (kd := 1) (cj := 9) (k0 := 21) rfl (Or.inl rfl) (by decide) rfl rfl ?_
    refine wg_iload (d145_181 L xs) rfl ?_
    refine wg_iald (d145_183 L xs) (n := 64) (by decide) rfl (vp_in_nI (n := k) (by omega) (by omega)) ?_
    refine wg_top (y := (nI (gl src k))) (by rw [nI_nat (n := k) (by omega)]; exact (by have := hsrc.2 k (by omega); rw [Nat.zero_add] at this; exact this)) ?_
    refine wg_invv (d145_184 L xs) (kd := 7) (mj := 142) (n := 1) rfl (Or.inl rfl) (ys := [.int (nI (gl src k))]) (r := []) rfl rfl (by decide) rfl rfl (Nat.le_of_ble_eq_true rfl) (md_put (by omega) (by omega) h17 hB) ?_
    rintro _ s1 ⟨rfl, m1, b17, bB⟩
    refine wg_iinc (d145_187 L xs) (y := (nI (k + 1))) (ls' := [some (.ref 141), some (.int (nI many)), some (.int (nI bk)), some (.int (nI nn)), some (.int (nI i)), some (.int (nI p)), some (.int (nI (k + 1)))]) rfl (nI_add k 1) rfl ?_
    refine wg_goto (d145_190 L xs) (t := 160) (by decide) ?_
    have e0 : B ++ seg src k e = (B ++ [gl src k]) ++ seg src (k + 1) e := by rw [seg_cons (by omega) he, List.append_assoc]; rfl
    rw [e0] at kk
    exact ih (k + 1) (B ++ [gl src k]) s1 (by omega) (m1.hold (by decide) hsrc) ((congrFun (m1.2.2.1 152 (by decide)) _).trans h52) b17 bB (by rw [len_app1]; omega) (fun s' m2 c17 cB => kk s' (m1.trans m2) c17 cB)
theorem md_pp2t {many nn n : Nat} {P : Nat → Nat} (hl48 : src.length ≤ 48) (hn : n ≤ 49) (hnn : nn ≤ n) (hP : isPts src P n) : ∀ (q i : Nat) (B : List Nat) (s : mg_s) (c5 c6 : Option Value), i + q = n → n - nn ≤ i → holdA s 153 0 src → s.1 141 19 = nI n → (∀ k, k < n + 1 → s.2.1 152 k = nI (P k)) → s.1 141 17 = nI B.length → holdA s 151 0 B → (B ++ (if q = 0 then [] else if i = n - nn then jn src P n (fun i => n - 1 - i) q else 46 :: jn src P n (fun i => n - 1 - i) q)).length ≤ 1500 → wp L xs (d + 1) 145 105 [some (.ref 141), some (.int (nI many)), some (.int 1), some (.int (nI nn)), some (.int (nI i)), c5, c6] [] s (fun r s' => r = none ∧ mfr s s' [17] [151] ∧ s'.1 141 17 = nI (B ++ (if q = 0 then [] else if i = n - nn then jn src P n (fun i => n - 1 - i) q else 46 :: jn src P n (fun i => n - 1 - i) q)).length ∧ holdA s' 151 0 (B ++ (if q = 0 then [] else if i = n - nn then jn src P n (fun i => n - 1 - i) q else 46 :: jn src P n (fun i => n - 1 - i) q))) := by
  intro q
  induction q with
  | zero =>
    intro i B s c5 c6 hi hin hsrc h19 hc h17 hB hcap
    rw [if_pos rfl, List.append_nil]
    refine wg_iload (d145_105 L xs) rfl ?_
    refine wg_aload_n (d145_107 L xs) rfl ?_
    refine wg_get (d145_108 L xs) (kd := 1) (cj := 9) (k0 := 19) rfl (Or.inl rfl) (by decide) rfl rfl ?_
    refine wg_top (y := (nI n)) h19 ?_
    refine wn_icmp_ge (d145_111 L xs) (x := i) (y := n) (by omega) (by omega) (t := 199) (by decide) (fun h1 => ?_) (fun h1 => by omega)
    exact wg_vret (d145_199 L xs) rfl ⟨rfl, mfr.rf s _ _, h17, hB⟩
  | succ q ih =>
    intro i B s c5 c6 hi hin hsrc h19 hc h17 hB hcap
    have hp := hP.2.2.2 (n - 1 - i) (by omega)
    have hle := pts_le hP (n - (n - 1 - i + 1)) (n - 1 - i + 1) (by omega)
    have hle0 := pts_le hP (n - (n - 1 - i)) (n - 1 - i) (by omega)
    have hj : jn src P n (fun i => n - 1 - i) (q + 1) = seg src (P (n - 1 - i)) (P (n - 1 - i + 1) - 1) ++ (if q = 0 then [] else 46 :: jn src P n (fun i => n - 1 - i) q) := by
      rw [jn]
      show seg src (P (n - 1 - (n - (q + 1)))) (P (n - 1 - (n - (q + 1)) + 1) - 1) ++ _ = _
      rw [show n - (q + 1) = i by omega]
    rw [if_neg (show ¬ q + 1 = 0 by omega), hj] at hcap ⊢
    have h52a : s.2.1 152 (n - 1 - i) = nI (P (n - 1 - i)) := hc _ (by omega)
    have h52b : s.2.1 152 (n - 1 - i + 1) = nI (P (n - 1 - i + 1) - 1 + 1) := (hc _ (by omega)).trans (by rw [show P (n - 1 - i + 1) - 1 + 1 = P (n - 1 - i + 1) by omega])
    by_cases hfi : i = n - nn
    · refine wg_iload (d145_105 L xs) rfl ?_
      refine wg_aload_n (d145_107 L xs) rfl ?_
      refine wg_get (d145_108 L xs) (kd := 1) (cj := 9) (k0 := 19) rfl (Or.inl rfl) (by decide) rfl rfl ?_
      refine wg_top (y := (nI n)) h19 ?_
      refine wn_icmp_ge (d145_111 L xs) (x := i) (y := n) (by omega) (by omega) (t := 199) (by decide) (fun h1 => by omega) (fun h1 => ?_)
      refine wg_iload_n (d145_114 L xs) rfl ?_
      refine wg_if_eq (d145_115 L xs) (t := 130) (by decide) (fun hp => absurd hp (by decide)) (fun _ => ?_)
      refine wg_aload_n (d145_118 L xs) rfl ?_
      refine wg_get (d145_119 L xs) (kd := 1) (cj := 9) (k0 := 19) rfl (Or.inl rfl) (by decide) rfl rfl ?_
      refine wg_top (y := (nI n)) h19 ?_
      refine wg_iconst (d145_122 L xs) (x := 1) (by decide) ?_
      refine wg_isub (d145_123 L xs) ?_
      refine wg_top (y := (nI (n - 1))) (pk_sub (a := n) (b := 1) (by omega)) ?_
      refine wg_iload (d145_124 L xs) rfl ?_
      refine wg_isub (d145_126 L xs) ?_
      refine wg_top (y := (nI (n - 1 - i))) (pk_sub (a := n - 1) (b := i) (by omega)) ?_
      refine wg_goto (d145_127 L xs) (t := 132) (by decide) ?_
      refine wg_istore (d145_132 L xs) (ls' := [some (.ref 141), some (.int (nI many)), some (.int 1), some (.int (nI nn)), some (.int (nI i)), some (.int (nI (n - 1 - i))), c6]) (Nat.le_of_ble_eq_true rfl) rfl ?_
      refine wg_iload (d145_134 L xs) rfl ?_
      refine wg_aload_n (d145_136 L xs) rfl ?_
      refine wg_get (d145_137 L xs) (kd := 1) (cj := 9) (k0 := 19) rfl (Or.inl rfl) (by decide) rfl rfl ?_
      refine wg_top (y := (nI n)) h19 ?_
      refine wg_iload_n (d145_140 L xs) rfl ?_
      refine wg_isub (d145_141 L xs) ?_
      refine wg_top (y := (nI (n - nn))) (pk_sub (a := n) (b := nn) (by omega)) ?_
      refine wn_icmp_le (d145_142 L xs) (x := i) (y := n - nn) (by omega) (by omega) (t := 151) (by decide) (fun h3 => ?_) (fun h3 => by omega)
      refine wg_aload_n (d145_151 L xs) rfl ?_
      refine wg_get (d145_152 L xs) (kd := 1) (cj := 9) (k0 := 20) rfl (Or.inl rfl) (by decide) rfl rfl ?_
      refine wg_iload (d145_155 L xs) rfl ?_
      refine wg_iald (d145_157 L xs) (n := 64) (by decide) rfl (vp_in_nI (n := n - 1 - i) (by omega) (by omega)) ?_
      refine wg_top (y := (nI (P (n - 1 - i)))) (by rw [nI_nat (n := n - 1 - i) (by omega)]; exact h52a) ?_
      refine wg_istore (d145_158 L xs) (ls' := [some (.ref 141), some (.int (nI many)), some (.int 1), some (.int (nI nn)), some (.int (nI i)), some (.int (nI (n - 1 - i))), some (.int (nI (P (n - 1 - i))))]) (Nat.le_of_ble_eq_true rfl) rfl ?_
      rw [if_pos hfi] at hcap ⊢
      have hRS : B ++ (seg src (P (n - 1 - i)) (P (n - 1 - i + 1) - 1) ++ (if q = 0 then [] else 46 :: jn src P n (fun i => n - 1 - i) q)) = (B ++ seg src (P (n - 1 - i)) (P (n - 1 - i + 1) - 1)) ++ (if q = 0 then [] else if i + 1 = n - nn then jn src P n (fun i => n - 1 - i) q else 46 :: jn src P n (fun i => n - 1 - i) q) := by
        rw [if_neg (show ¬ i + 1 = n - nn by omega)]
        simp only [List.append_assoc, List.cons_append, List.nil_append]
      rw [hRS] at hcap ⊢
      have hlB : B.length + (P (n - 1 - i + 1) - 1 - P (n - 1 - i)) ≤ 1500 := by
        have := hcap
        simp only [List.length_append, seg_len] at this ⊢
        omega
      refine md_pp3 (e := P (n - 1 - i + 1) - 1) hl48 (by omega) (by omega) (P (n - 1 - i + 1) - 1 - P (n - 1 - i)) (P (n - 1 - i)) B _ (by omega) hsrc h52b h17 hB hlB (fun s2 m2 c17 cB => ?_)
      refine wg_iinc (d145_193 L xs) (y := (nI (i + 1))) (ls' := [some (.ref 141), some (.int (nI many)), some (.int 1), some (.int (nI nn)), some (.int (nI (i + 1))), some (.int (nI (n - 1 - i))), some (.int (nI (P (n - 1 - i + 1) - 1)))]) rfl (nI_add i 1) rfl ?_
      refine wg_goto (d145_196 L xs) (t := 105) (by decide) ?_
      exact wp_mono (ih (i + 1) (B ++ seg src (P (n - 1 - i)) (P (n - 1 - i + 1) - 1)) s2 _ _ (by omega) (by omega) (m2.hold (by decide) hsrc) ((m2.2.1 19 (by decide)).trans h19) (fun k z => (congrFun (m2.2.2.1 152 (by decide)) _).trans (hc k z)) c17 cB hcap) (fun r s' h => ⟨h.1, m2.trans h.2.1, h.2.2⟩)
    · refine wg_iload (d145_105 L xs) rfl ?_
      refine wg_aload_n (d145_107 L xs) rfl ?_
      refine wg_get (d145_108 L xs) (kd := 1) (cj := 9) (k0 := 19) rfl (Or.inl rfl) (by decide) rfl rfl ?_
      refine wg_top (y := (nI n)) h19 ?_
      refine wn_icmp_ge (d145_111 L xs) (x := i) (y := n) (by omega) (by omega) (t := 199) (by decide) (fun h1 => by omega) (fun h1 => ?_)
      refine wg_iload_n (d145_114 L xs) rfl ?_
      refine wg_if_eq (d145_115 L xs) (t := 130) (by decide) (fun hp => absurd hp (by decide)) (fun _ => ?_)
      refine wg_aload_n (d145_118 L xs) rfl ?_
      refine wg_get (d145_119 L xs) (kd := 1) (cj := 9) (k0 := 19) rfl (Or.inl rfl) (by decide) rfl rfl ?_
      refine wg_top (y := (nI n)) h19 ?_
      refine wg_iconst (d145_122 L xs) (x := 1) (by decide) ?_
      refine wg_isub (d145_123 L xs) ?_
      refine wg_top (y := (nI (n - 1))) (pk_sub (a := n) (b := 1) (by omega)) ?_
      refine wg_iload (d145_124 L xs) rfl ?_
      refine wg_isub (d145_126 L xs) ?_
      refine wg_top (y := (nI (n - 1 - i))) (pk_sub (a := n - 1) (b := i) (by omega)) ?_
      refine wg_goto (d145_127 L xs) (t := 132) (by decide) ?_
      refine wg_istore (d145_132 L xs) (ls' := [some (.ref 141), some (.int (nI many)), some (.int 1), some (.int (nI nn)), some (.int (nI i)), some (.int (nI (n - 1 - i))), c6]) (Nat.le_of_ble_eq_true rfl) rfl ?_
      refine wg_iload (d145_134 L xs) rfl ?_
      refine wg_aload_n (d145_136 L xs) rfl ?_
      refine wg_get (d145_137 L xs) (kd := 1) (cj := 9) (k0 := 19) rfl (Or.inl rfl) (by decide) rfl rfl ?_
      refine wg_top (y := (nI n)) h19 ?_
      refine wg_iload_n (d145_140 L xs) rfl ?_
      refine wg_isub (d145_141 L xs) ?_
      refine wg_top (y := (nI (n - nn))) (pk_sub (a := n) (b := nn) (by omega)) ?_
      refine wn_icmp_le (d145_142 L xs) (x := i) (y := n - nn) (by omega) (by omega) (t := 151) (by decide) (fun h3 => by omega) (fun h3 => ?_)
      refine wg_aload_n (d145_145 L xs) rfl ?_
      refine wg_bipush (d145_146 L xs) (x := 46) (by decide) ?_
      refine wg_invv (d145_148 L xs) (kd := 7) (mj := 142) (n := 1) rfl (Or.inl rfl) (ys := [.int 46]) (r := []) rfl rfl (by decide) rfl rfl (Nat.le_of_ble_eq_true rfl) (md_put (c := 46) (by decide) (by first | omega | (simp only [if_neg hfi, List.length_append, List.length_cons] at hcap; omega)) h17 hB) ?_
      rintro _ s1 ⟨rfl, m1, b17, bB⟩
      refine wg_aload_n (d145_151 L xs) rfl ?_
      refine wg_get (d145_152 L xs) (kd := 1) (cj := 9) (k0 := 20) rfl (Or.inl rfl) (by decide) rfl rfl ?_
      refine wg_iload (d145_155 L xs) rfl ?_
      refine wg_iald (d145_157 L xs) (n := 64) (by decide) rfl (vp_in_nI (n := n - 1 - i) (by omega) (by omega)) ?_
      refine wg_top (y := (nI (P (n - 1 - i)))) (by rw [nI_nat (n := n - 1 - i) (by omega)]; exact ((congrFun (m1.2.2.1 152 (by decide)) _).trans h52a)) ?_
      refine wg_istore (d145_158 L xs) (ls' := [some (.ref 141), some (.int (nI many)), some (.int 1), some (.int (nI nn)), some (.int (nI i)), some (.int (nI (n - 1 - i))), some (.int (nI (P (n - 1 - i))))]) (Nat.le_of_ble_eq_true rfl) rfl ?_
      rw [if_neg hfi] at hcap ⊢
      have hRS : B ++ 46 :: (seg src (P (n - 1 - i)) (P (n - 1 - i + 1) - 1) ++ (if q = 0 then [] else 46 :: jn src P n (fun i => n - 1 - i) q)) = ((B ++ [46]) ++ seg src (P (n - 1 - i)) (P (n - 1 - i + 1) - 1)) ++ (if q = 0 then [] else if i + 1 = n - nn then jn src P n (fun i => n - 1 - i) q else 46 :: jn src P n (fun i => n - 1 - i) q) := by
        rw [if_neg (show ¬ i + 1 = n - nn by omega)]
        simp only [List.append_assoc, List.cons_append, List.nil_append]
      rw [hRS] at hcap ⊢
      have hlB : (B ++ [46]).length + (P (n - 1 - i + 1) - 1 - P (n - 1 - i)) ≤ 1500 := by
        have := hcap
        simp only [List.length_append, seg_len] at this ⊢
        omega
      refine md_pp3 (e := P (n - 1 - i + 1) - 1) hl48 (by omega) (by omega) (P (n - 1 - i + 1) - 1 - P (n - 1 - i)) (P (n - 1 - i)) (B ++ [46]) _ (by omega) (m1.hold (by decide) hsrc) ((congrFun (m1.2.2.1 152 (by decide)) _).trans h52b) b17 bB hlB (fun s2 m2 c17 cB => ?_)
      refine wg_iinc (d145_193 L xs) (y := (nI (i + 1))) (ls' := [some (.ref 141), some (.int (nI many)), some (.int 1), some (.int (nI nn)), some (.int (nI (i + 1))), some (.int (nI (n - 1 - i))), some (.int (nI (P (n - 1 - i + 1) - 1)))]) rfl (nI_add i 1) rfl ?_
      refine wg_goto (d145_196 L xs) (t := 105) (by decide) ?_
      exact wp_mono (ih (i + 1) ((B ++ [46]) ++ seg src (P (n - 1 - i)) (P (n - 1 - i + 1) - 1)) s2 _ _ (by omega) (by omega) (m2.hold (by decide) (m1.hold (by decide) hsrc)) ((m2.2.1 19 (by decide)).trans ((m1.2.1 19 (by decide)).trans h19)) (fun k z => (congrFun (m2.2.2.1 152 (by decide)) _).trans ((fun k z => (congrFun (m1.2.2.1 152 (by decide)) _).trans (hc k z)) k z)) c17 cB hcap) (fun r s' h => ⟨h.1, (m1.trans m2).trans h.2.1, h.2.2⟩)
theorem md_pp2f {many nn n : Nat} {P : Nat → Nat} (hl48 : src.length ≤ 48) (hn : n ≤ 49) (hnn : nn ≤ n) (hP : isPts src P n) : ∀ (q i : Nat) (B : List Nat) (s : mg_s) (c5 c6 : Option Value), i + q = n → n - nn ≤ i → holdA s 153 0 src → s.1 141 19 = nI n → (∀ k, k < n + 1 → s.2.1 152 k = nI (P k)) → s.1 141 17 = nI B.length → holdA s 151 0 B → (B ++ (if q = 0 then [] else if i = n - nn then jn src P n (fun i => i) q else 46 :: jn src P n (fun i => i) q)).length ≤ 1500 → wp L xs (d + 1) 145 105 [some (.ref 141), some (.int (nI many)), some (.int 0), some (.int (nI nn)), some (.int (nI i)), c5, c6] [] s (fun r s' => r = none ∧ mfr s s' [17] [151] ∧ s'.1 141 17 = nI (B ++ (if q = 0 then [] else if i = n - nn then jn src P n (fun i => i) q else 46 :: jn src P n (fun i => i) q)).length ∧ holdA s' 151 0 (B ++ (if q = 0 then [] else if i = n - nn then jn src P n (fun i => i) q else 46 :: jn src P n (fun i => i) q))) := by
  intro q
  induction q with
  | zero =>
    intro i B s c5 c6 hi hin hsrc h19 hc h17 hB hcap
    rw [if_pos rfl, List.append_nil]
    refine wg_iload (d145_105 L xs) rfl ?_
    refine wg_aload_n (d145_107 L xs) rfl ?_
    refine wg_get (d145_108 L xs) (kd := 1) (cj := 9) (k0 := 19) rfl (Or.inl rfl) (by decide) rfl rfl ?_
    refine wg_top (y := (nI n)) h19 ?_
    refine wn_icmp_ge (d145_111 L xs) (x := i) (y := n) (by omega) (by omega) (t := 199) (by decide) (fun h1 => ?_) (fun h1 => by omega)
    exact wg_vret (d145_199 L xs) rfl ⟨rfl, mfr.rf s _ _, h17, hB⟩
  | succ q ih =>
    intro i B s c5 c6 hi hin hsrc h19 hc h17 hB hcap
    have hp := hP.2.2.2 (i) (by omega)
    have hle := pts_le hP (n - (i + 1)) (i + 1) (by omega)
    have hle0 := pts_le hP (n - (i)) (i) (by omega)
    have hj : jn src P n (fun i => i) (q + 1) = seg src (P (i)) (P (i + 1) - 1) ++ (if q = 0 then [] else 46 :: jn src P n (fun i => i) q) := by
      rw [jn]
      show seg src (P (n - (q + 1))) (P (n - (q + 1) + 1) - 1) ++ _ = _
      rw [show n - (q + 1) = i by omega]
    rw [if_neg (show ¬ q + 1 = 0 by omega), hj] at hcap ⊢
    have h52a : s.2.1 152 (i) = nI (P (i)) := hc _ (by omega)
    have h52b : s.2.1 152 (i + 1) = nI (P (i + 1) - 1 + 1) := (hc _ (by omega)).trans (by rw [show P (i + 1) - 1 + 1 = P (i + 1) by omega])
    by_cases hfi : i = n - nn
    · refine wg_iload (d145_105 L xs) rfl ?_
      refine wg_aload_n (d145_107 L xs) rfl ?_
      refine wg_get (d145_108 L xs) (kd := 1) (cj := 9) (k0 := 19) rfl (Or.inl rfl) (by decide) rfl rfl ?_
      refine wg_top (y := (nI n)) h19 ?_
      refine wn_icmp_ge (d145_111 L xs) (x := i) (y := n) (by omega) (by omega) (t := 199) (by decide) (fun h1 => by omega) (fun h1 => ?_)
      refine wg_iload_n (d145_114 L xs) rfl ?_
      refine wg_if_eq (d145_115 L xs) (t := 130) (by decide) (fun _ => ?_) (fun hn => absurd (by decide) hn)
      refine wg_iload (d145_130 L xs) rfl ?_
      refine wg_istore (d145_132 L xs) (ls' := [some (.ref 141), some (.int (nI many)), some (.int 0), some (.int (nI nn)), some (.int (nI i)), some (.int (nI i)), c6]) (Nat.le_of_ble_eq_true rfl) rfl ?_
      refine wg_iload (d145_134 L xs) rfl ?_
      refine wg_aload_n (d145_136 L xs) rfl ?_
      refine wg_get (d145_137 L xs) (kd := 1) (cj := 9) (k0 := 19) rfl (Or.inl rfl) (by decide) rfl rfl ?_
      refine wg_top (y := (nI n)) h19 ?_
      refine wg_iload_n (d145_140 L xs) rfl ?_
      refine wg_isub (d145_141 L xs) ?_
      refine wg_top (y := (nI (n - nn))) (pk_sub (a := n) (b := nn) (by omega)) ?_
      refine wn_icmp_le (d145_142 L xs) (x := i) (y := n - nn) (by omega) (by omega) (t := 151) (by decide) (fun h3 => ?_) (fun h3 => by omega)
      refine wg_aload_n (d145_151 L xs) rfl ?_
      refine wg_get (d145_152 L xs) (kd := 1) (cj := 9) (k0 := 20) rfl (Or.inl rfl) (by decide) rfl rfl ?_
      refine wg_iload (d145_155 L xs) rfl ?_
      refine wg_iald (d145_157 L xs) (n := 64) (by decide) rfl (vp_in_nI (n := i) (by omega) (by omega)) ?_
      refine wg_top (y := (nI (P (i)))) (by rw [nI_nat (n := i) (by omega)]; exact h52a) ?_
      refine wg_istore (d145_158 L xs) (ls' := [some (.ref 141), some (.int (nI many)), some (.int 0), some (.int (nI nn)), some (.int (nI i)), some (.int (nI i)), some (.int (nI (P (i))))]) (Nat.le_of_ble_eq_true rfl) rfl ?_
      rw [if_pos hfi] at hcap ⊢
      have hRS : B ++ (seg src (P (i)) (P (i + 1) - 1) ++ (if q = 0 then [] else 46 :: jn src P n (fun i => i) q)) = (B ++ seg src (P (i)) (P (i + 1) - 1)) ++ (if q = 0 then [] else if i + 1 = n - nn then jn src P n (fun i => i) q else 46 :: jn src P n (fun i => i) q) := by
        rw [if_neg (show ¬ i + 1 = n - nn by omega)]
        simp only [List.append_assoc, List.cons_append, List.nil_append]
      rw [hRS] at hcap ⊢
      have hlB : B.length + (P (i + 1) - 1 - P (i)) ≤ 1500 := by
        have := hcap
        simp only [List.length_append, seg_len] at this ⊢
        omega
      refine md_pp3 (e := P (i + 1) - 1) hl48 (by omega) (by omega) (P (i + 1) - 1 - P (i)) (P (i)) B _ (by omega) hsrc h52b h17 hB hlB (fun s2 m2 c17 cB => ?_)
      refine wg_iinc (d145_193 L xs) (y := (nI (i + 1))) (ls' := [some (.ref 141), some (.int (nI many)), some (.int 0), some (.int (nI nn)), some (.int (nI (i + 1))), some (.int (nI i)), some (.int (nI (P (i + 1) - 1)))]) rfl (nI_add i 1) rfl ?_
      refine wg_goto (d145_196 L xs) (t := 105) (by decide) ?_
      exact wp_mono (ih (i + 1) (B ++ seg src (P (i)) (P (i + 1) - 1)) s2 _ _ (by omega) (by omega) (m2.hold (by decide) hsrc) ((m2.2.1 19 (by decide)).trans h19) (fun k z => (congrFun (m2.2.2.1 152 (by decide)) _).trans (hc k z)) c17 cB hcap) (fun r s' h => ⟨h.1, m2.trans h.2.1, h.2.2⟩)
    · refine wg_iload (d145_105 L xs) rfl ?_
      refine wg_aload_n (d145_107 L xs) rfl ?_
      refine wg_get (d145_108 L xs) (kd := 1) (cj := 9) (k0 := 19) rfl (Or.inl rfl) (by decide) rfl rfl ?_
      refine wg_top (y := (nI n)) h19 ?_
      refine wn_icmp_ge (d145_111 L xs) (x := i) (y := n) (by omega) (by omega) (t := 199) (by decide) (fun h1 => by omega) (fun h1 => ?_)
      refine wg_iload_n (d145_114 L xs) rfl ?_
      refine wg_if_eq (d145_115 L xs) (t := 130) (by decide) (fun _ => ?_) (fun hn => absurd (by decide) hn)
      refine wg_iload (d145_130 L xs) rfl ?_
      refine wg_istore (d145_132 L xs) (ls' := [some (.ref 141), some (.int (nI many)), some (.int 0), some (.int (nI nn)), some (.int (nI i)), some (.int (nI i)), c6]) (Nat.le_of_ble_eq_true rfl) rfl ?_
      refine wg_iload (d145_134 L xs) rfl ?_
      refine wg_aload_n (d145_136 L xs) rfl ?_
      refine wg_get (d145_137 L xs) (kd := 1) (cj := 9) (k0 := 19) rfl (Or.inl rfl) (by decide) rfl rfl ?_
      refine wg_top (y := (nI n)) h19 ?_
      refine wg_iload_n (d145_140 L xs) rfl ?_
      refine wg_isub (d145_141 L xs) ?_
      refine wg_top (y := (nI (n - nn))) (pk_sub (a := n) (b := nn) (by omega)) ?_
      refine wn_icmp_le (d145_142 L xs) (x := i) (y := n - nn) (by omega) (by omega) (t := 151) (by decide) (fun h3 => by omega) (fun h3 => ?_)
      refine wg_aload_n (d145_145 L xs) rfl ?_
      refine wg_bipush (d145_146 L xs) (x := 46) (by decide) ?_
      refine wg_invv (d145_148 L xs) (kd := 7) (mj := 142) (n := 1) rfl (Or.inl rfl) (ys := [.int 46]) (r := []) rfl rfl (by decide) rfl rfl (Nat.le_of_ble_eq_true rfl) (md_put (c := 46) (by decide) (by first | omega | (simp only [if_neg hfi, List.length_append, List.length_cons] at hcap; omega)) h17 hB) ?_
      rintro _ s1 ⟨rfl, m1, b17, bB⟩
      refine wg_aload_n (d145_151 L xs) rfl ?_
      refine wg_get (d145_152 L xs) (kd := 1) (cj := 9) (k0 := 20) rfl (Or.inl rfl) (by decide) rfl rfl ?_
      refine wg_iload (d145_155 L xs) rfl ?_
      refine wg_iald (d145_157 L xs) (n := 64) (by decide) rfl (vp_in_nI (n := i) (by omega) (by omega)) ?_
      refine wg_top (y := (nI (P (i)))) (by rw [nI_nat (n := i) (by omega)]; exact ((congrFun (m1.2.2.1 152 (by decide)) _).trans h52a)) ?_
      refine wg_istore (d145_158 L xs) (ls' := [some (.ref 141), some (.int (nI many)), some (.int 0), some (.int (nI nn)), some (.int (nI i)), some (.int (nI i)), some (.int (nI (P (i))))]) (Nat.le_of_ble_eq_true rfl) rfl ?_
      rw [if_neg hfi] at hcap ⊢
      have hRS : B ++ 46 :: (seg src (P (i)) (P (i + 1) - 1) ++ (if q = 0 then [] else 46 :: jn src P n (fun i => i) q)) = ((B ++ [46]) ++ seg src (P (i)) (P (i + 1) - 1)) ++ (if q = 0 then [] else if i + 1 = n - nn then jn src P n (fun i => i) q else 46 :: jn src P n (fun i => i) q) := by
        rw [if_neg (show ¬ i + 1 = n - nn by omega)]
        simp only [List.append_assoc, List.cons_append, List.nil_append]
      rw [hRS] at hcap ⊢
      have hlB : (B ++ [46]).length + (P (i + 1) - 1 - P (i)) ≤ 1500 := by
        have := hcap
        simp only [List.length_append, seg_len] at this ⊢
        omega
      refine md_pp3 (e := P (i + 1) - 1) hl48 (by omega) (by omega) (P (i + 1) - 1 - P (i)) (P (i)) (B ++ [46]) _ (by omega) (m1.hold (by decide) hsrc) ((congrFun (m1.2.2.1 152 (by decide)) _).trans h52b) b17 bB hlB (fun s2 m2 c17 cB => ?_)
      refine wg_iinc (d145_193 L xs) (y := (nI (i + 1))) (ls' := [some (.ref 141), some (.int (nI many)), some (.int 0), some (.int (nI nn)), some (.int (nI (i + 1))), some (.int (nI i)), some (.int (nI (P (i + 1) - 1)))]) rfl (nI_add i 1) rfl ?_
      refine wg_goto (d145_196 L xs) (t := 105) (by decide) ?_
      exact wp_mono (ih (i + 1) ((B ++ [46]) ++ seg src (P (i)) (P (i + 1) - 1)) s2 _ _ (by omega) (by omega) (m2.hold (by decide) (m1.hold (by decide) hsrc)) ((m2.2.1 19 (by decide)).trans ((m1.2.1 19 (by decide)).trans h19)) (fun k z => (congrFun (m2.2.2.1 152 (by decide)) _).trans ((fun k z => (congrFun (m1.2.2.1 152 (by decide)) _).trans (hc k z)) k z)) c17 cB hcap) (fun r s' h => ⟨h.1, (m1.trans m2).trans h.2.1, h.2.2⟩)
theorem md_parts {many : Nat} {back : Bool} {B : List Nat} (hmany : many < 2 ^ 20) (hl48 : src.length ≤ 48) (h0 : src.length ≤ 47 ∨ ¬ gl src 0 = 46) (h22 : s.1 141 22 = nI src.length) (hsrc : holdA s 153 0 src) (h17 : s.1 141 17 = nI B.length) (hB : holdA s 151 0 B) (hcap : B.length + src.length ≤ 1500) : ca L xs (d + 2) 145 [.ref 141, .int (nI many), .int (nI (bI back))] s (fun r s' => r = none ∧ mfr s s' [17, 19] [151, 152] ∧ s'.1 141 17 = nI (B ++ x_pp src many back).length ∧ holdA s' 151 0 (B ++ x_pp src many back)) := by
  refine wg_call (Nat.le_of_ble_eq_true rfl) ?_
  show wp L xs (d + 1) 145 0 [some (.ref 141), some (.int (nI many)), some (.int (nI (bI back))), none, none, none, none] [] s _
  refine wg_aload_n (d145_0 L xs) rfl ?_
  refine wg_iconst (d145_1 L xs) (x := 1) (by decide) ?_
  refine wg_puti (d145_2 L xs) (cj := 9) (k0 := 19) rfl (by decide) rfl (Nat.le_of_ble_eq_true rfl) rfl rfl rfl ?_
  refine wg_aload_n (d145_5 L xs) rfl ?_
  refine wg_get (d145_6 L xs) (kd := 1) (cj := 9) (k0 := 20) rfl (Or.inl rfl) (by decide) rfl rfl ?_
  refine wg_iconst (d145_9 L xs) (x := 0) (by decide) ?_
  refine wg_iconst (d145_10 L xs) (x := 0) (by decide) ?_
  refine wg_iast (d145_11 L xs) (n := 64) (by decide) rfl (vp_in_nI (n := 0) (by omega) (by omega)) rfl ?_
  rw [show Int32.toNatClampNeg 0 = 0 from rfl]
  refine wg_iconst (d145_12 L xs) (x := 0) (by decide) ?_
  refine wg_istore_n (d145_13 L xs) (ls' := [some (.ref 141), some (.int (nI many)), some (.int (nI (bI back))), some (.int 0), none, none, none]) (Nat.le_of_ble_eq_true rfl) rfl ?_
  refine md_pp1 (s := s) hl48 (fun s1 n P m1 b19 hc hP => ?_) src.length 0 1 (fun _ => 0) _ ((mfr_I s (by decide)).trans (mfr_A _ (by decide))) (by omega) h22 rfl (holdA_of (holdA_A hsrc (by decide)) rfl) (fun k q => by rw [show k = 0 by omega]; exact mA_at _ _ _ _) rfl (by omega) (by omega) (Nat.le_refl _) (fun i a b => absurd b (by omega)) (fun k q => absurd q (by omega))
  have hn48 := pts_48 hP hl48 h0
  have hn1 := hP.2.1
  have hjp := jn_pp (many := many) (back := back) hP hn48
  have hpl := x_pp_len (src := src) (many := many) (back := back)
  rw [← hjp] at hpl ⊢
  have b22 : s1.1 141 22 = nI src.length := (m1.2.1 22 (by decide)).trans h22
  have b17 : s1.1 141 17 = nI B.length := (m1.2.1 17 (by decide)).trans h17
  have bB := m1.hold (by decide) hB
  have bs := m1.hold (by decide) hsrc
  refine wg_aload_n (d145_61 L xs) rfl ?_
  refine wg_get (d145_62 L xs) (kd := 1) (cj := 9) (k0 := 20) rfl (Or.inl rfl) (by decide) rfl rfl ?_
  refine wg_aload_n (d145_65 L xs) rfl ?_
  refine wg_get (d145_66 L xs) (kd := 1) (cj := 9) (k0 := 19) rfl (Or.inl rfl) (by decide) rfl rfl ?_
  refine wg_top (y := (nI n)) b19 ?_
  refine wg_aload_n (d145_69 L xs) rfl ?_
  refine wg_get (d145_70 L xs) (kd := 1) (cj := 9) (k0 := 22) rfl (Or.inl rfl) (by decide) rfl rfl ?_
  refine wg_top (y := (nI src.length)) b22 ?_
  refine wg_iconst (d145_73 L xs) (x := 1) (by decide) ?_
  refine wg_iadd (d145_74 L xs) ?_
  refine wg_top (y := (nI (src.length + 1))) (nI_add src.length 1) ?_
  refine wg_iast (d145_75 L xs) (n := 64) (by decide) rfl (vp_in_nI (n := n) (by omega) (by omega)) rfl ?_
  rw [nI_nat (n := n) (by omega)]
  refine wg_iload_n (d145_76 L xs) rfl ?_
  refine wn_if_eq (d145_77 L xs) (x := many) (by omega) (t := 88) (by decide) (fun h21 => ?_) (fun h21 => ?_)
  · refine wg_aload_n (d145_88 L xs) rfl ?_
    refine wg_get (d145_89 L xs) (kd := 1) (cj := 9) (k0 := 19) rfl (Or.inl rfl) (by decide) rfl rfl ?_
    refine wg_top (y := (nI n)) b19 ?_
    refine wg_goto (d145_92 L xs) (t := 96) (by decide) ?_
    refine wg_istore_n (d145_96 L xs) (ls' := [some (.ref 141), some (.int (nI many)), some (.int (nI (bI back))), some (.int (nI n)), none, none, none]) (Nat.le_of_ble_eq_true rfl) rfl ?_
    refine wg_aload_n (d145_97 L xs) rfl ?_
    refine wg_get (d145_98 L xs) (kd := 1) (cj := 9) (k0 := 19) rfl (Or.inl rfl) (by decide) rfl rfl ?_
    refine wg_top (y := (nI n)) b19 ?_
    refine wg_iload_n (d145_101 L xs) rfl ?_
    refine wg_isub (d145_102 L xs) ?_
    refine wg_top (y := (nI (n - n))) (pk_sub (a := n) (b := n) (by omega)) ?_
    refine wg_istore (d145_103 L xs) (ls' := [some (.ref 141), some (.int (nI many)), some (.int (nI (bI back))), some (.int (nI n)), some (.int (nI (n - n))), none, none]) (Nat.le_of_ble_eq_true rfl) rfl ?_
    rw [if_pos (by omega)] at hpl ⊢
    have hc2 : ∀ k, k < n + 1 → (mg_A s1 152 n (nI (src.length + 1))).2.1 152 k = nI (P k) := fun k z => by
      by_cases e : k = n
      · rw [e, hP.2.2.1]; exact mA_at _ _ _ _
      · exact (mA_ne _ _ (Or.inr e)).trans (hc k (by omega))
    cases back with
    | true =>
      have h := md_pp2t (L := L) (xs := xs) (d := d) (many := many) (nn := n) (n := n) (P := P) hl48 (by omega) (by omega) hP (n) (n - n) B (mg_A s1 152 n (nI (src.length + 1))) none none (by omega) (Nat.le_refl _) (holdA_A bs (by decide)) b19 hc2 b17 (holdA_A bB (by decide)) (by rw [if_neg (by omega), if_pos rfl, List.length_append]; exact Nat.le_trans (Nat.add_le_add_left hpl _) hcap)
      rw [if_neg (show ¬ n = 0 by omega), if_pos rfl] at h
      exact wp_mono h (fun r s' h => ⟨h.1, ((m1.more (by decide) (by decide)).trans (mfr_A _ (by decide))).trans (h.2.1.more (by decide) (by decide)), h.2.2⟩)
    | false =>
      have h := md_pp2f (L := L) (xs := xs) (d := d) (many := many) (nn := n) (n := n) (P := P) hl48 (by omega) (by omega) hP (n) (n - n) B (mg_A s1 152 n (nI (src.length + 1))) none none (by omega) (Nat.le_refl _) (holdA_A bs (by decide)) b19 hc2 b17 (holdA_A bB (by decide)) (by rw [if_neg (by omega), if_pos rfl, List.length_append]; exact Nat.le_trans (Nat.add_le_add_left hpl _) hcap)
      rw [if_neg (show ¬ n = 0 by omega), if_pos rfl] at h
      exact wp_mono h (fun r s' h => ⟨h.1, ((m1.more (by decide) (by decide)).trans (mfr_A _ (by decide))).trans (h.2.1.more (by decide) (by decide)), h.2.2⟩)
  · refine wg_iload_n (d145_80 L xs) rfl ?_
    refine wg_aload_n (d145_81 L xs) rfl ?_
    refine wg_get (d145_82 L xs) (kd := 1) (cj := 9) (k0 := 19) rfl (Or.inl rfl) (by decide) rfl rfl ?_
    refine wg_top (y := (nI n)) b19 ?_
    refine wn_icmp_le (d145_85 L xs) (x := many) (y := n) (by omega) (by omega) (t := 95) (by decide) (fun h22 => ?_) (fun h22 => ?_)
    · refine wg_iload_n (d145_95 L xs) rfl ?_
      refine wg_istore_n (d145_96 L xs) (ls' := [some (.ref 141), some (.int (nI many)), some (.int (nI (bI back))), some (.int (nI many)), none, none, none]) (Nat.le_of_ble_eq_true rfl) rfl ?_
      refine wg_aload_n (d145_97 L xs) rfl ?_
      refine wg_get (d145_98 L xs) (kd := 1) (cj := 9) (k0 := 19) rfl (Or.inl rfl) (by decide) rfl rfl ?_
      refine wg_top (y := (nI n)) b19 ?_
      refine wg_iload_n (d145_101 L xs) rfl ?_
      refine wg_isub (d145_102 L xs) ?_
      refine wg_top (y := (nI (n - many))) (pk_sub (a := n) (b := many) (by omega)) ?_
      refine wg_istore (d145_103 L xs) (ls' := [some (.ref 141), some (.int (nI many)), some (.int (nI (bI back))), some (.int (nI many)), some (.int (nI (n - many))), none, none]) (Nat.le_of_ble_eq_true rfl) rfl ?_
      rw [if_neg (by omega)] at hpl ⊢
      have hc2 : ∀ k, k < n + 1 → (mg_A s1 152 n (nI (src.length + 1))).2.1 152 k = nI (P k) := fun k z => by
        by_cases e : k = n
        · rw [e, hP.2.2.1]; exact mA_at _ _ _ _
        · exact (mA_ne _ _ (Or.inr e)).trans (hc k (by omega))
      cases back with
      | true =>
        have h := md_pp2t (L := L) (xs := xs) (d := d) (many := many) (nn := many) (n := n) (P := P) hl48 (by omega) (by omega) hP (many) (n - many) B (mg_A s1 152 n (nI (src.length + 1))) none none (by omega) (Nat.le_refl _) (holdA_A bs (by decide)) b19 hc2 b17 (holdA_A bB (by decide)) (by rw [if_neg (by omega), if_pos rfl, List.length_append]; exact Nat.le_trans (Nat.add_le_add_left hpl _) hcap)
        rw [if_neg (show ¬ many = 0 by omega), if_pos rfl] at h
        exact wp_mono h (fun r s' h => ⟨h.1, ((m1.more (by decide) (by decide)).trans (mfr_A _ (by decide))).trans (h.2.1.more (by decide) (by decide)), h.2.2⟩)
      | false =>
        have h := md_pp2f (L := L) (xs := xs) (d := d) (many := many) (nn := many) (n := n) (P := P) hl48 (by omega) (by omega) hP (many) (n - many) B (mg_A s1 152 n (nI (src.length + 1))) none none (by omega) (Nat.le_refl _) (holdA_A bs (by decide)) b19 hc2 b17 (holdA_A bB (by decide)) (by rw [if_neg (by omega), if_pos rfl, List.length_append]; exact Nat.le_trans (Nat.add_le_add_left hpl _) hcap)
        rw [if_neg (show ¬ many = 0 by omega), if_pos rfl] at h
        exact wp_mono h (fun r s' h => ⟨h.1, ((m1.more (by decide) (by decide)).trans (mfr_A _ (by decide))).trans (h.2.1.more (by decide) (by decide)), h.2.2⟩)
    · refine wg_aload_n (d145_88 L xs) rfl ?_
      refine wg_get (d145_89 L xs) (kd := 1) (cj := 9) (k0 := 19) rfl (Or.inl rfl) (by decide) rfl rfl ?_
      refine wg_top (y := (nI n)) b19 ?_
      refine wg_goto (d145_92 L xs) (t := 96) (by decide) ?_
      refine wg_istore_n (d145_96 L xs) (ls' := [some (.ref 141), some (.int (nI many)), some (.int (nI (bI back))), some (.int (nI n)), none, none, none]) (Nat.le_of_ble_eq_true rfl) rfl ?_
      refine wg_aload_n (d145_97 L xs) rfl ?_
      refine wg_get (d145_98 L xs) (kd := 1) (cj := 9) (k0 := 19) rfl (Or.inl rfl) (by decide) rfl rfl ?_
      refine wg_top (y := (nI n)) b19 ?_
      refine wg_iload_n (d145_101 L xs) rfl ?_
      refine wg_isub (d145_102 L xs) ?_
      refine wg_top (y := (nI (n - n))) (pk_sub (a := n) (b := n) (by omega)) ?_
      refine wg_istore (d145_103 L xs) (ls' := [some (.ref 141), some (.int (nI many)), some (.int (nI (bI back))), some (.int (nI n)), some (.int (nI (n - n))), none, none]) (Nat.le_of_ble_eq_true rfl) rfl ?_
      rw [if_pos (by omega)] at hpl ⊢
      have hc2 : ∀ k, k < n + 1 → (mg_A s1 152 n (nI (src.length + 1))).2.1 152 k = nI (P k) := fun k z => by
        by_cases e : k = n
        · rw [e, hP.2.2.1]; exact mA_at _ _ _ _
        · exact (mA_ne _ _ (Or.inr e)).trans (hc k (by omega))
      cases back with
      | true =>
        have h := md_pp2t (L := L) (xs := xs) (d := d) (many := many) (nn := n) (n := n) (P := P) hl48 (by omega) (by omega) hP (n) (n - n) B (mg_A s1 152 n (nI (src.length + 1))) none none (by omega) (Nat.le_refl _) (holdA_A bs (by decide)) b19 hc2 b17 (holdA_A bB (by decide)) (by rw [if_neg (by omega), if_pos rfl, List.length_append]; exact Nat.le_trans (Nat.add_le_add_left hpl _) hcap)
        rw [if_neg (show ¬ n = 0 by omega), if_pos rfl] at h
        exact wp_mono h (fun r s' h => ⟨h.1, ((m1.more (by decide) (by decide)).trans (mfr_A _ (by decide))).trans (h.2.1.more (by decide) (by decide)), h.2.2⟩)
      | false =>
        have h := md_pp2f (L := L) (xs := xs) (d := d) (many := many) (nn := n) (n := n) (P := P) hl48 (by omega) (by omega) hP (n) (n - n) B (mg_A s1 152 n (nI (src.length + 1))) none none (by omega) (Nat.le_refl _) (holdA_A bs (by decide)) b19 hc2 b17 (holdA_A bB (by decide)) (by rw [if_neg (by omega), if_pos rfl, List.length_append]; exact Nat.le_trans (Nat.add_le_add_left hpl _) hcap)
        rw [if_neg (show ¬ n = 0 by omega), if_pos rfl] at h
        exact wp_mono h (fun r s' h => ⟨h.1, ((m1.more (by decide) (by decide)).trans (mfr_A _ (by decide))).trans (h.2.1.more (by decide) (by decide)), h.2.2⟩)
end KP
