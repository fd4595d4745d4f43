/-! the reference: ends of names, policies sought -/
theorem d157_0 (L : Nat) (xs : Nat → Int32) : decode (ax_code (mgT L xs) 157) 0 = .ok (.aload_n 0, 1) := by
  show decode prog_11_method_57_code 0 = _
  decide +kernel
theorem d157_1 (L : Nat) (xs : Nat → Int32) : decode (ax_code (mgT L xs) 157) 1 = .ok (.getfield 28, 3) := by
  show decode prog_11_method_57_code 1 = _
  decide +kernel
theorem d157_4 (L : Nat) (xs : Nat → Int32) : decode (ax_code (mgT L xs) 157) 4 = .ok (.iconst 0, 1) := by
  show decode prog_11_method_57_code 4 = _
  decide +kernel
theorem d157_5 (L : Nat) (xs : Nat → Int32) : decode (ax_code (mgT L xs) 157) 5 = .ok (.bipush 95, 2) := by
  show decode prog_11_method_57_code 5 = _
  decide +kernel
theorem d157_7 (L : Nat) (xs : Nat → Int32) : decode (ax_code (mgT L xs) 157) 7 = .ok (.iastore, 1) := by
  show decode prog_11_method_57_code 7 = _
  decide +kernel
theorem d157_8 (L : Nat) (xs : Nat → Int32) : decode (ax_code (mgT L xs) 157) 8 = .ok (.aload_n 0, 1) := by
  show decode prog_11_method_57_code 8 = _
  decide +kernel
theorem d157_9 (L : Nat) (xs : Nat → Int32) : decode (ax_code (mgT L xs) 157) 9 = .ok (.getfield 28, 3) := by
  show decode prog_11_method_57_code 9 = _
  decide +kernel
theorem d157_12 (L : Nat) (xs : Nat → Int32) : decode (ax_code (mgT L xs) 157) 12 = .ok (.iconst 1, 1) := by
  show decode prog_11_method_57_code 12 = _
  decide +kernel
theorem d157_13 (L : Nat) (xs : Nat → Int32) : decode (ax_code (mgT L xs) 157) 13 = .ok (.bipush 100, 2) := by
  show decode prog_11_method_57_code 13 = _
  decide +kernel
theorem d157_15 (L : Nat) (xs : Nat → Int32) : decode (ax_code (mgT L xs) 157) 15 = .ok (.iastore, 1) := by
  show decode prog_11_method_57_code 15 = _
  decide +kernel
theorem d157_16 (L : Nat) (xs : Nat → Int32) : decode (ax_code (mgT L xs) 157) 16 = .ok (.aload_n 0, 1) := by
  show decode prog_11_method_57_code 16 = _
  decide +kernel
theorem d157_17 (L : Nat) (xs : Nat → Int32) : decode (ax_code (mgT L xs) 157) 17 = .ok (.getfield 28, 3) := by
  show decode prog_11_method_57_code 17 = _
  decide +kernel
theorem d157_20 (L : Nat) (xs : Nat → Int32) : decode (ax_code (mgT L xs) 157) 20 = .ok (.iconst 2, 1) := by
  show decode prog_11_method_57_code 20 = _
  decide +kernel
theorem d157_21 (L : Nat) (xs : Nat → Int32) : decode (ax_code (mgT L xs) 157) 21 = .ok (.bipush 109, 2) := by
  show decode prog_11_method_57_code 21 = _
  decide +kernel
theorem d157_23 (L : Nat) (xs : Nat → Int32) : decode (ax_code (mgT L xs) 157) 23 = .ok (.iastore, 1) := by
  show decode prog_11_method_57_code 23 = _
  decide +kernel
theorem d157_24 (L : Nat) (xs : Nat → Int32) : decode (ax_code (mgT L xs) 157) 24 = .ok (.aload_n 0, 1) := by
  show decode prog_11_method_57_code 24 = _
  decide +kernel
theorem d157_25 (L : Nat) (xs : Nat → Int32) : decode (ax_code (mgT L xs) 157) 25 = .ok (.getfield 28, 3) := by
  show decode prog_11_method_57_code 25 = _
  decide +kernel
theorem d157_28 (L : Nat) (xs : Nat → Int32) : decode (ax_code (mgT L xs) 157) 28 = .ok (.iconst 3, 1) := by
  show decode prog_11_method_57_code 28 = _
  decide +kernel
theorem d157_29 (L : Nat) (xs : Nat → Int32) : decode (ax_code (mgT L xs) 157) 29 = .ok (.bipush 97, 2) := by
  show decode prog_11_method_57_code 29 = _
  decide +kernel
theorem d157_31 (L : Nat) (xs : Nat → Int32) : decode (ax_code (mgT L xs) 157) 31 = .ok (.iastore, 1) := by
  show decode prog_11_method_57_code 31 = _
  decide +kernel
theorem d157_32 (L : Nat) (xs : Nat → Int32) : decode (ax_code (mgT L xs) 157) 32 = .ok (.aload_n 0, 1) := by
  show decode prog_11_method_57_code 32 = _
  decide +kernel
theorem d157_33 (L : Nat) (xs : Nat → Int32) : decode (ax_code (mgT L xs) 157) 33 = .ok (.getfield 28, 3) := by
  show decode prog_11_method_57_code 33 = _
  decide +kernel
theorem d157_36 (L : Nat) (xs : Nat → Int32) : decode (ax_code (mgT L xs) 157) 36 = .ok (.iconst 4, 1) := by
  show decode prog_11_method_57_code 36 = _
  decide +kernel
theorem d157_37 (L : Nat) (xs : Nat → Int32) : decode (ax_code (mgT L xs) 157) 37 = .ok (.bipush 114, 2) := by
  show decode prog_11_method_57_code 37 = _
  decide +kernel
theorem d157_39 (L : Nat) (xs : Nat → Int32) : decode (ax_code (mgT L xs) 157) 39 = .ok (.iastore, 1) := by
  show decode prog_11_method_57_code 39 = _
  decide +kernel
theorem d157_40 (L : Nat) (xs : Nat → Int32) : decode (ax_code (mgT L xs) 157) 40 = .ok (.aload_n 0, 1) := by
  show decode prog_11_method_57_code 40 = _
  decide +kernel
theorem d157_41 (L : Nat) (xs : Nat → Int32) : decode (ax_code (mgT L xs) 157) 41 = .ok (.getfield 28, 3) := by
  show decode prog_11_method_57_code 41 = _
  decide +kernel
theorem d157_44 (L : Nat) (xs : Nat → Int32) : decode (ax_code (mgT L xs) 157) 44 = .ok (.iconst 5, 1) := by
  show decode prog_11_method_57_code 44 = _
  decide +kernel
theorem d157_45 (L : Nat) (xs : Nat → Int32) : decode (ax_code (mgT L xs) 157) 45 = .ok (.bipush 99, 2) := by
  show decode prog_11_method_57_code 45 = _
  decide +kernel
theorem d157_47 (L : Nat) (xs : Nat → Int32) : decode (ax_code (mgT L xs) 157) 47 = .ok (.iastore, 1) := by
  show decode prog_11_method_57_code 47 = _
  decide +kernel
theorem d157_48 (L : Nat) (xs : Nat → Int32) : decode (ax_code (mgT L xs) 157) 48 = .ok (.aload_n 0, 1) := by
  show decode prog_11_method_57_code 48 = _
  decide +kernel
theorem d157_49 (L : Nat) (xs : Nat → Int32) : decode (ax_code (mgT L xs) 157) 49 = .ok (.getfield 28, 3) := by
  show decode prog_11_method_57_code 49 = _
  decide +kernel
theorem d157_52 (L : Nat) (xs : Nat → Int32) : decode (ax_code (mgT L xs) 157) 52 = .ok (.bipush 6, 2) := by
  show decode prog_11_method_57_code 52 = _
  decide +kernel
theorem d157_54 (L : Nat) (xs : Nat → Int32) : decode (ax_code (mgT L xs) 157) 54 = .ok (.bipush 46, 2) := by
  show decode prog_11_method_57_code 54 = _
  decide +kernel
theorem d157_56 (L : Nat) (xs : Nat → Int32) : decode (ax_code (mgT L xs) 157) 56 = .ok (.iastore, 1) := by
  show decode prog_11_method_57_code 56 = _
  decide +kernel
theorem d157_57 (L : Nat) (xs : Nat → Int32) : decode (ax_code (mgT L xs) 157) 57 = .ok (.iload_n 2, 1) := by
  show decode prog_11_method_57_code 57 = _
  decide +kernel
theorem d157_58 (L : Nat) (xs : Nat → Int32) : decode (ax_code (mgT L xs) 157) 58 = .ok (.istore 4, 2) := by
  show decode prog_11_method_57_code 58 = _
  decide +kernel
theorem d157_60 (L : Nat) (xs : Nat → Int32) : decode (ax_code (mgT L xs) 157) 60 = .ok (.iload 4, 2) := by
  show decode prog_11_method_57_code 60 = _
  decide +kernel
theorem d157_62 (L : Nat) (xs : Nat → Int32) : decode (ax_code (mgT L xs) 157) 62 = .ok (.iload_n 3, 1) := by
  show decode prog_11_method_57_code 62 = _
  decide +kernel
theorem d157_63 (L : Nat) (xs : Nat → Int32) : decode (ax_code (mgT L xs) 157) 63 = .ok (.if_icmp .ge 25, 3) := by
  show decode prog_11_method_57_code 63 = _
  decide +kernel
theorem d157_66 (L : Nat) (xs : Nat → Int32) : decode (ax_code (mgT L xs) 157) 66 = .ok (.aload_n 0, 1) := by
  show decode prog_11_method_57_code 66 = _
  decide +kernel
theorem d157_67 (L : Nat) (xs : Nat → Int32) : decode (ax_code (mgT L xs) 157) 67 = .ok (.getfield 28, 3) := by
  show decode prog_11_method_57_code 67 = _
  decide +kernel
theorem d157_70 (L : Nat) (xs : Nat → Int32) : decode (ax_code (mgT L xs) 157) 70 = .ok (.bipush 7, 2) := by
  show decode prog_11_method_57_code 70 = _
  decide +kernel
theorem d157_72 (L : Nat) (xs : Nat → Int32) : decode (ax_code (mgT L xs) 157) 72 = .ok (.iload 4, 2) := by
  show decode prog_11_method_57_code 72 = _
  decide +kernel
theorem d157_74 (L : Nat) (xs : Nat → Int32) : decode (ax_code (mgT L xs) 157) 74 = .ok (.iadd, 1) := by
  show decode prog_11_method_57_code 74 = _
  decide +kernel
theorem d157_75 (L : Nat) (xs : Nat → Int32) : decode (ax_code (mgT L xs) 157) 75 = .ok (.iload_n 2, 1) := by
  show decode prog_11_method_57_code 75 = _
  decide +kernel
theorem d157_76 (L : Nat) (xs : Nat → Int32) : decode (ax_code (mgT L xs) 157) 76 = .ok (.isub, 1) := by
  show decode prog_11_method_57_code 76 = _
  decide +kernel
theorem d157_77 (L : Nat) (xs : Nat → Int32) : decode (ax_code (mgT L xs) 157) 77 = .ok (.aload_n 1, 1) := by
  show decode prog_11_method_57_code 77 = _
  decide +kernel
theorem d157_78 (L : Nat) (xs : Nat → Int32) : decode (ax_code (mgT L xs) 157) 78 = .ok (.iload 4, 2) := by
  show decode prog_11_method_57_code 78 = _
  decide +kernel
theorem d157_80 (L : Nat) (xs : Nat → Int32) : decode (ax_code (mgT L xs) 157) 80 = .ok (.iaload, 1) := by
  show decode prog_11_method_57_code 80 = _
  decide +kernel
theorem d157_81 (L : Nat) (xs : Nat → Int32) : decode (ax_code (mgT L xs) 157) 81 = .ok (.iastore, 1) := by
  show decode prog_11_method_57_code 81 = _
  decide +kernel
theorem d157_82 (L : Nat) (xs : Nat → Int32) : decode (ax_code (mgT L xs) 157) 82 = .ok (.iinc 4 1, 3) := by
  show decode prog_11_method_57_code 82 = _
  decide +kernel
theorem d157_85 (L : Nat) (xs : Nat → Int32) : decode (ax_code (mgT L xs) 157) 85 = .ok (.goto (-25), 3) := by
  show decode prog_11_method_57_code 85 = _
  decide +kernel
theorem d157_88 (L : Nat) (xs : Nat → Int32) : decode (ax_code (mgT L xs) 157) 88 = .ok (.aload_n 0, 1) := by
  show decode prog_11_method_57_code 88 = _
  decide +kernel
theorem d157_89 (L : Nat) (xs : Nat → Int32) : decode (ax_code (mgT L xs) 157) 89 = .ok (.bipush 7, 2) := by
  show decode prog_11_method_57_code 89 = _
  decide +kernel
theorem d157_91 (L : Nat) (xs : Nat → Int32) : decode (ax_code (mgT L xs) 157) 91 = .ok (.iload_n 3, 1) := by
  show decode prog_11_method_57_code 91 = _
  decide +kernel
theorem d157_92 (L : Nat) (xs : Nat → Int32) : decode (ax_code (mgT L xs) 157) 92 = .ok (.iadd, 1) := by
  show decode prog_11_method_57_code 92 = _
  decide +kernel
theorem d157_93 (L : Nat) (xs : Nat → Int32) : decode (ax_code (mgT L xs) 157) 93 = .ok (.iload_n 2, 1) := by
  show decode prog_11_method_57_code 93 = _
  decide +kernel
theorem d157_94 (L : Nat) (xs : Nat → Int32) : decode (ax_code (mgT L xs) 157) 94 = .ok (.isub, 1) := by
  show decode prog_11_method_57_code 94 = _
  decide +kernel
theorem d157_95 (L : Nat) (xs : Nat → Int32) : decode (ax_code (mgT L xs) 157) 95 = .ok (.putfield 114, 3) := by
  show decode prog_11_method_57_code 95 = _
  decide +kernel
theorem d157_98 (L : Nat) (xs : Nat → Int32) : decode (ax_code (mgT L xs) 157) 98 = .ok (.aload_n 0, 1) := by
  show decode prog_11_method_57_code 98 = _
  decide +kernel
theorem d157_99 (L : Nat) (xs : Nat → Int32) : decode (ax_code (mgT L xs) 157) 99 = .ok (.iconst 2, 1) := by
  show decode prog_11_method_57_code 99 = _
  decide +kernel
theorem d157_100 (L : Nat) (xs : Nat → Int32) : decode (ax_code (mgT L xs) 157) 100 = .ok (.invokevirtual 212, 3) := by
  show decode prog_11_method_57_code 100 = _
  decide +kernel
theorem d157_103 (L : Nat) (xs : Nat → Int32) : decode (ax_code (mgT L xs) 157) 103 = .ok (.ifCond .ne 5, 3) := by
  show decode prog_11_method_57_code 103 = _
  decide +kernel
theorem d157_106 (L : Nat) (xs : Nat → Int32) : decode (ax_code (mgT L xs) 157) 106 = .ok (.iconst (-1), 1) := by
  show decode prog_11_method_57_code 106 = _
  decide +kernel
theorem d157_107 (L : Nat) (xs : Nat → Int32) : decode (ax_code (mgT L xs) 157) 107 = .ok (.ireturn, 1) := by
  show decode prog_11_method_57_code 107 = _
  decide +kernel
theorem d157_108 (L : Nat) (xs : Nat → Int32) : decode (ax_code (mgT L xs) 157) 108 = .ok (.iconst 0, 1) := by
  show decode prog_11_method_57_code 108 = _
  decide +kernel
theorem d157_109 (L : Nat) (xs : Nat → Int32) : decode (ax_code (mgT L xs) 157) 109 = .ok (.istore 4, 2) := by
  show decode prog_11_method_57_code 109 = _
  decide +kernel
theorem d157_111 (L : Nat) (xs : Nat → Int32) : decode (ax_code (mgT L xs) 157) 111 = .ok (.iconst 0, 1) := by
  show decode prog_11_method_57_code 111 = _
  decide +kernel
theorem d157_112 (L : Nat) (xs : Nat → Int32) : decode (ax_code (mgT L xs) 157) 112 = .ok (.istore 5, 2) := by
  show decode prog_11_method_57_code 112 = _
  decide +kernel
theorem d157_114 (L : Nat) (xs : Nat → Int32) : decode (ax_code (mgT L xs) 157) 114 = .ok (.iconst 0, 1) := by
  show decode prog_11_method_57_code 114 = _
  decide +kernel
theorem d157_115 (L : Nat) (xs : Nat → Int32) : decode (ax_code (mgT L xs) 157) 115 = .ok (.istore 6, 2) := by
  show decode prog_11_method_57_code 115 = _
  decide +kernel
theorem d157_117 (L : Nat) (xs : Nat → Int32) : decode (ax_code (mgT L xs) 157) 117 = .ok (.iload 6, 2) := by
  show decode prog_11_method_57_code 117 = _
  decide +kernel
theorem d157_119 (L : Nat) (xs : Nat → Int32) : decode (ax_code (mgT L xs) 157) 119 = .ok (.aload_n 0, 1) := by
  show decode prog_11_method_57_code 119 = _
  decide +kernel
theorem d157_120 (L : Nat) (xs : Nat → Int32) : decode (ax_code (mgT L xs) 157) 120 = .ok (.getfield 124, 3) := by
  show decode prog_11_method_57_code 120 = _
  decide +kernel
theorem d157_123 (L : Nat) (xs : Nat → Int32) : decode (ax_code (mgT L xs) 157) 123 = .ok (.if_icmp .ge 35, 3) := by
  show decode prog_11_method_57_code 123 = _
  decide +kernel
theorem d157_126 (L : Nat) (xs : Nat → Int32) : decode (ax_code (mgT L xs) 157) 126 = .ok (.aload_n 0, 1) := by
  show decode prog_11_method_57_code 126 = _
  decide +kernel
theorem d157_127 (L : Nat) (xs : Nat → Int32) : decode (ax_code (mgT L xs) 157) 127 = .ok (.aload_n 0, 1) := by
  show decode prog_11_method_57_code 127 = _
  decide +kernel
theorem d157_128 (L : Nat) (xs : Nat → Int32) : decode (ax_code (mgT L xs) 157) 128 = .ok (.getfield 34, 3) := by
  show decode prog_11_method_57_code 128 = _
  decide +kernel
theorem d157_131 (L : Nat) (xs : Nat → Int32) : decode (ax_code (mgT L xs) 157) 131 = .ok (.iload 6, 2) := by
  show decode prog_11_method_57_code 131 = _
  decide +kernel
theorem d157_133 (L : Nat) (xs : Nat → Int32) : decode (ax_code (mgT L xs) 157) 133 = .ok (.iaload, 1) := by
  show decode prog_11_method_57_code 133 = _
  decide +kernel
theorem d157_134 (L : Nat) (xs : Nat → Int32) : decode (ax_code (mgT L xs) 157) 134 = .ok (.invokevirtual 308, 3) := by
  show decode prog_11_method_57_code 134 = _
  decide +kernel
theorem d157_137 (L : Nat) (xs : Nat → Int32) : decode (ax_code (mgT L xs) 157) 137 = .ok (.ifCond .eq 15, 3) := by
  show decode prog_11_method_57_code 137 = _
  decide +kernel
theorem d157_140 (L : Nat) (xs : Nat → Int32) : decode (ax_code (mgT L xs) 157) 140 = .ok (.iinc 4 1, 3) := by
  show decode prog_11_method_57_code 140 = _
  decide +kernel
theorem d157_143 (L : Nat) (xs : Nat → Int32) : decode (ax_code (mgT L xs) 157) 143 = .ok (.aload_n 0, 1) := by
  show decode prog_11_method_57_code 143 = _
  decide +kernel
theorem d157_144 (L : Nat) (xs : Nat → Int32) : decode (ax_code (mgT L xs) 157) 144 = .ok (.getfield 34, 3) := by
  show decode prog_11_method_57_code 144 = _
  decide +kernel
theorem d157_147 (L : Nat) (xs : Nat → Int32) : decode (ax_code (mgT L xs) 157) 147 = .ok (.iload 6, 2) := by
  show decode prog_11_method_57_code 147 = _
  decide +kernel
theorem d157_149 (L : Nat) (xs : Nat → Int32) : decode (ax_code (mgT L xs) 157) 149 = .ok (.iaload, 1) := by
  show decode prog_11_method_57_code 149 = _
  decide +kernel
theorem d157_150 (L : Nat) (xs : Nat → Int32) : decode (ax_code (mgT L xs) 157) 150 = .ok (.istore 5, 2) := by
  show decode prog_11_method_57_code 150 = _
  decide +kernel
theorem d157_152 (L : Nat) (xs : Nat → Int32) : decode (ax_code (mgT L xs) 157) 152 = .ok (.iinc 6 1, 3) := by
  show decode prog_11_method_57_code 152 = _
  decide +kernel
theorem d157_155 (L : Nat) (xs : Nat → Int32) : decode (ax_code (mgT L xs) 157) 155 = .ok (.goto (-38), 3) := by
  show decode prog_11_method_57_code 155 = _
  decide +kernel
theorem d157_158 (L : Nat) (xs : Nat → Int32) : decode (ax_code (mgT L xs) 157) 158 = .ok (.iload 4, 2) := by
  show decode prog_11_method_57_code 158 = _
  decide +kernel
theorem d157_160 (L : Nat) (xs : Nat → Int32) : decode (ax_code (mgT L xs) 157) 160 = .ok (.iconst 1, 1) := by
  show decode prog_11_method_57_code 160 = _
  decide +kernel
theorem d157_161 (L : Nat) (xs : Nat → Int32) : decode (ax_code (mgT L xs) 157) 161 = .ok (.if_icmp .ne 16, 3) := by
  show decode prog_11_method_57_code 161 = _
  decide +kernel
theorem d157_164 (L : Nat) (xs : Nat → Int32) : decode (ax_code (mgT L xs) 157) 164 = .ok (.aload_n 0, 1) := by
  show decode prog_11_method_57_code 164 = _
  decide +kernel
theorem d157_165 (L : Nat) (xs : Nat → Int32) : decode (ax_code (mgT L xs) 157) 165 = .ok (.iload 5, 2) := by
  show decode prog_11_method_57_code 165 = _
  decide +kernel
theorem d157_167 (L : Nat) (xs : Nat → Int32) : decode (ax_code (mgT L xs) 157) 167 = .ok (.invokevirtual 308, 3) := by
  show decode prog_11_method_57_code 167 = _
  decide +kernel
theorem d157_170 (L : Nat) (xs : Nat → Int32) : decode (ax_code (mgT L xs) 157) 170 = .ok (.ifCond .eq 7, 3) := by
  show decode prog_11_method_57_code 170 = _
  decide +kernel
theorem d157_173 (L : Nat) (xs : Nat → Int32) : decode (ax_code (mgT L xs) 157) 173 = .ok (.iconst 1, 1) := by
  show decode prog_11_method_57_code 173 = _
  decide +kernel
theorem d157_174 (L : Nat) (xs : Nat → Int32) : decode (ax_code (mgT L xs) 157) 174 = .ok (.goto 4, 3) := by
  show decode prog_11_method_57_code 174 = _
  decide +kernel
theorem d157_177 (L : Nat) (xs : Nat → Int32) : decode (ax_code (mgT L xs) 157) 177 = .ok (.iconst 0, 1) := by
  show decode prog_11_method_57_code 177 = _
  decide +kernel
theorem d157_178 (L : Nat) (xs : Nat → Int32) : decode (ax_code (mgT L xs) 157) 178 = .ok (.istore 6, 2) := by
  show decode prog_11_method_57_code 178 = _
  decide +kernel
theorem d157_180 (L : Nat) (xs : Nat → Int32) : decode (ax_code (mgT L xs) 157) 180 = .ok (.iload 6, 2) := by
  show decode prog_11_method_57_code 180 = _
  decide +kernel
theorem d157_182 (L : Nat) (xs : Nat → Int32) : decode (ax_code (mgT L xs) 157) 182 = .ok (.ifCond .eq 7, 3) := by
  show decode prog_11_method_57_code 182 = _
  decide +kernel
theorem d157_185 (L : Nat) (xs : Nat → Int32) : decode (ax_code (mgT L xs) 157) 185 = .ok (.iconst 1, 1) := by
  show decode prog_11_method_57_code 185 = _
  decide +kernel
theorem d157_186 (L : Nat) (xs : Nat → Int32) : decode (ax_code (mgT L xs) 157) 186 = .ok (.goto 4, 3) := by
  show decode prog_11_method_57_code 186 = _
  decide +kernel
theorem d157_189 (L : Nat) (xs : Nat → Int32) : decode (ax_code (mgT L xs) 157) 189 = .ok (.iconst 0, 1) := by
  show decode prog_11_method_57_code 189 = _
  decide +kernel
theorem d157_190 (L : Nat) (xs : Nat → Int32) : decode (ax_code (mgT L xs) 157) 190 = .ok (.ireturn, 1) := by
  show decode prog_11_method_57_code 190 = _
  decide +kernel
theorem d162_0 (L : Nat) (xs : Nat → Int32) : decode (ax_code (mgT L xs) 162) 0 = .ok (.iload_n 2, 1) := by
  show decode prog_11_method_58_code 0 = _
  decide +kernel
theorem d162_1 (L : Nat) (xs : Nat → Int32) : decode (ax_code (mgT L xs) 162) 1 = .ok (.iload_n 1, 1) := by
  show decode prog_11_method_58_code 1 = _
  decide +kernel
theorem d162_2 (L : Nat) (xs : Nat → Int32) : decode (ax_code (mgT L xs) 162) 2 = .ok (.isub, 1) := by
  show decode prog_11_method_58_code 2 = _
  decide +kernel
theorem d162_3 (L : Nat) (xs : Nat → Int32) : decode (ax_code (mgT L xs) 162) 3 = .ok (.iload 5, 2) := by
  show decode prog_11_method_58_code 3 = _
  decide +kernel
theorem d162_5 (L : Nat) (xs : Nat → Int32) : decode (ax_code (mgT L xs) 162) 5 = .ok (.iload 4, 2) := by
  show decode prog_11_method_58_code 5 = _
  decide +kernel
theorem d162_7 (L : Nat) (xs : Nat → Int32) : decode (ax_code (mgT L xs) 162) 7 = .ok (.isub, 1) := by
  show decode prog_11_method_58_code 7 = _
  decide +kernel
theorem d162_8 (L : Nat) (xs : Nat → Int32) : decode (ax_code (mgT L xs) 162) 8 = .ok (.if_icmp .ne 7, 3) := by
  show decode prog_11_method_58_code 8 = _
  decide +kernel
theorem d162_11 (L : Nat) (xs : Nat → Int32) : decode (ax_code (mgT L xs) 162) 11 = .ok (.iconst 1, 1) := by
  show decode prog_11_method_58_code 11 = _
  decide +kernel
theorem d162_12 (L : Nat) (xs : Nat → Int32) : decode (ax_code (mgT L xs) 162) 12 = .ok (.goto 4, 3) := by
  show decode prog_11_method_58_code 12 = _
  decide +kernel
theorem d162_15 (L : Nat) (xs : Nat → Int32) : decode (ax_code (mgT L xs) 162) 15 = .ok (.iconst 0, 1) := by
  show decode prog_11_method_58_code 15 = _
  decide +kernel
theorem d162_16 (L : Nat) (xs : Nat → Int32) : decode (ax_code (mgT L xs) 162) 16 = .ok (.istore 6, 2) := by
  show decode prog_11_method_58_code 16 = _
  decide +kernel
theorem d162_18 (L : Nat) (xs : Nat → Int32) : decode (ax_code (mgT L xs) 162) 18 = .ok (.iconst 0, 1) := by
  show decode prog_11_method_58_code 18 = _
  decide +kernel
theorem d162_19 (L : Nat) (xs : Nat → Int32) : decode (ax_code (mgT L xs) 162) 19 = .ok (.istore 7, 2) := by
  show decode prog_11_method_58_code 19 = _
  decide +kernel
theorem d162_21 (L : Nat) (xs : Nat → Int32) : decode (ax_code (mgT L xs) 162) 21 = .ok (.iload 7, 2) := by
  show decode prog_11_method_58_code 21 = _
  decide +kernel
theorem d162_23 (L : Nat) (xs : Nat → Int32) : decode (ax_code (mgT L xs) 162) 23 = .ok (.iload_n 2, 1) := by
  show decode prog_11_method_58_code 23 = _
  decide +kernel
theorem d162_24 (L : Nat) (xs : Nat → Int32) : decode (ax_code (mgT L xs) 162) 24 = .ok (.iload_n 1, 1) := by
  show decode prog_11_method_58_code 24 = _
  decide +kernel
theorem d162_25 (L : Nat) (xs : Nat → Int32) : decode (ax_code (mgT L xs) 162) 25 = .ok (.isub, 1) := by
  show decode prog_11_method_58_code 25 = _
  decide +kernel
theorem d162_26 (L : Nat) (xs : Nat → Int32) : decode (ax_code (mgT L xs) 162) 26 = .ok (.if_icmp .ge 37, 3) := by
  show decode prog_11_method_58_code 26 = _
  decide +kernel
theorem d162_29 (L : Nat) (xs : Nat → Int32) : decode (ax_code (mgT L xs) 162) 29 = .ok (.iload 6, 2) := by
  show decode prog_11_method_58_code 29 = _
  decide +kernel
theorem d162_31 (L : Nat) (xs : Nat → Int32) : decode (ax_code (mgT L xs) 162) 31 = .ok (.ifCond .eq 32, 3) := by
  show decode prog_11_method_58_code 31 = _
  decide +kernel
theorem d162_34 (L : Nat) (xs : Nat → Int32) : decode (ax_code (mgT L xs) 162) 34 = .ok (.aload_n 0, 1) := by
  show decode prog_11_method_58_code 34 = _
  decide +kernel
theorem d162_35 (L : Nat) (xs : Nat → Int32) : decode (ax_code (mgT L xs) 162) 35 = .ok (.iload_n 1, 1) := by
  show decode prog_11_method_58_code 35 = _
  decide +kernel
theorem d162_36 (L : Nat) (xs : Nat → Int32) : decode (ax_code (mgT L xs) 162) 36 = .ok (.iload 7, 2) := by
  show decode prog_11_method_58_code 36 = _
  decide +kernel
theorem d162_38 (L : Nat) (xs : Nat → Int32) : decode (ax_code (mgT L xs) 162) 38 = .ok (.iadd, 1) := by
  show decode prog_11_method_58_code 38 = _
  decide +kernel
theorem d162_39 (L : Nat) (xs : Nat → Int32) : decode (ax_code (mgT L xs) 162) 39 = .ok (.iaload, 1) := by
  show decode prog_11_method_58_code 39 = _
  decide +kernel
theorem d162_40 (L : Nat) (xs : Nat → Int32) : decode (ax_code (mgT L xs) 162) 40 = .ok (.aload_n 3, 1) := by
  show decode prog_11_method_58_code 40 = _
  decide +kernel
theorem d162_41 (L : Nat) (xs : Nat → Int32) : decode (ax_code (mgT L xs) 162) 41 = .ok (.iload 4, 2) := by
  show decode prog_11_method_58_code 41 = _
  decide +kernel
theorem d162_43 (L : Nat) (xs : Nat → Int32) : decode (ax_code (mgT L xs) 162) 43 = .ok (.iload 7, 2) := by
  show decode prog_11_method_58_code 43 = _
  decide +kernel
theorem d162_45 (L : Nat) (xs : Nat → Int32) : decode (ax_code (mgT L xs) 162) 45 = .ok (.iadd, 1) := by
  show decode prog_11_method_58_code 45 = _
  decide +kernel
theorem d162_46 (L : Nat) (xs : Nat → Int32) : decode (ax_code (mgT L xs) 162) 46 = .ok (.iaload, 1) := by
  show decode prog_11_method_58_code 46 = _
  decide +kernel
theorem d162_47 (L : Nat) (xs : Nat → Int32) : decode (ax_code (mgT L xs) 162) 47 = .ok (.if_icmp .ne 7, 3) := by
  show decode prog_11_method_58_code 47 = _
  decide +kernel
theorem d162_50 (L : Nat) (xs : Nat → Int32) : decode (ax_code (mgT L xs) 162) 50 = .ok (.iconst 1, 1) := by
  show decode prog_11_method_58_code 50 = _
  decide +kernel
theorem d162_51 (L : Nat) (xs : Nat → Int32) : decode (ax_code (mgT L xs) 162) 51 = .ok (.goto 4, 3) := by
  show decode prog_11_method_58_code 51 = _
  decide +kernel
theorem d162_54 (L : Nat) (xs : Nat → Int32) : decode (ax_code (mgT L xs) 162) 54 = .ok (.iconst 0, 1) := by
  show decode prog_11_method_58_code 54 = _
  decide +kernel
theorem d162_55 (L : Nat) (xs : Nat → Int32) : decode (ax_code (mgT L xs) 162) 55 = .ok (.istore 6, 2) := by
  show decode prog_11_method_58_code 55 = _
  decide +kernel
theorem d162_57 (L : Nat) (xs : Nat → Int32) : decode (ax_code (mgT L xs) 162) 57 = .ok (.iinc 7 1, 3) := by
  show decode prog_11_method_58_code 57 = _
  decide +kernel
theorem d162_60 (L : Nat) (xs : Nat → Int32) : decode (ax_code (mgT L xs) 162) 60 = .ok (.goto (-39), 3) := by
  show decode prog_11_method_58_code 60 = _
  decide +kernel
theorem d162_63 (L : Nat) (xs : Nat → Int32) : decode (ax_code (mgT L xs) 162) 63 = .ok (.iload 6, 2) := by
  show decode prog_11_method_58_code 63 = _
  decide +kernel
theorem d162_65 (L : Nat) (xs : Nat → Int32) : decode (ax_code (mgT L xs) 162) 65 = .ok (.ireturn, 1) := by
  show decode prog_11_method_58_code 65 = _
  decide +kernel
theorem same_comm {g k : Nat → Nat} : ∀ (m i j : Nat), f_same g k i j m = f_same k g j i m := by
  intro m
  induction m with
  | zero => intro i j; rfl
  | succ m ih =>
    intro i j
    rw [f_same, f_same, ih]
    congr 1
    by_cases e : g i = k j
    · rw [decide_eq_true e, decide_eq_true e.symm]
    · rw [decide_eq_false e, decide_eq_false (fun z => e z.symm)]
theorem tsame_comm {g k : Nat → Nat} {a n b m : Nat} : t_same g a n k b m = t_same k b m g a n := by
  unfold t_same
  by_cases e : n - a = m - b
  · rw [decide_eq_true e, decide_eq_true e.symm, same_comm, e]
  · rw [decide_eq_false e, decide_eq_false (fun z => e z.symm), Bool.false_and, Bool.false_and]
def h_pl (R : List rowT) (h : Nat) : Bool := match R[h]? with
  | some q => (t_pol q.2.2.1).1
  | none => false
theorem pls_eq {R : List rowT} {dom : List Nat} : ∀ (Rs : List rowT) (k : Nat), R.drop k = Rs → f_pls dom Rs = ((f_hits dom 2 Rs k).filter (h_pl R)).filterMap (fun h => R[h]?) := by
  intro Rs
  induction Rs with
  | nil => intro k _; rfl
  | cons q Rs ih =>
    intro k hk
    have hq : R[k]? = some q := by
      have : (R.drop k)[0]? = some q := by rw [hk]; rfl
      rw [List.getElem?_drop] at this; exact this
    have hk2 : R.drop (k + 1) = Rs := by rw [← List.tail_drop, hk]; rfl
    have hI := ih (k + 1) hk2
    unfold f_pls at hI ⊢
    rw [f_hits, List.filter_cons]
    by_cases c : q.2.1 = dom ∧ q.1 = 2
    · rw [if_pos c, List.filter_cons]
      have hc : h_pl R k = (t_pol q.2.2.1).1 := by unfold h_pl; rw [hq]
      rw [hc, decide_eq_true c.2, decide_eq_true c.1, Bool.true_and, Bool.true_and]
      by_cases c2 : (t_pol q.2.2.1).1 = true
      · rw [if_pos c2, if_pos c2, List.filterMap_cons, hq, hI]
      · rw [if_neg c2, if_neg c2, hI]
    · rw [if_neg c, if_neg (by
        intro z
        have z1 := Bool.and_eq_true_iff.mp (Bool.and_eq_true_iff.mp z).1
        exact c ⟨of_decide_eq_true z1.2, of_decide_eq_true z1.1⟩), hI]
theorem fp_5 {R : List rowT} {nm : List Nat} (h : f_fine nm R = false) : (x_fp R nm).1 = 5 := by
  unfold x_fp
  rw [f_ask_eq nm 2 R 0 0, if_neg (by rw [h]; decide)]
theorem fp_M {R : List rowT} {nm : List Nat} (h : f_fine nm R = true) : x_fp R nm = (match f_pls nm R with
    | [q] => (1, (t_pol q.2.2.1).2)
    | _ => (0, (0, 0, 0, 0))) := by
  unfold x_fp
  rw [f_ask_eq nm 2 R 0 0, if_pos h]
  cases f_pls nm R with
  | nil => rfl
  | cons a l => cases l <;> rfl
theorem fp_0 {R : List rowT} {nm : List Nat} (h : f_fine nm R = true) (hM : (f_hits nm 2 R 0).filter (h_pl R) = []) : (x_fp R nm).1 = 0 := by
  rw [fp_M h, pls_eq (R := R) R 0 rfl, hM]; rfl
theorem fp_1 {R : List rowT} {nm : List Nat} {r : Nat} {q : rowT} (h : f_fine nm R = true) (hM : (f_hits nm 2 R 0).filter (h_pl R) = [r]) (hr : R[r]? = some q) : x_fp R nm = (1, (t_pol q.2.2.1).2) := by
  rw [fp_M h, pls_eq (R := R) R 0 rfl, hM, List.filterMap_cons, hr]; rfl
theorem fp_2 {R : List rowT} {nm : List Nat} {r1 r2 : Nat} {M : List Nat} (h : f_fine nm R = true) (hM : (f_hits nm 2 R 0).filter (h_pl R) = r1 :: r2 :: M) : (x_fp R nm).1 = 0 := by
  have hm : ∀ x, x ∈ r1 :: r2 :: M → ∃ q, R[x]? = some q := fun x hx => by
    rw [← hM] at hx
    obtain ⟨q, hq, _⟩ := hits_mem (R := R) R 0 rfl x (List.mem_filter.mp hx).1
    exact ⟨q, hq⟩
  obtain ⟨q1, h1⟩ := hm r1 (by simp)
  obtain ⟨q2, h2⟩ := hm r2 (by simp)
  rw [fp_M h, pls_eq (R := R) R 0 rfl, hM, List.filterMap_cons, h1, List.filterMap_cons, h2]
theorem rpl_1 {D : List Nat} : ∀ (m k : Nat) (P : plT), (r_pl D m k P).1 = true → ¬ (r_pl D m k P).2.1 = -1 := by
  intro m
  induction m with
  | zero => intro k P h; rw [r_pl] at h ⊢; exact of_decide_eq_true h
  | succ m ih =>
    intro k P h
    rw [r_pl] at h ⊢
    by_cases c1 : k < D.length
    · rw [if_pos c1] at h ⊢
      by_cases c2 : gl D k = 59
      · rw [if_pos c2] at h ⊢
        by_cases c3 : p_a D k < D.length ∧ ¬ gl D (p_a D k) = 59
        · rw [if_pos c3] at h ⊢
          unfold r_pt at h ⊢
          split at h
          · cases h
          · rename_i h4
            rw [if_neg h4]
            split at h
            · rename_i h5
              rw [if_pos h5]
              exact ih _ _ h
            · cases h
        · rw [if_neg c3] at h ⊢
          exact ih _ _ h
      · rw [if_neg c2] at h; cases h
    · rw [if_neg c1] at h ⊢; exact of_decide_eq_true h
theorem tpol_1 {D : List Nat} (h : (t_pol D).1 = true) : ¬ (t_pol D).2.1 = -1 := by
  by_cases hdm : t_word (gl D) 0 (min 8 D.length) w_dm = true
  · have he := t_pol_eq hdm
    have h2 : (r_pl D D.length 8 (-1, -1, -1, -1)).1 = true := he.1.trans h
    rw [← he.2 h2]
    exact rpl_1 _ _ _ h2
  · unfold t_pol at h; rw [if_neg hdm] at h; cases h
def lst (M : List Nat) : Nat := match M.getLast? with
  | some h => h
  | none => 0
theorem lst_app (M : List Nat) (h : Nat) : lst (M ++ [h]) = h := by unfold lst; rw [List.getLast?_concat]
def isAsk (s : mg_s) (nm : List Nat) : Prop := s.1 141 14 = 1 ∧ s.1 141 12 = nI nm.length ∧ holdA s 149 0 nm
def fJ (k : Nat) : Int32 := if k = 5 then -1 else nI k
section KR
variable {L : Nat} {xs : Nat → Int32} {d q N : Nat} {l m nm hs : List Nat} {R : List rowT} {s : mg_s} {Q : Option Value → mg_s → Prop}
theorem md_se_l {a b : Nat} (hl : holdA s 165 0 l) (hm : holdA s 163 0 m) (hl60 : l.length ≤ 60) (hm48 : m.length ≤ 48) (ha : a ≤ l.length) (hb : b ≤ m.length) : ∀ (z k : Nat) (g : Bool), k + z = l.length - a → (g = true → l.length - a = m.length - b) → wp L xs d 162 21 [some (.ref 165), some (.int (nI a)), some (.int (nI l.length)), some (.ref 163), some (.int (nI b)), some (.int (nI m.length)), some (.int (nI (bI g))), some (.int (nI k))] [] s (fun v s' => v = some (.int (nI (bI (g && f_same (gl l) (gl m) (a + k) (b + k) z)))) ∧ s = s') := by
  intro z
  induction z with
  | zero =>
    intro k g hk hg
    rw [f_same, Bool.and_true]
    refine wg_iload (d162_21 L xs) rfl ?_
    refine wg_iload_n (d162_23 L xs) rfl ?_
    refine wg_iload_n (d162_24 L xs) rfl ?_
    refine wg_isub (d162_25 L xs) ?_
    refine wg_top (y := (nI (l.length - a))) (pk_sub (a := l.length) (b := a) (by omega)) ?_
    refine wn_icmp_ge (d162_26 L xs) (x := k) (y := l.length - a) (by omega) (by omega) (t := 63) (by decide) (fun h1 => ?_) (fun h1 => by omega)
    refine wg_iload (d162_63 L xs) rfl ?_
    exact wg_iret (d162_65 L xs) rfl (nar_b _) ⟨rfl, rfl⟩
  | succ z ih =>
    intro k g hk hg
    have hbl := bI_lt g
    have hg1 := gl_lt hl.1 (a + k)
    have hg2 := gl_lt hm.1 (b + k)
    rw [f_same]
    refine wg_iload (d162_21 L xs) rfl ?_
    refine wg_iload_n (d162_23 L xs) rfl ?_
    refine wg_iload_n (d162_24 L xs) rfl ?_
    refine wg_isub (d162_25 L xs) ?_
    refine wg_top (y := (nI (l.length - a))) (pk_sub (a := l.length) (b := a) (by omega)) ?_
    refine wn_icmp_ge (d162_26 L xs) (x := k) (y := l.length - a) (by omega) (by omega) (t := 63) (by decide) (fun h1 => by omega) (fun h1 => ?_)
    refine wg_iload (d162_29 L xs) rfl ?_
    refine wn_if_eq (d162_31 L xs) (x := bI g) (by omega) (t := 63) (by decide) (fun h2 => ?_) (fun h2 => ?_)
    · refine wg_iload (d162_63 L xs) rfl ?_
      exact wg_iret (d162_65 L xs) rfl (nar_b _) ⟨by rw [bI_f (b := g) (by omega), Bool.false_and], rfl⟩
    · have hmb := hg (bI_t (b := g) (by omega))
      refine wg_aload_n (d162_34 L xs) rfl ?_
      refine wg_iload_n (d162_35 L xs) rfl ?_
      refine wg_iload (d162_36 L xs) rfl ?_
      refine wg_iadd (d162_38 L xs) ?_
      refine wg_top (y := (nI (a + k))) (nI_add a k) ?_
      refine wg_iald (d162_39 L xs) (n := 60) (by decide) rfl (vp_in_nI (n := a + k) (by omega) (by omega)) ?_
      refine wg_top (y := (nI (gl l (a + k)))) (by rw [nI_nat (n := a + k) (by omega)]; exact (by have := hl.2 (a + k) (by omega); rw [Nat.zero_add] at this; exact this)) ?_
      refine wg_aload_n (d162_40 L xs) rfl ?_
      refine wg_iload (d162_41 L xs) rfl ?_
      refine wg_iload (d162_43 L xs) rfl ?_
      refine wg_iadd (d162_45 L xs) ?_
      refine wg_top (y := (nI (b + k))) (nI_add b k) ?_
      refine wg_iald (d162_46 L xs) (n := 48) (by decide) rfl (vp_in_nI (n := b + k) (by omega) (by omega)) ?_
      refine wg_top (y := (nI (gl m (b + k)))) (by rw [nI_nat (n := b + k) (by omega)]; exact (by have := hm.2 (b + k) (by have := hg (bI_t (by omega)); omega); rw [Nat.zero_add] at this; exact this)) ?_
      refine wn_icmp_ne (d162_47 L xs) (x := gl l (a + k)) (y := gl m (b + k)) (by omega) (by omega) (t := 54) (by decide) (fun h3 => ?_) (fun h3 => ?_)
      · refine wg_iconst (d162_54 L xs) (x := 0) (by decide) ?_
        refine wg_istore (d162_55 L xs) (ls' := [some (.ref 165), some (.int (nI a)), some (.int (nI l.length)), some (.ref 163), some (.int (nI b)), some (.int (nI m.length)), some (.int 0), some (.int (nI k))]) (Nat.le_of_ble_eq_true rfl) rfl ?_
        refine wg_iinc (d162_57 L xs) (y := (nI (k + 1))) (ls' := [some (.ref 165), some (.int (nI a)), some (.int (nI l.length)), some (.ref 163), some (.int (nI b)), some (.int (nI m.length)), some (.int 0), some (.int (nI (k + 1)))]) rfl (nI_add k 1) rfl ?_
        refine wg_goto (d162_60 L xs) (t := 21) (by decide) ?_
        rw [bI_t (b := g) (by omega), Bool.true_and, decide_eq_false (show ¬ gl l (a + k) = gl m (b + k) by omega)]
        have h0 := ih (k + 1) false (by omega) (fun _ => hg (bI_t (by omega)))
        exact h0
      · refine wg_iconst (d162_50 L xs) (x := 1) (by decide) ?_
        refine wg_goto (d162_51 L xs) (t := 55) (by decide) ?_
        refine wg_istore (d162_55 L xs) (ls' := [some (.ref 165), some (.int (nI a)), some (.int (nI l.length)), some (.ref 163), some (.int (nI b)), some (.int (nI m.length)), some (.int 1), some (.int (nI k))]) (Nat.le_of_ble_eq_true rfl) rfl ?_
        refine wg_iinc (d162_57 L xs) (y := (nI (k + 1))) (ls' := [some (.ref 165), some (.int (nI a)), some (.int (nI l.length)), some (.ref 163), some (.int (nI b)), some (.int (nI m.length)), some (.int 1), some (.int (nI (k + 1)))]) rfl (nI_add k 1) rfl ?_
        refine wg_goto (d162_60 L xs) (t := 21) (by decide) ?_
        rw [bI_t (b := g) (by omega), Bool.true_and, decide_eq_true (show gl l (a + k) = gl m (b + k) by omega)]
        have h0 := ih (k + 1) true (by omega) (fun _ => hg (bI_t (by omega)))
        exact h0
theorem md_same {a b : Nat} (hl : holdA s 165 0 l) (hm : holdA s 163 0 m) (hl60 : l.length ≤ 60) (hm48 : m.length ≤ 48) (ha : a ≤ l.length) (hb : b ≤ m.length) : ca L xs (d + 1) 162 [.ref 165, .int (nI a), .int (nI l.length), .ref 163, .int (nI b), .int (nI m.length)] s (fun v s' => v = some (.int (nI (bI (t_same (gl l) a l.length (gl m) b m.length)))) ∧ s = s') := by
  refine wg_call (Nat.le_of_ble_eq_true rfl) ?_
  show wp L xs d 162 0 [some (.ref 165), some (.int (nI a)), some (.int (nI l.length)), some (.ref 163), some (.int (nI b)), some (.int (nI m.length)), none, none] [] s _
  unfold t_same
  refine wg_iload_n (d162_0 L xs) rfl ?_
  refine wg_iload_n (d162_1 L xs) rfl ?_
  refine wg_isub (d162_2 L xs) ?_
  refine wg_top (y := (nI (l.length - a))) (pk_sub (a := l.length) (b := a) (by omega)) ?_
  refine wg_iload (d162_3 L xs) rfl ?_
  refine wg_iload (d162_5 L xs) rfl ?_
  refine wg_isub (d162_7 L xs) ?_
  refine wg_top (y := (nI (m.length - b))) (pk_sub (a := m.length) (b := b) (by omega)) ?_
  refine wn_icmp_ne (d162_8 L xs) (x := l.length - a) (y := m.length - b) (by omega) (by omega) (t := 15) (by decide) (fun h1 => ?_) (fun h1 => ?_)
  · refine wg_iconst (d162_15 L xs) (x := 0) (by decide) ?_
    refine wg_istore (d162_16 L xs) (ls' := [some (.ref 165), some (.int (nI a)), some (.int (nI l.length)), some (.ref 163), some (.int (nI b)), some (.int (nI m.length)), some (.int 0), none]) (Nat.le_of_ble_eq_true rfl) rfl ?_
    refine wg_iconst (d162_18 L xs) (x := 0) (by decide) ?_
    refine wg_istore (d162_19 L xs) (ls' := [some (.ref 165), some (.int (nI a)), some (.int (nI l.length)), some (.ref 163), some (.int (nI b)), some (.int (nI m.length)), some (.int 0), some (.int 0)]) (Nat.le_of_ble_eq_true rfl) rfl ?_
    rw [decide_eq_false (show ¬ l.length - a = m.length - b by omega)]
    have h0 := md_se_l (L := L) (xs := xs) (d := d) hl hm hl60 hm48 ha hb (l.length - a) 0 false (by omega) (fun z => absurd z (by decide))
    exact h0
  · refine wg_iconst (d162_11 L xs) (x := 1) (by decide) ?_
    refine wg_goto (d162_12 L xs) (t := 16) (by decide) ?_
    refine wg_istore (d162_16 L xs) (ls' := [some (.ref 165), some (.int (nI a)), some (.int (nI l.length)), some (.ref 163), some (.int (nI b)), some (.int (nI m.length)), some (.int 1), none]) (Nat.le_of_ble_eq_true rfl) rfl ?_
    refine wg_iconst (d162_18 L xs) (x := 0) (by decide) ?_
    refine wg_istore (d162_19 L xs) (ls' := [some (.ref 165), some (.int (nI a)), some (.int (nI l.length)), some (.ref 163), some (.int (nI b)), some (.int (nI m.length)), some (.int 1), some (.int 0)]) (Nat.le_of_ble_eq_true rfl) rfl ?_
    rw [decide_eq_true (show l.length - a = m.length - b by omega)]
    have h0 := md_se_l (L := L) (xs := xs) (d := d) hl hm hl60 hm48 ha hb (l.length - a) 0 true (by omega) (fun _ => by omega)
    exact h0
theorem nmp_len (l : List Nat) (st : Nat) : (x_nmp l st).length = 7 + (l.length - st) := by
  unfold x_nmp
  rw [List.length_append, seg_len, Nat.min_self]; rfl
theorem nmp_ok {l : List Nat} {st : Nat} (h : okc l) : okc (x_nmp l st) := okc_app (fun x hx => by revert hx; unfold w_dmd; intro hx; simp at hx; omega) (seg_ok h)
theorem nmp_gl {l : List Nat} {st i : Nat} (h : i < l.length - st) : gl (x_nmp l st) (7 + i) = gl l (st + i) := by
  have e : gl (x_nmp l st) (7 + i) = gl (seg l st l.length) i := by
    unfold gl x_nmp
    rw [List.getD_eq_getElem?_getD, List.getD_eq_getElem?_getD, List.getElem?_append_right (by show w_dmd.length ≤ 7 + i; unfold w_dmd; simp), show 7 + i - w_dmd.length = i by unfold w_dmd; simp]
  rw [e, seg_gl (by rw [seg_len, Nat.min_self]; exact h)]
theorem md_sk_c {st : Nat} (hst : st ≤ l.length) (hl48 : l.length ≤ 48) : ∀ (z k : Nat) (s : mg_s), k + z = l.length → st ≤ k → holdA s 165 0 l → (∀ j, j < 7 + (k - st) → s.2.1 148 j = nI (gl (x_nmp l st) j)) → (∀ s', mfr s s' [] [148] → holdA s' 148 0 (x_nmp l st) → wp L xs (d + 7) 157 88 [some (.ref 141), some (.ref 165), some (.int (nI st)), some (.int (nI l.length)), some (.int (nI l.length)), none, none] [] s' Q) → wp L xs (d + 7) 157 60 [some (.ref 141), some (.ref 165), some (.int (nI st)), some (.int (nI l.length)), some (.int (nI k)), none, none] [] s Q := by
  intro z
  induction z with
  | zero =>
    intro k s hk hsk hl hc kk
    have hk0 : k = l.length := by omega
    subst hk0
    refine wg_iload (d157_60 L xs) rfl ?_
    refine wg_iload_n (d157_62 L xs) rfl ?_
    refine wn_icmp_ge (d157_63 L xs) (x := l.length) (y := l.length) (by omega) (by omega) (t := 88) (by decide) (fun h1 => ?_) (fun h1 => by omega)
    exact kk s (mfr.rf s _ _) ⟨nmp_ok hl.1, fun j hj => by rw [Nat.zero_add]; exact hc j (by rw [nmp_len] at hj; omega)⟩
  | succ z ih =>
    intro k s hk hsk hl hc kk
    have hgk := gl_lt hl.1 k
    have hck : s.2.1 165 k = nI (gl l k) := by have := hl.2 k (by omega); rw [Nat.zero_add] at this; exact this
    refine wg_iload (d157_60 L xs) rfl ?_
    refine wg_iload_n (d157_62 L xs) rfl ?_
    refine wn_icmp_ge (d157_63 L xs) (x := k) (y := l.length) (by omega) (by omega) (t := 88) (by decide) (fun h1 => by omega) (fun h1 => ?_)
    refine wg_aload_n (d157_66 L xs) rfl ?_
    refine wg_get (d157_67 L xs) (kd := 1) (cj := 9) (k0 := 11) rfl (Or.inl rfl) (by decide) rfl rfl ?_
    refine wg_bipush (d157_70 L xs) (x := 7) (by decide) ?_
    refine wg_iload (d157_72 L xs) rfl ?_
    refine wg_iadd (d157_74 L xs) ?_
    refine wg_top (y := (nI (7 + k))) (nI_add 7 k) ?_
    refine wg_iload_n (d157_75 L xs) rfl ?_
    refine wg_isub (d157_76 L xs) ?_
    refine wg_top (y := (nI (7 + k - st))) (pk_sub (a := 7 + k) (b := st) (by omega)) ?_
    refine wg_aload_n (d157_77 L xs) rfl ?_
    refine wg_iload (d157_78 L xs) rfl ?_
    refine wg_iald (d157_80 L xs) (n := 60) (by decide) rfl (vp_in_nI (n := k) (by omega) (by omega)) ?_
    refine wg_top (y := (nI (gl l k))) (by rw [nI_nat (n := k) (by omega)]; exact hck) ?_
    refine wg_iast (d157_81 L xs) (n := 60) (by decide) rfl (vp_in_nI (n := 7 + k - st) (by omega) (by omega)) rfl ?_
    rw [nI_nat (n := 7 + k - st) (by omega)]
    refine wg_iinc (d157_82 L xs) (y := (nI (k + 1))) (ls' := [some (.ref 141), some (.ref 165), some (.int (nI st)), some (.int (nI l.length)), some (.int (nI (k + 1))), none, none]) rfl (nI_add k 1) rfl ?_
    refine wg_goto (d157_85 L xs) (t := 60) (by decide) ?_
    refine ih (k + 1) _ (by omega) (by omega) (holdA_A hl (by decide)) (fun j hj => ?_) (fun s' m1 => kk s' ((mfr_A s (by decide)).trans m1))
    by_cases e : j = 7 + k - st
    · subst e; rw [show 7 + k - st = 7 + (k - st) by omega, nmp_gl (by omega), show st + (k - st) = k by omega]; exact mA_at _ _ _ _
    · exact (mA_ne _ _ (Or.inr e)).trans (hc j (by omega))
theorem md_sk_l {st : Nat} (hH : ∀ h, h ∈ hs → ∃ q, R[h]? = some q ∧ q.2.1 = nm ∧ q.1 = 2) (hs16 : hs.length ≤ 16) : ∀ (hs2 hs1 M : List Nat) (s : mg_s), hs1 ++ hs2 = hs → M.length ≤ hs1.length → isTabM s R → isHit s hs → (∀ s', mfr s s' pF [] → wp L xs (d + 7) 157 158 [some (.ref 141), some (.ref 165), some (.int (nI st)), some (.int (nI l.length)), some (.int (nI ((M ++ hs2.filter (h_pl R)).length))), some (.int (nI (lst (M ++ hs2.filter (h_pl R))))), some (.int (nI hs.length))] [] s' Q) → wp L xs (d + 7) 157 117 [some (.ref 141), some (.ref 165), some (.int (nI st)), some (.int (nI l.length)), some (.int (nI M.length)), some (.int (nI (lst M))), some (.int (nI hs1.length))] [] s Q := by
  intro hs2
  induction hs2 with
  | nil =>
    intro hs1 M s he hM T hh k
    rw [List.append_nil] at he
    subst he
    rw [List.filter_nil, List.append_nil] at k
    refine wg_iload (d157_117 L xs) rfl ?_
    refine wg_aload_n (d157_119 L xs) rfl ?_
    refine wg_get (d157_120 L xs) (kd := 1) (cj := 9) (k0 := 15) rfl (Or.inl rfl) (by decide) rfl rfl ?_
    refine wg_top (y := (nI hs1.length)) hh.1 ?_
    refine wn_icmp_ge (d157_123 L xs) (x := hs1.length) (y := hs1.length) (by omega) (by omega) (t := 158) (by decide) (fun h1 => ?_) (fun h1 => by omega)
    exact k s (mfr.rf s _ _)
  | cons h hs2 ih =>
    intro hs1 M s he hM T hh k
    have hlen : hs1.length + (hs2.length + 1) = hs.length := by rw [← he, List.length_append]; rfl
    have hgl : gl hs hs1.length = h := by rw [← he]; exact gl_mid _ _ _
    obtain ⟨q, hq, hqn, hq2⟩ := hH h (by rw [← he]; exact List.mem_append_right _ (List.mem_cons_self ..))
    have hR := isRec_tab T hq (by omega)
    have hh16 := hR.1
    have hcb := bI_lt (t_pol q.2.2.1).1
    have hc : h_pl R h = (t_pol q.2.2.1).1 := by unfold h_pl; rw [hq]
    have hlen1 : (hs1 ++ [h]).length = hs1.length + 1 := by rw [List.length_append]; rfl
    have he1 : (hs1 ++ [h]) ++ hs2 = hs := by rw [List.append_assoc]; exact he
    refine wg_iload (d157_117 L xs) rfl ?_
    refine wg_aload_n (d157_119 L xs) rfl ?_
    refine wg_get (d157_120 L xs) (kd := 1) (cj := 9) (k0 := 15) rfl (Or.inl rfl) (by decide) rfl rfl ?_
    refine wg_top (y := (nI hs.length)) hh.1 ?_
    refine wn_icmp_ge (d157_123 L xs) (x := hs1.length) (y := hs.length) (by omega) (by omega) (t := 158) (by decide) (fun h1 => by omega) (fun h1 => ?_)
    refine wg_aload_n (d157_126 L xs) rfl ?_
    refine wg_aload_n (d157_127 L xs) rfl ?_
    refine wg_get (d157_128 L xs) (kd := 1) (cj := 9) (k0 := 16) rfl (Or.inl rfl) (by decide) rfl rfl ?_
    refine wg_iload (d157_131 L xs) rfl ?_
    refine wg_iald (d157_133 L xs) (n := 16) (by decide) rfl (vp_in_nI (n := hs1.length) (by omega) (by omega)) ?_
    refine wg_top (y := (nI h)) (by rw [nI_nat (n := hs1.length) (by omega)]; exact (by have := hh.2 hs1.length (by omega); rw [hgl] at this; exact this)) ?_
    refine wg_invv (d157_134 L xs) (kd := 7) (mj := 158) (n := 1) rfl (Or.inl rfl) (ys := [.int (nI h)]) (r := []) rfl rfl (by decide) rfl rfl (Nat.le_of_ble_eq_true rfl) (md_isPol hR) ?_
    rintro _ s1 ⟨rfl, hm1, hpp⟩
    have T1 : isTabM s1 R := hm1.tab (by decide) (fun a _ _ z => by cases z) T
    have hh1 : isHit s1 hs := ⟨(hm1.2.1 15 (by decide)).trans hh.1, fun j hj => (congrFun (hm1.2.2.1 150 (by decide)) _).trans (hh.2 j hj)⟩
    refine wn_if_eq (d157_137 L xs) (x := bI (t_pol q.2.2.1).1) (by omega) (t := 152) (by decide) (fun h2 => ?_) (fun h2 => ?_)
    · refine wg_iinc (d157_152 L xs) (y := (nI (hs1.length + 1))) (ls' := [some (.ref 141), some (.ref 165), some (.int (nI st)), some (.int (nI l.length)), some (.int (nI M.length)), some (.int (nI (lst M))), some (.int (nI (hs1.length + 1)))]) rfl (nI_add hs1.length 1) rfl ?_
      refine wg_goto (d157_155 L xs) (t := 117) (by decide) ?_
      have e0 : (h :: hs2).filter (h_pl R) = hs2.filter (h_pl R) := by rw [List.filter_cons, if_neg (by rw [hc, bI_f (b := (t_pol q.2.2.1).1) (by omega)]; decide)]
      rw [e0] at k
      have h0 := ih (hs1 ++ [h]) M s1 he1 (by omega) T1 hh1 (fun s' m2 => k s' (hm1.trans m2))
      rw [hlen1] at h0
      exact h0
    · refine wg_iinc (d157_140 L xs) (y := (nI (M.length + 1))) (ls' := [some (.ref 141), some (.ref 165), some (.int (nI st)), some (.int (nI l.length)), some (.int (nI (M.length + 1))), some (.int (nI (lst M))), some (.int (nI hs1.length))]) rfl (nI_add M.length 1) rfl ?_
      refine wg_aload_n (d157_143 L xs) rfl ?_
      refine wg_get (d157_144 L xs) (kd := 1) (cj := 9) (k0 := 16) rfl (Or.inl rfl) (by decide) rfl rfl ?_
      refine wg_iload (d157_147 L xs) rfl ?_
      refine wg_iald (d157_149 L xs) (n := 16) (by decide) rfl (vp_in_nI (n := hs1.length) (by omega) (by omega)) ?_
      refine wg_top (y := (nI h)) (by rw [nI_nat (n := hs1.length) (by omega)]; exact ((congrFun (hm1.2.2.1 150 (by decide)) _).trans (by have := hh.2 hs1.length (by omega); rw [hgl] at this; exact this))) ?_
      refine wg_istore (d157_150 L xs) (ls' := [some (.ref 141), some (.ref 165), some (.int (nI st)), some (.int (nI l.length)), some (.int (nI (M.length + 1))), some (.int (nI h)), some (.int (nI hs1.length))]) (Nat.le_of_ble_eq_true rfl) rfl ?_
      refine wg_iinc (d157_152 L xs) (y := (nI (hs1.length + 1))) (ls' := [some (.ref 141), some (.ref 165), some (.int (nI st)), some (.int (nI l.length)), some (.int (nI (M.length + 1))), some (.int (nI h)), some (.int (nI (hs1.length + 1)))]) rfl (nI_add hs1.length 1) rfl ?_
      refine wg_goto (d157_155 L xs) (t := 117) (by decide) ?_
      have e0 : M ++ (h :: hs2).filter (h_pl R) = (M ++ [h]) ++ hs2.filter (h_pl R) := by rw [List.filter_cons, if_pos (by rw [hc]; exact bI_t (by omega)), List.append_assoc]; rfl
      rw [e0] at k
      have h0 := ih (hs1 ++ [h]) (M ++ [h]) s1 he1 (by rw [len_app1, hlen1]; omega) T1 hh1 (fun s' m2 => k s' (hm1.trans m2))
      rw [hlen1, len_app1, lst_app] at h0
      exact h0
theorem md_seek {st : Nat} (hst : st ≤ l.length) (hl1 : 1 ≤ l.length) (hl48 : l.length ≤ 48) (hl : holdA s 165 0 l) (T : isTabM s R) : ca L xs (d + 8) 157 [.ref 141, .ref 165, .int (nI st), .int (nI l.length)] s (fun rv s' => rv = some (.int (fJ (x_fp R (x_nmp l st)).1)) ∧ mfr s s' [9, 10, 12, 14, 15, 43, 44, 45, 46] [148, 149, 150] ∧ isAsk s' (x_nmp l st) ∧ ((x_fp R (x_nmp l st)).1 = 1 → isPM s' (x_fp R (x_nmp l st)).2 ∧ okP (x_fp R (x_nmp l st)).2 ∧ ¬ (x_fp R (x_nmp l st)).2.1 = -1)) := by
  refine wg_call (Nat.le_of_ble_eq_true rfl) ?_
  have hR16 := T.2.1
  have hnl := nmp_len l st
  show wp L xs (d + 7) 157 0 [some (.ref 141), some (.ref 165), some (.int (nI st)), some (.int (nI l.length)), none, none, none] [] s _
  refine wg_aload_n (d157_0 L xs) rfl ?_
  refine wg_get (d157_1 L xs) (kd := 1) (cj := 9) (k0 := 11) rfl (Or.inl rfl) (by decide) rfl rfl ?_
  refine wg_iconst (d157_4 L xs) (x := 0) (by decide) ?_
  refine wg_bipush (d157_5 L xs) (x := 95) (by decide) ?_
  refine wg_iast (d157_7 L xs) (n := 60) (by decide) rfl (vp_in_nI (n := 0) (by omega) (by omega)) rfl ?_
  rw [show Int32.toNatClampNeg 0 = 0 from rfl]
  refine wg_aload_n (d157_8 L xs) rfl ?_
  refine wg_get (d157_9 L xs) (kd := 1) (cj := 9) (k0 := 11) rfl (Or.inl rfl) (by decide) rfl rfl ?_
  refine wg_iconst (d157_12 L xs) (x := 1) (by decide) ?_
  refine wg_bipush (d157_13 L xs) (x := 100) (by decide) ?_
  refine wg_iast (d157_15 L xs) (n := 60) (by decide) rfl (vp_in_nI (n := 1) (by omega) (by omega)) rfl ?_
  rw [show Int32.toNatClampNeg 1 = 1 from rfl]
  refine wg_aload_n (d157_16 L xs) rfl ?_
  refine wg_get (d157_17 L xs) (kd := 1) (cj := 9) (k0 := 11) rfl (Or.inl rfl) (by decide) rfl rfl ?_
  refine wg_iconst (d157_20 L xs) (x := 2) (by decide) ?_
  refine wg_bipush (d157_21 L xs) (x := 109) (by decide) ?_
  refine wg_iast (d157_23 L xs) (n := 60) (by decide) rfl (vp_in_nI (n := 2) (by omega) (by omega)) rfl ?_
  rw [show Int32.toNatClampNeg 2 = 2 from rfl]
  refine wg_aload_n (d157_24 L xs) rfl ?_
  refine wg_get (d157_25 L xs) (kd := 1) (cj := 9) (k0 := 11) rfl (Or.inl rfl) (by decide) rfl rfl ?_
  refine wg_iconst (d157_28 L xs) (x := 3) (by decide) ?_
  refine wg_bipush (d157_29 L xs) (x := 97) (by decide) ?_
  refine wg_iast (d157_31 L xs) (n := 60) (by decide) rfl (vp_in_nI (n := 3) (by omega) (by omega)) rfl ?_
  rw [show Int32.toNatClampNeg 3 = 3 from rfl]
  refine wg_aload_n (d157_32 L xs) rfl ?_
  refine wg_get (d157_33 L xs) (kd := 1) (cj := 9) (k0 := 11) rfl (Or.inl rfl) (by decide) rfl rfl ?_
  refine wg_iconst (d157_36 L xs) (x := 4) (by decide) ?_
  refine wg_bipush (d157_37 L xs) (x := 114) (by decide) ?_
  refine wg_iast (d157_39 L xs) (n := 60) (by decide) rfl (vp_in_nI (n := 4) (by omega) (by omega)) rfl ?_
  rw [show Int32.toNatClampNeg 4 = 4 from rfl]
  refine wg_aload_n (d157_40 L xs) rfl ?_
  refine wg_get (d157_41 L xs) (kd := 1) (cj := 9) (k0 := 11) rfl (Or.inl rfl) (by decide) rfl rfl ?_
  refine wg_iconst (d157_44 L xs) (x := 5) (by decide) ?_
  refine wg_bipush (d157_45 L xs) (x := 99) (by decide) ?_
  refine wg_iast (d157_47 L xs) (n := 60) (by decide) rfl (vp_in_nI (n := 5) (by omega) (by omega)) rfl ?_
  rw [show Int32.toNatClampNeg 5 = 5 from rfl]
  refine wg_aload_n (d157_48 L xs) rfl ?_
  refine wg_get (d157_49 L xs) (kd := 1) (cj := 9) (k0 := 11) rfl (Or.inl rfl) (by decide) rfl rfl ?_
  refine wg_bipush (d157_52 L xs) (x := 6) (by decide) ?_
  refine wg_bipush (d157_54 L xs) (x := 46) (by decide) ?_
  refine wg_iast (d157_56 L xs) (n := 60) (by decide) rfl (vp_in_nI (n := 6) (by omega) (by omega)) rfl ?_
  rw [show Int32.toNatClampNeg 6 = 6 from rfl]
  refine wg_iload_n (d157_57 L xs) rfl ?_
  refine wg_istore (d157_58 L xs) (ls' := [some (.ref 141), some (.ref 165), some (.int (nI st)), some (.int (nI l.length)), some (.int (nI st)), none, none]) (Nat.le_of_ble_eq_true rfl) rfl ?_
  have m0 : mfr s (mg_A (mg_A (mg_A (mg_A (mg_A (mg_A (mg_A s 148 0 95) 148 1 100) 148 2 109) 148 3 97) 148 4 114) 148 5 99) 148 6 46) [] [148] := (((((((mfr_A s (by decide)).trans (mfr_A _ (by decide))).trans (mfr_A _ (by decide))).trans (mfr_A _ (by decide))).trans (mfr_A _ (by decide))).trans (mfr_A _ (by decide))).trans (mfr_A _ (by decide)))
  refine md_sk_c hst hl48 (l.length - st) st _ (by omega) (Nat.le_refl _) (holdA_A (holdA_A (holdA_A (holdA_A (holdA_A (holdA_A (holdA_A hl (by decide)) (by decide)) (by decide)) (by decide)) (by decide)) (by decide)) (by decide)) (fun j hj => ?_) (fun s1 m1 b148 => ?_)
  · rcases (show j = 0 ∨ j = 1 ∨ j = 2 ∨ j = 3 ∨ j = 4 ∨ j = 5 ∨ j = 6 by omega) with e | e | e | e | e | e | e <;> (subst e; rfl)
  have m01 := m0.trans m1
  have m02 : mfr s (mg_I s1 141 10 (nI (x_nmp l st).length)) [10] [148] := (m01.more (by decide) (by decide)).trans (mfr_I _ (by decide))
  cases hfi : f_fine (x_nmp l st) R with
  | false =>
    refine wg_aload_n (d157_88 L xs) rfl ?_
    refine wg_bipush (d157_89 L xs) (x := 7) (by decide) ?_
    refine wg_iload_n (d157_91 L xs) rfl ?_
    refine wg_iadd (d157_92 L xs) ?_
    refine wg_top (y := (nI (7 + l.length))) (nI_add 7 l.length) ?_
    refine wg_iload_n (d157_93 L xs) rfl ?_
    refine wg_isub (d157_94 L xs) ?_
    refine wg_top (y := (nI ((x_nmp l st).length))) (by rw [pk_sub (a := 7 + l.length) (b := st) (by omega)]; congr 1; omega) ?_
    refine wg_puti (d157_95 L xs) (cj := 9) (k0 := 10) rfl (by decide) rfl (Nat.le_of_ble_eq_true rfl) rfl rfl rfl ?_
    refine wg_aload_n (d157_98 L xs) rfl ?_
    refine wg_iconst (d157_99 L xs) (x := 2) (by decide) ?_
    refine wg_invv (d157_100 L xs) (kd := 7) (mj := 121) (n := 1) rfl (Or.inl rfl) (ys := [.int 2]) (r := []) rfl rfl (by decide) rfl rfl (Nat.le_of_ble_eq_true rfl) (by have h := md_ask (L := L) (xs := xs) (d := d + 5) (R := R) (kd := 2) (m := x_nmp l st) (s := mg_I s1 141 10 (nI (x_nmp l st).length)) (m02.tab (by decide) (fun a q1 q2 z => by have := List.mem_singleton.mp z; omega) T) rfl (holdA_of b148 rfl) (by omega) (by omega); rw [hfi] at h; exact h) ?_
    rintro _ s2 ⟨rfl, hm2, a14, a12, a49, aH⟩
    have m03 := (m02.more (F' := [9, 10, 12, 14, 15, 43, 44, 45, 46]) (A' := [148, 149, 150]) (by decide) (by decide)).trans (hm2.more (by decide) (by decide))
    refine wg_if_ne (d157_103 L xs) (t := 108) (by decide) (fun hp => absurd hp (by decide)) (fun _ => ?_)
    refine wg_iconst (d157_106 L xs) (x := (-1)) (by decide) ?_
    exact wg_iret (d157_107 L xs) rfl rfl ⟨by rw [fp_5 hfi]; rfl, m03, ⟨a14, a12, a49⟩, fun z => by rw [fp_5 hfi] at z; exact absurd z (by decide)⟩
  | true =>
    refine wg_aload_n (d157_88 L xs) rfl ?_
    refine wg_bipush (d157_89 L xs) (x := 7) (by decide) ?_
    refine wg_iload_n (d157_91 L xs) rfl ?_
    refine wg_iadd (d157_92 L xs) ?_
    refine wg_top (y := (nI (7 + l.length))) (nI_add 7 l.length) ?_
    refine wg_iload_n (d157_93 L xs) rfl ?_
    refine wg_isub (d157_94 L xs) ?_
    refine wg_top (y := (nI ((x_nmp l st).length))) (by rw [pk_sub (a := 7 + l.length) (b := st) (by omega)]; congr 1; omega) ?_
    refine wg_puti (d157_95 L xs) (cj := 9) (k0 := 10) rfl (by decide) rfl (Nat.le_of_ble_eq_true rfl) rfl rfl rfl ?_
    refine wg_aload_n (d157_98 L xs) rfl ?_
    refine wg_iconst (d157_99 L xs) (x := 2) (by decide) ?_
    refine wg_invv (d157_100 L xs) (kd := 7) (mj := 121) (n := 1) rfl (Or.inl rfl) (ys := [.int 2]) (r := []) rfl rfl (by decide) rfl rfl (Nat.le_of_ble_eq_true rfl) (by have h := md_ask (L := L) (xs := xs) (d := d + 5) (R := R) (kd := 2) (m := x_nmp l st) (s := mg_I s1 141 10 (nI (x_nmp l st).length)) (m02.tab (by decide) (fun a q1 q2 z => by have := List.mem_singleton.mp z; omega) T) rfl (holdA_of b148 rfl) (by omega) (by omega); rw [hfi] at h; exact h) ?_
    rintro _ s2 ⟨rfl, hm2, a14, a12, a49, aH⟩
    have m03 := (m02.more (F' := [9, 10, 12, 14, 15, 43, 44, 45, 46]) (A' := [148, 149, 150]) (by decide) (by decide)).trans (hm2.more (by decide) (by decide))
    refine wg_if_ne (d157_103 L xs) (t := 108) (by decide) (fun _ => ?_) (fun hn => absurd (by decide) hn)
    refine wg_iconst (d157_108 L xs) (x := 0) (by decide) ?_
    refine wg_istore (d157_109 L xs) (ls' := [some (.ref 141), some (.ref 165), some (.int (nI st)), some (.int (nI l.length)), some (.int 0), none, none]) (Nat.le_of_ble_eq_true rfl) rfl ?_
    refine wg_iconst (d157_111 L xs) (x := 0) (by decide) ?_
    refine wg_istore (d157_112 L xs) (ls' := [some (.ref 141), some (.ref 165), some (.int (nI st)), some (.int (nI l.length)), some (.int 0), some (.int 0), none]) (Nat.le_of_ble_eq_true rfl) rfl ?_
    refine wg_iconst (d157_114 L xs) (x := 0) (by decide) ?_
    refine wg_istore (d157_115 L xs) (ls' := [some (.ref 141), some (.ref 165), some (.int (nI st)), some (.int (nI l.length)), some (.int 0), some (.int 0), some (.int 0)]) (Nat.le_of_ble_eq_true rfl) rfl ?_
    have T2 : isTabM s2 R := m03.tab (by decide) (fun a q1 q2 z => absurd z (by intro z; rcases List.mem_cons.mp z with e | z; omega; rcases List.mem_cons.mp z with e | z; omega; have := List.mem_singleton.mp z; omega)) T
    have hlenH : (f_hits (x_nmp l st) 2 R 0).length ≤ 16 := hits_len R 0 hR16
    refine md_sk_l (nm := x_nmp l st) (R := R) (hs := f_hits (x_nmp l st) 2 R 0) (hits_mem R 0 rfl) hlenH (f_hits (x_nmp l st) 2 R 0) [] [] s2 rfl (Nat.le_refl _) T2 aH (fun s3 hm3 => ?_)
    rw [List.nil_append]
    have m04 := m03.trans (hm3.more (by decide) (by decide))
    have hak : isAsk s3 (x_nmp l st) := ⟨(hm3.2.1 14 (by decide)).trans a14, (hm3.2.1 12 (by decide)).trans a12, hm3.hold (by decide) a49⟩
    cases hM : (f_hits (x_nmp l st) 2 R 0).filter (h_pl R) with
    | nil =>
      refine wg_iload (d157_158 L xs) rfl ?_
      refine wg_iconst (d157_160 L xs) (x := 1) (by decide) ?_
      refine wg_icmp_ne (d157_161 L xs) (t := 177) (by decide) (fun _ => ?_) (fun hn => absurd (by decide) hn)
      refine wg_iconst (d157_177 L xs) (x := 0) (by decide) ?_
      refine wg_istore (d157_178 L xs) (ls' := [some (.ref 141), some (.ref 165), some (.int (nI st)), some (.int (nI l.length)), some (.int 0), some (.int 0), some (.int 0)]) (Nat.le_of_ble_eq_true rfl) rfl ?_
      refine wg_iload (d157_180 L xs) rfl ?_
      refine wg_if_eq (d157_182 L xs) (t := 189) (by decide) (fun _ => ?_) (fun hn => absurd (by decide) hn)
      refine wg_iconst (d157_189 L xs) (x := 0) (by decide) ?_
      exact wg_iret (d157_190 L xs) rfl rfl ⟨by rw [fp_0 hfi hM]; rfl, m04, hak, fun z => by rw [fp_0 hfi hM] at z; exact absurd z (by decide)⟩
    | cons r1 M =>
      cases M with
      | nil =>
        obtain ⟨q, hq, hqn, hq2⟩ := hits_mem (R := R) R 0 rfl r1 (List.mem_filter.mp (by rw [hM]; exact List.mem_cons_self ..)).1
        have hrec : (t_pol q.2.2.1).1 = true := by
          have := (List.mem_filter.mp (show r1 ∈ (f_hits (x_nmp l st) 2 R 0).filter (h_pl R) by rw [hM]; exact List.mem_cons_self ..)).2
          unfold h_pl at this; rw [hq] at this; exact this
        have hR3 := isRec_tab (hm3.tab (by decide) (fun a _ _ z => by cases z) T2) hq (by omega)
        have hfp := fp_1 hfi hM hq
        show wp L xs (d + 7) 157 158 [some (.ref 141), some (.ref 165), some (.int (nI st)), some (.int (nI l.length)), some (.int 1), some (.int (nI r1)), some (.int (nI (f_hits (x_nmp l st) 2 R 0).length))] [] s3 _
        refine wg_iload (d157_158 L xs) rfl ?_
        refine wg_iconst (d157_160 L xs) (x := 1) (by decide) ?_
        refine wg_icmp_ne (d157_161 L xs) (t := 177) (by decide) (fun hp => absurd hp (by decide)) (fun _ => ?_)
        refine wg_aload_n (d157_164 L xs) rfl ?_
        refine wg_iload (d157_165 L xs) rfl ?_
        refine wg_invv (d157_167 L xs) (kd := 7) (mj := 158) (n := 1) rfl (Or.inl rfl) (ys := [.int (nI r1)]) (r := []) rfl rfl (by decide) rfl rfl (Nat.le_of_ble_eq_true rfl) (md_isPol hR3) ?_
        rintro _ s4 ⟨rfl, hm4, hpp⟩
        rw [hrec]
        refine wg_if_eq (d157_170 L xs) (t := 177) (by decide) (fun hp => absurd hp (by decide)) (fun _ => ?_)
        refine wg_iconst (d157_173 L xs) (x := 1) (by decide) ?_
        refine wg_goto (d157_174 L xs) (t := 178) (by decide) ?_
        refine wg_istore (d157_178 L xs) (ls' := [some (.ref 141), some (.ref 165), some (.int (nI st)), some (.int (nI l.length)), some (.int 1), some (.int (nI r1)), some (.int 1)]) (Nat.le_of_ble_eq_true rfl) rfl ?_
        refine wg_iload (d157_180 L xs) rfl ?_
        refine wg_if_eq (d157_182 L xs) (t := 189) (by decide) (fun hp => absurd hp (by decide)) (fun _ => ?_)
        refine wg_iconst (d157_185 L xs) (x := 1) (by decide) ?_
        refine wg_goto (d157_186 L xs) (t := 190) (by decide) ?_
        exact wg_iret (d157_190 L xs) rfl rfl ⟨by rw [hfp]; rfl, m04.trans (hm4.more (by decide) (by decide)), ⟨(hm4.2.1 14 (by decide)).trans hak.1, (hm4.2.1 12 (by decide)).trans hak.2.1, hm4.hold (by decide) hak.2.2⟩, fun _ => by rw [hfp]; exact ⟨(hpp hrec).1, (hpp hrec).2, tpol_1 hrec⟩⟩
      | cons r2 M =>
        have hMl := hM ▸ Nat.le_trans (List.length_filter_le (h_pl R) (f_hits (x_nmp l st) 2 R 0)) hlenH
        change M.length + 1 + 1 ≤ 16 at hMl
        refine wg_iload (d157_158 L xs) rfl ?_
        refine wg_iconst (d157_160 L xs) (x := 1) (by decide) ?_
        refine wn_icmp_ne (d157_161 L xs) (x := M.length + 1 + 1) (y := 1) (by omega) (by omega) (t := 177) (by decide) (fun h61 => ?_) (fun h61 => by omega)
        refine wg_iconst (d157_177 L xs) (x := 0) (by decide) ?_
        refine wg_istore (d157_178 L xs) (ls' := [some (.ref 141), some (.ref 165), some (.int (nI st)), some (.int (nI l.length)), some (.int (nI (M.length + 1 + 1))), some (.int (nI (lst (r1 :: r2 :: M)))), some (.int 0)]) (Nat.le_of_ble_eq_true rfl) rfl ?_
        refine wg_iload (d157_180 L xs) rfl ?_
        refine wg_if_eq (d157_182 L xs) (t := 189) (by decide) (fun _ => ?_) (fun hn => absurd (by decide) hn)
        refine wg_iconst (d157_189 L xs) (x := 0) (by decide) ?_
        exact wg_iret (d157_190 L xs) rfl rfl ⟨by rw [fp_2 hfi hM]; rfl, m04, hak, fun z => by rw [fp_2 hfi hM] at z; exact absurd z (by decide)⟩
end KR
