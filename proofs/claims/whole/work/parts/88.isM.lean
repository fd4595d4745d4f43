/-! the reference: mechanisms and terms of a record -/
theorem d133_0 (L : Nat) (xs : Nat → Int32) : decode (ax_code (mgT L xs) 133) 0 = .ok (.aload_n 0, 1) := by
  show decode prog_11_method_30_code 0 = _
  decide +kernel
theorem d133_1 (L : Nat) (xs : Nat → Int32) : decode (ax_code (mgT L xs) 133) 1 = .ok (.iload_n 1, 1) := by
  show decode prog_11_method_30_code 1 = _
  decide +kernel
theorem d133_2 (L : Nat) (xs : Nat → Int32) : decode (ax_code (mgT L xs) 133) 2 = .ok (.iload_n 2, 1) := by
  show decode prog_11_method_30_code 2 = _
  decide +kernel
theorem d133_3 (L : Nat) (xs : Nat → Int32) : decode (ax_code (mgT L xs) 133) 3 = .ok (.iload_n 3, 1) := by
  show decode prog_11_method_30_code 3 = _
  decide +kernel
theorem d133_4 (L : Nat) (xs : Nat → Int32) : decode (ax_code (mgT L xs) 133) 4 = .ok (.invokevirtual 174, 3) := by
  show decode prog_11_method_30_code 4 = _
  decide +kernel
theorem d133_7 (L : Nat) (xs : Nat → Int32) : decode (ax_code (mgT L xs) 133) 7 = .ok (.istore 4, 2) := by
  show decode prog_11_method_30_code 7 = _
  decide +kernel
theorem d133_9 (L : Nat) (xs : Nat → Int32) : decode (ax_code (mgT L xs) 133) 9 = .ok (.iload 4, 2) := by
  show decode prog_11_method_30_code 9 = _
  decide +kernel
theorem d133_11 (L : Nat) (xs : Nat → Int32) : decode (ax_code (mgT L xs) 133) 11 = .ok (.iconst 1, 1) := by
  show decode prog_11_method_30_code 11 = _
  decide +kernel
theorem d133_12 (L : Nat) (xs : Nat → Int32) : decode (ax_code (mgT L xs) 133) 12 = .ok (.if_icmp .ge 14, 3) := by
  show decode prog_11_method_30_code 12 = _
  decide +kernel
theorem d133_15 (L : Nat) (xs : Nat → Int32) : decode (ax_code (mgT L xs) 133) 15 = .ok (.iload 4, 2) := by
  show decode prog_11_method_30_code 15 = _
  decide +kernel
theorem d133_17 (L : Nat) (xs : Nat → Int32) : decode (ax_code (mgT L xs) 133) 17 = .ok (.ifCond .ne 7, 3) := by
  show decode prog_11_method_30_code 17 = _
  decide +kernel
theorem d133_20 (L : Nat) (xs : Nat → Int32) : decode (ax_code (mgT L xs) 133) 20 = .ok (.iconst 1, 1) := by
  show decode prog_11_method_30_code 20 = _
  decide +kernel
theorem d133_21 (L : Nat) (xs : Nat → Int32) : decode (ax_code (mgT L xs) 133) 21 = .ok (.goto 4, 3) := by
  show decode prog_11_method_30_code 21 = _
  decide +kernel
theorem d133_24 (L : Nat) (xs : Nat → Int32) : decode (ax_code (mgT L xs) 133) 24 = .ok (.iconst 0, 1) := by
  show decode prog_11_method_30_code 24 = _
  decide +kernel
theorem d133_25 (L : Nat) (xs : Nat → Int32) : decode (ax_code (mgT L xs) 133) 25 = .ok (.ireturn, 1) := by
  show decode prog_11_method_30_code 25 = _
  decide +kernel
theorem d133_26 (L : Nat) (xs : Nat → Int32) : decode (ax_code (mgT L xs) 133) 26 = .ok (.aload_n 0, 1) := by
  show decode prog_11_method_30_code 26 = _
  decide +kernel
theorem d133_27 (L : Nat) (xs : Nat → Int32) : decode (ax_code (mgT L xs) 133) 27 = .ok (.getfield 96, 3) := by
  show decode prog_11_method_30_code 27 = _
  decide +kernel
theorem d133_30 (L : Nat) (xs : Nat → Int32) : decode (ax_code (mgT L xs) 133) 30 = .ok (.istore 5, 2) := by
  show decode prog_11_method_30_code 30 = _
  decide +kernel
theorem d133_32 (L : Nat) (xs : Nat → Int32) : decode (ax_code (mgT L xs) 133) 32 = .ok (.iload 4, 2) := by
  show decode prog_11_method_30_code 32 = _
  decide +kernel
theorem d133_34 (L : Nat) (xs : Nat → Int32) : decode (ax_code (mgT L xs) 133) 34 = .ok (.iconst 1, 1) := by
  show decode prog_11_method_30_code 34 = _
  decide +kernel
theorem d133_35 (L : Nat) (xs : Nat → Int32) : decode (ax_code (mgT L xs) 133) 35 = .ok (.if_icmp .eq 9, 3) := by
  show decode prog_11_method_30_code 35 = _
  decide +kernel
theorem d133_38 (L : Nat) (xs : Nat → Int32) : decode (ax_code (mgT L xs) 133) 38 = .ok (.iload 4, 2) := by
  show decode prog_11_method_30_code 38 = _
  decide +kernel
theorem d133_40 (L : Nat) (xs : Nat → Int32) : decode (ax_code (mgT L xs) 133) 40 = .ok (.iconst 5, 1) := by
  show decode prog_11_method_30_code 40 = _
  decide +kernel
theorem d133_41 (L : Nat) (xs : Nat → Int32) : decode (ax_code (mgT L xs) 133) 41 = .ok (.if_icmp .ne 31, 3) := by
  show decode prog_11_method_30_code 41 = _
  decide +kernel
theorem d133_44 (L : Nat) (xs : Nat → Int32) : decode (ax_code (mgT L xs) 133) 44 = .ok (.iload 5, 2) := by
  show decode prog_11_method_30_code 44 = _
  decide +kernel
theorem d133_46 (L : Nat) (xs : Nat → Int32) : decode (ax_code (mgT L xs) 133) 46 = .ok (.iconst 1, 1) := by
  show decode prog_11_method_30_code 46 = _
  decide +kernel
theorem d133_47 (L : Nat) (xs : Nat → Int32) : decode (ax_code (mgT L xs) 133) 47 = .ok (.iadd, 1) := by
  show decode prog_11_method_30_code 47 = _
  decide +kernel
theorem d133_48 (L : Nat) (xs : Nat → Int32) : decode (ax_code (mgT L xs) 133) 48 = .ok (.iload_n 3, 1) := by
  show decode prog_11_method_30_code 48 = _
  decide +kernel
theorem d133_49 (L : Nat) (xs : Nat → Int32) : decode (ax_code (mgT L xs) 133) 49 = .ok (.if_icmp .ge 21, 3) := by
  show decode prog_11_method_30_code 49 = _
  decide +kernel
theorem d133_52 (L : Nat) (xs : Nat → Int32) : decode (ax_code (mgT L xs) 133) 52 = .ok (.aload_n 0, 1) := by
  show decode prog_11_method_30_code 52 = _
  decide +kernel
theorem d133_53 (L : Nat) (xs : Nat → Int32) : decode (ax_code (mgT L xs) 133) 53 = .ok (.iload_n 1, 1) := by
  show decode prog_11_method_30_code 53 = _
  decide +kernel
theorem d133_54 (L : Nat) (xs : Nat → Int32) : decode (ax_code (mgT L xs) 133) 54 = .ok (.iload 5, 2) := by
  show decode prog_11_method_30_code 54 = _
  decide +kernel
theorem d133_56 (L : Nat) (xs : Nat → Int32) : decode (ax_code (mgT L xs) 133) 56 = .ok (.iconst 1, 1) := by
  show decode prog_11_method_30_code 56 = _
  decide +kernel
theorem d133_57 (L : Nat) (xs : Nat → Int32) : decode (ax_code (mgT L xs) 133) 57 = .ok (.iadd, 1) := by
  show decode prog_11_method_30_code 57 = _
  decide +kernel
theorem d133_58 (L : Nat) (xs : Nat → Int32) : decode (ax_code (mgT L xs) 133) 58 = .ok (.iload_n 3, 1) := by
  show decode prog_11_method_30_code 58 = _
  decide +kernel
theorem d133_59 (L : Nat) (xs : Nat → Int32) : decode (ax_code (mgT L xs) 133) 59 = .ok (.iconst 0, 1) := by
  show decode prog_11_method_30_code 59 = _
  decide +kernel
theorem d133_60 (L : Nat) (xs : Nat → Int32) : decode (ax_code (mgT L xs) 133) 60 = .ok (.invokevirtual 177, 3) := by
  show decode prog_11_method_30_code 60 = _
  decide +kernel
theorem d133_63 (L : Nat) (xs : Nat → Int32) : decode (ax_code (mgT L xs) 133) 63 = .ok (.ifCond .eq 7, 3) := by
  show decode prog_11_method_30_code 63 = _
  decide +kernel
theorem d133_66 (L : Nat) (xs : Nat → Int32) : decode (ax_code (mgT L xs) 133) 66 = .ok (.iconst 1, 1) := by
  show decode prog_11_method_30_code 66 = _
  decide +kernel
theorem d133_67 (L : Nat) (xs : Nat → Int32) : decode (ax_code (mgT L xs) 133) 67 = .ok (.goto 4, 3) := by
  show decode prog_11_method_30_code 67 = _
  decide +kernel
theorem d133_70 (L : Nat) (xs : Nat → Int32) : decode (ax_code (mgT L xs) 133) 70 = .ok (.iconst 0, 1) := by
  show decode prog_11_method_30_code 70 = _
  decide +kernel
theorem d133_71 (L : Nat) (xs : Nat → Int32) : decode (ax_code (mgT L xs) 133) 71 = .ok (.ireturn, 1) := by
  show decode prog_11_method_30_code 71 = _
  decide +kernel
theorem d133_72 (L : Nat) (xs : Nat → Int32) : decode (ax_code (mgT L xs) 133) 72 = .ok (.aload_n 0, 1) := by
  show decode prog_11_method_30_code 72 = _
  decide +kernel
theorem d133_73 (L : Nat) (xs : Nat → Int32) : decode (ax_code (mgT L xs) 133) 73 = .ok (.iload_n 1, 1) := by
  show decode prog_11_method_30_code 73 = _
  decide +kernel
theorem d133_74 (L : Nat) (xs : Nat → Int32) : decode (ax_code (mgT L xs) 133) 74 = .ok (.iload 5, 2) := by
  show decode prog_11_method_30_code 74 = _
  decide +kernel
theorem d133_76 (L : Nat) (xs : Nat → Int32) : decode (ax_code (mgT L xs) 133) 76 = .ok (.iload_n 3, 1) := by
  show decode prog_11_method_30_code 76 = _
  decide +kernel
theorem d133_77 (L : Nat) (xs : Nat → Int32) : decode (ax_code (mgT L xs) 133) 77 = .ok (.invokevirtual 181, 3) := by
  show decode prog_11_method_30_code 77 = _
  decide +kernel
theorem d133_80 (L : Nat) (xs : Nat → Int32) : decode (ax_code (mgT L xs) 133) 80 = .ok (.istore 6, 2) := by
  show decode prog_11_method_30_code 80 = _
  decide +kernel
theorem d133_82 (L : Nat) (xs : Nat → Int32) : decode (ax_code (mgT L xs) 133) 82 = .ok (.iconst 1, 1) := by
  show decode prog_11_method_30_code 82 = _
  decide +kernel
theorem d133_83 (L : Nat) (xs : Nat → Int32) : decode (ax_code (mgT L xs) 133) 83 = .ok (.istore 7, 2) := by
  show decode prog_11_method_30_code 83 = _
  decide +kernel
theorem d133_85 (L : Nat) (xs : Nat → Int32) : decode (ax_code (mgT L xs) 133) 85 = .ok (.iload 4, 2) := by
  show decode prog_11_method_30_code 85 = _
  decide +kernel
theorem d133_87 (L : Nat) (xs : Nat → Int32) : decode (ax_code (mgT L xs) 133) 87 = .ok (.iconst 4, 1) := by
  show decode prog_11_method_30_code 87 = _
  decide +kernel
theorem d133_88 (L : Nat) (xs : Nat → Int32) : decode (ax_code (mgT L xs) 133) 88 = .ok (.if_icmp .ne 53, 3) := by
  show decode prog_11_method_30_code 88 = _
  decide +kernel
theorem d133_91 (L : Nat) (xs : Nat → Int32) : decode (ax_code (mgT L xs) 133) 91 = .ok (.aload_n 0, 1) := by
  show decode prog_11_method_30_code 91 = _
  decide +kernel
theorem d133_92 (L : Nat) (xs : Nat → Int32) : decode (ax_code (mgT L xs) 133) 92 = .ok (.aload_n 0, 1) := by
  show decode prog_11_method_30_code 92 = _
  decide +kernel
theorem d133_93 (L : Nat) (xs : Nat → Int32) : decode (ax_code (mgT L xs) 133) 93 = .ok (.getfield 16, 3) := by
  show decode prog_11_method_30_code 93 = _
  decide +kernel
theorem d133_96 (L : Nat) (xs : Nat → Int32) : decode (ax_code (mgT L xs) 133) 96 = .ok (.bipush 100, 2) := by
  show decode prog_11_method_30_code 96 = _
  decide +kernel
theorem d133_98 (L : Nat) (xs : Nat → Int32) : decode (ax_code (mgT L xs) 133) 98 = .ok (.iload_n 1, 1) := by
  show decode prog_11_method_30_code 98 = _
  decide +kernel
theorem d133_99 (L : Nat) (xs : Nat → Int32) : decode (ax_code (mgT L xs) 133) 99 = .ok (.imul, 1) := by
  show decode prog_11_method_30_code 99 = _
  decide +kernel
theorem d133_100 (L : Nat) (xs : Nat → Int32) : decode (ax_code (mgT L xs) 133) 100 = .ok (.iload 5, 2) := by
  show decode prog_11_method_30_code 100 = _
  decide +kernel
theorem d133_102 (L : Nat) (xs : Nat → Int32) : decode (ax_code (mgT L xs) 133) 102 = .ok (.iadd, 1) := by
  show decode prog_11_method_30_code 102 = _
  decide +kernel
theorem d133_103 (L : Nat) (xs : Nat → Int32) : decode (ax_code (mgT L xs) 133) 103 = .ok (.iconst 1, 1) := by
  show decode prog_11_method_30_code 103 = _
  decide +kernel
theorem d133_104 (L : Nat) (xs : Nat → Int32) : decode (ax_code (mgT L xs) 133) 104 = .ok (.iadd, 1) := by
  show decode prog_11_method_30_code 104 = _
  decide +kernel
theorem d133_105 (L : Nat) (xs : Nat → Int32) : decode (ax_code (mgT L xs) 133) 105 = .ok (.bipush 100, 2) := by
  show decode prog_11_method_30_code 105 = _
  decide +kernel
theorem d133_107 (L : Nat) (xs : Nat → Int32) : decode (ax_code (mgT L xs) 133) 107 = .ok (.iload_n 1, 1) := by
  show decode prog_11_method_30_code 107 = _
  decide +kernel
theorem d133_108 (L : Nat) (xs : Nat → Int32) : decode (ax_code (mgT L xs) 133) 108 = .ok (.imul, 1) := by
  show decode prog_11_method_30_code 108 = _
  decide +kernel
theorem d133_109 (L : Nat) (xs : Nat → Int32) : decode (ax_code (mgT L xs) 133) 109 = .ok (.iload 6, 2) := by
  show decode prog_11_method_30_code 109 = _
  decide +kernel
theorem d133_111 (L : Nat) (xs : Nat → Int32) : decode (ax_code (mgT L xs) 133) 111 = .ok (.iadd, 1) := by
  show decode prog_11_method_30_code 111 = _
  decide +kernel
theorem d133_112 (L : Nat) (xs : Nat → Int32) : decode (ax_code (mgT L xs) 133) 112 = .ok (.invokevirtual 107, 3) := by
  show decode prog_11_method_30_code 112 = _
  decide +kernel
theorem d133_115 (L : Nat) (xs : Nat → Int32) : decode (ax_code (mgT L xs) 133) 115 = .ok (.istore 8, 2) := by
  show decode prog_11_method_30_code 115 = _
  decide +kernel
theorem d133_117 (L : Nat) (xs : Nat → Int32) : decode (ax_code (mgT L xs) 133) 117 = .ok (.aload_n 0, 1) := by
  show decode prog_11_method_30_code 117 = _
  decide +kernel
theorem d133_118 (L : Nat) (xs : Nat → Int32) : decode (ax_code (mgT L xs) 133) 118 = .ok (.getfield 96, 3) := by
  show decode prog_11_method_30_code 118 = _
  decide +kernel
theorem d133_121 (L : Nat) (xs : Nat → Int32) : decode (ax_code (mgT L xs) 133) 121 = .ok (.bipush 100, 2) := by
  show decode prog_11_method_30_code 121 = _
  decide +kernel
theorem d133_123 (L : Nat) (xs : Nat → Int32) : decode (ax_code (mgT L xs) 133) 123 = .ok (.iload_n 1, 1) := by
  show decode prog_11_method_30_code 123 = _
  decide +kernel
theorem d133_124 (L : Nat) (xs : Nat → Int32) : decode (ax_code (mgT L xs) 133) 124 = .ok (.imul, 1) := by
  show decode prog_11_method_30_code 124 = _
  decide +kernel
theorem d133_125 (L : Nat) (xs : Nat → Int32) : decode (ax_code (mgT L xs) 133) 125 = .ok (.iload 6, 2) := by
  show decode prog_11_method_30_code 125 = _
  decide +kernel
theorem d133_127 (L : Nat) (xs : Nat → Int32) : decode (ax_code (mgT L xs) 133) 127 = .ok (.iadd, 1) := by
  show decode prog_11_method_30_code 127 = _
  decide +kernel
theorem d133_128 (L : Nat) (xs : Nat → Int32) : decode (ax_code (mgT L xs) 133) 128 = .ok (.if_icmp .ne 7, 3) := by
  show decode prog_11_method_30_code 128 = _
  decide +kernel
theorem d133_131 (L : Nat) (xs : Nat → Int32) : decode (ax_code (mgT L xs) 133) 131 = .ok (.iconst 1, 1) := by
  show decode prog_11_method_30_code 131 = _
  decide +kernel
theorem d133_132 (L : Nat) (xs : Nat → Int32) : decode (ax_code (mgT L xs) 133) 132 = .ok (.goto 4, 3) := by
  show decode prog_11_method_30_code 132 = _
  decide +kernel
theorem d133_135 (L : Nat) (xs : Nat → Int32) : decode (ax_code (mgT L xs) 133) 135 = .ok (.iconst 0, 1) := by
  show decode prog_11_method_30_code 135 = _
  decide +kernel
theorem d133_136 (L : Nat) (xs : Nat → Int32) : decode (ax_code (mgT L xs) 133) 136 = .ok (.istore 7, 2) := by
  show decode prog_11_method_30_code 136 = _
  decide +kernel
theorem d133_138 (L : Nat) (xs : Nat → Int32) : decode (ax_code (mgT L xs) 133) 138 = .ok (.goto 41, 3) := by
  show decode prog_11_method_30_code 138 = _
  decide +kernel
theorem d133_141 (L : Nat) (xs : Nat → Int32) : decode (ax_code (mgT L xs) 133) 141 = .ok (.iload 5, 2) := by
  show decode prog_11_method_30_code 141 = _
  decide +kernel
theorem d133_143 (L : Nat) (xs : Nat → Int32) : decode (ax_code (mgT L xs) 133) 143 = .ok (.iload 6, 2) := by
  show decode prog_11_method_30_code 143 = _
  decide +kernel
theorem d133_145 (L : Nat) (xs : Nat → Int32) : decode (ax_code (mgT L xs) 133) 145 = .ok (.if_icmp .ge 34, 3) := by
  show decode prog_11_method_30_code 145 = _
  decide +kernel
theorem d133_148 (L : Nat) (xs : Nat → Int32) : decode (ax_code (mgT L xs) 133) 148 = .ok (.iload 5, 2) := by
  show decode prog_11_method_30_code 148 = _
  decide +kernel
theorem d133_150 (L : Nat) (xs : Nat → Int32) : decode (ax_code (mgT L xs) 133) 150 = .ok (.iconst 1, 1) := by
  show decode prog_11_method_30_code 150 = _
  decide +kernel
theorem d133_151 (L : Nat) (xs : Nat → Int32) : decode (ax_code (mgT L xs) 133) 151 = .ok (.iadd, 1) := by
  show decode prog_11_method_30_code 151 = _
  decide +kernel
theorem d133_152 (L : Nat) (xs : Nat → Int32) : decode (ax_code (mgT L xs) 133) 152 = .ok (.iload 6, 2) := by
  show decode prog_11_method_30_code 152 = _
  decide +kernel
theorem d133_154 (L : Nat) (xs : Nat → Int32) : decode (ax_code (mgT L xs) 133) 154 = .ok (.if_icmp .ge 22, 3) := by
  show decode prog_11_method_30_code 154 = _
  decide +kernel
theorem d133_157 (L : Nat) (xs : Nat → Int32) : decode (ax_code (mgT L xs) 133) 157 = .ok (.aload_n 0, 1) := by
  show decode prog_11_method_30_code 157 = _
  decide +kernel
theorem d133_158 (L : Nat) (xs : Nat → Int32) : decode (ax_code (mgT L xs) 133) 158 = .ok (.iload_n 1, 1) := by
  show decode prog_11_method_30_code 158 = _
  decide +kernel
theorem d133_159 (L : Nat) (xs : Nat → Int32) : decode (ax_code (mgT L xs) 133) 159 = .ok (.iload 5, 2) := by
  show decode prog_11_method_30_code 159 = _
  decide +kernel
theorem d133_161 (L : Nat) (xs : Nat → Int32) : decode (ax_code (mgT L xs) 133) 161 = .ok (.iconst 1, 1) := by
  show decode prog_11_method_30_code 161 = _
  decide +kernel
theorem d133_162 (L : Nat) (xs : Nat → Int32) : decode (ax_code (mgT L xs) 133) 162 = .ok (.iadd, 1) := by
  show decode prog_11_method_30_code 162 = _
  decide +kernel
theorem d133_163 (L : Nat) (xs : Nat → Int32) : decode (ax_code (mgT L xs) 133) 163 = .ok (.iload 6, 2) := by
  show decode prog_11_method_30_code 163 = _
  decide +kernel
theorem d133_165 (L : Nat) (xs : Nat → Int32) : decode (ax_code (mgT L xs) 133) 165 = .ok (.iconst 0, 1) := by
  show decode prog_11_method_30_code 165 = _
  decide +kernel
theorem d133_166 (L : Nat) (xs : Nat → Int32) : decode (ax_code (mgT L xs) 133) 166 = .ok (.invokevirtual 177, 3) := by
  show decode prog_11_method_30_code 166 = _
  decide +kernel
theorem d133_169 (L : Nat) (xs : Nat → Int32) : decode (ax_code (mgT L xs) 133) 169 = .ok (.ifCond .eq 7, 3) := by
  show decode prog_11_method_30_code 169 = _
  decide +kernel
theorem d133_172 (L : Nat) (xs : Nat → Int32) : decode (ax_code (mgT L xs) 133) 172 = .ok (.iconst 1, 1) := by
  show decode prog_11_method_30_code 172 = _
  decide +kernel
theorem d133_173 (L : Nat) (xs : Nat → Int32) : decode (ax_code (mgT L xs) 133) 173 = .ok (.goto 4, 3) := by
  show decode prog_11_method_30_code 173 = _
  decide +kernel
theorem d133_176 (L : Nat) (xs : Nat → Int32) : decode (ax_code (mgT L xs) 133) 176 = .ok (.iconst 0, 1) := by
  show decode prog_11_method_30_code 176 = _
  decide +kernel
theorem d133_177 (L : Nat) (xs : Nat → Int32) : decode (ax_code (mgT L xs) 133) 177 = .ok (.istore 7, 2) := by
  show decode prog_11_method_30_code 177 = _
  decide +kernel
theorem d133_179 (L : Nat) (xs : Nat → Int32) : decode (ax_code (mgT L xs) 133) 179 = .ok (.iload 7, 2) := by
  show decode prog_11_method_30_code 179 = _
  decide +kernel
theorem d133_181 (L : Nat) (xs : Nat → Int32) : decode (ax_code (mgT L xs) 133) 181 = .ok (.ifCond .eq 69, 3) := by
  show decode prog_11_method_30_code 181 = _
  decide +kernel
theorem d133_184 (L : Nat) (xs : Nat → Int32) : decode (ax_code (mgT L xs) 133) 184 = .ok (.iload 6, 2) := by
  show decode prog_11_method_30_code 184 = _
  decide +kernel
theorem d133_186 (L : Nat) (xs : Nat → Int32) : decode (ax_code (mgT L xs) 133) 186 = .ok (.iload_n 3, 1) := by
  show decode prog_11_method_30_code 186 = _
  decide +kernel
theorem d133_187 (L : Nat) (xs : Nat → Int32) : decode (ax_code (mgT L xs) 133) 187 = .ok (.if_icmp .ge 63, 3) := by
  show decode prog_11_method_30_code 187 = _
  decide +kernel
theorem d133_190 (L : Nat) (xs : Nat → Int32) : decode (ax_code (mgT L xs) 133) 190 = .ok (.aload_n 0, 1) := by
  show decode prog_11_method_30_code 190 = _
  decide +kernel
theorem d133_191 (L : Nat) (xs : Nat → Int32) : decode (ax_code (mgT L xs) 133) 191 = .ok (.aload_n 0, 1) := by
  show decode prog_11_method_30_code 191 = _
  decide +kernel
theorem d133_192 (L : Nat) (xs : Nat → Int32) : decode (ax_code (mgT L xs) 133) 192 = .ok (.getfield 16, 3) := by
  show decode prog_11_method_30_code 192 = _
  decide +kernel
theorem d133_195 (L : Nat) (xs : Nat → Int32) : decode (ax_code (mgT L xs) 133) 195 = .ok (.bipush 100, 2) := by
  show decode prog_11_method_30_code 195 = _
  decide +kernel
theorem d133_197 (L : Nat) (xs : Nat → Int32) : decode (ax_code (mgT L xs) 133) 197 = .ok (.iload_n 1, 1) := by
  show decode prog_11_method_30_code 197 = _
  decide +kernel
theorem d133_198 (L : Nat) (xs : Nat → Int32) : decode (ax_code (mgT L xs) 133) 198 = .ok (.imul, 1) := by
  show decode prog_11_method_30_code 198 = _
  decide +kernel
theorem d133_199 (L : Nat) (xs : Nat → Int32) : decode (ax_code (mgT L xs) 133) 199 = .ok (.iload 6, 2) := by
  show decode prog_11_method_30_code 199 = _
  decide +kernel
theorem d133_201 (L : Nat) (xs : Nat → Int32) : decode (ax_code (mgT L xs) 133) 201 = .ok (.iadd, 1) := by
  show decode prog_11_method_30_code 201 = _
  decide +kernel
theorem d133_202 (L : Nat) (xs : Nat → Int32) : decode (ax_code (mgT L xs) 133) 202 = .ok (.iconst 1, 1) := by
  show decode prog_11_method_30_code 202 = _
  decide +kernel
theorem d133_203 (L : Nat) (xs : Nat → Int32) : decode (ax_code (mgT L xs) 133) 203 = .ok (.iadd, 1) := by
  show decode prog_11_method_30_code 203 = _
  decide +kernel
theorem d133_204 (L : Nat) (xs : Nat → Int32) : decode (ax_code (mgT L xs) 133) 204 = .ok (.bipush 100, 2) := by
  show decode prog_11_method_30_code 204 = _
  decide +kernel
theorem d133_206 (L : Nat) (xs : Nat → Int32) : decode (ax_code (mgT L xs) 133) 206 = .ok (.iload_n 1, 1) := by
  show decode prog_11_method_30_code 206 = _
  decide +kernel
theorem d133_207 (L : Nat) (xs : Nat → Int32) : decode (ax_code (mgT L xs) 133) 207 = .ok (.imul, 1) := by
  show decode prog_11_method_30_code 207 = _
  decide +kernel
theorem d133_208 (L : Nat) (xs : Nat → Int32) : decode (ax_code (mgT L xs) 133) 208 = .ok (.iload_n 3, 1) := by
  show decode prog_11_method_30_code 208 = _
  decide +kernel
theorem d133_209 (L : Nat) (xs : Nat → Int32) : decode (ax_code (mgT L xs) 133) 209 = .ok (.iadd, 1) := by
  show decode prog_11_method_30_code 209 = _
  decide +kernel
theorem d133_210 (L : Nat) (xs : Nat → Int32) : decode (ax_code (mgT L xs) 133) 210 = .ok (.bipush 32, 2) := by
  show decode prog_11_method_30_code 210 = _
  decide +kernel
theorem d133_212 (L : Nat) (xs : Nat → Int32) : decode (ax_code (mgT L xs) 133) 212 = .ok (.invokevirtual 99, 3) := by
  show decode prog_11_method_30_code 212 = _
  decide +kernel
theorem d133_215 (L : Nat) (xs : Nat → Int32) : decode (ax_code (mgT L xs) 133) 215 = .ok (.ifCond .lt 7, 3) := by
  show decode prog_11_method_30_code 215 = _
  decide +kernel
theorem d133_218 (L : Nat) (xs : Nat → Int32) : decode (ax_code (mgT L xs) 133) 218 = .ok (.iconst 1, 1) := by
  show decode prog_11_method_30_code 218 = _
  decide +kernel
theorem d133_219 (L : Nat) (xs : Nat → Int32) : decode (ax_code (mgT L xs) 133) 219 = .ok (.goto 4, 3) := by
  show decode prog_11_method_30_code 219 = _
  decide +kernel
theorem d133_222 (L : Nat) (xs : Nat → Int32) : decode (ax_code (mgT L xs) 133) 222 = .ok (.iconst 0, 1) := by
  show decode prog_11_method_30_code 222 = _
  decide +kernel
theorem d133_223 (L : Nat) (xs : Nat → Int32) : decode (ax_code (mgT L xs) 133) 223 = .ok (.istore 7, 2) := by
  show decode prog_11_method_30_code 223 = _
  decide +kernel
theorem d133_225 (L : Nat) (xs : Nat → Int32) : decode (ax_code (mgT L xs) 133) 225 = .ok (.iload 7, 2) := by
  show decode prog_11_method_30_code 225 = _
  decide +kernel
theorem d133_227 (L : Nat) (xs : Nat → Int32) : decode (ax_code (mgT L xs) 133) 227 = .ok (.ifCond .eq 20, 3) := by
  show decode prog_11_method_30_code 227 = _
  decide +kernel
theorem d133_230 (L : Nat) (xs : Nat → Int32) : decode (ax_code (mgT L xs) 133) 230 = .ok (.aload_n 0, 1) := by
  show decode prog_11_method_30_code 230 = _
  decide +kernel
theorem d133_231 (L : Nat) (xs : Nat → Int32) : decode (ax_code (mgT L xs) 133) 231 = .ok (.getfield 96, 3) := by
  show decode prog_11_method_30_code 231 = _
  decide +kernel
theorem d133_234 (L : Nat) (xs : Nat → Int32) : decode (ax_code (mgT L xs) 133) 234 = .ok (.bipush 100, 2) := by
  show decode prog_11_method_30_code 234 = _
  decide +kernel
theorem d133_236 (L : Nat) (xs : Nat → Int32) : decode (ax_code (mgT L xs) 133) 236 = .ok (.iload_n 1, 1) := by
  show decode prog_11_method_30_code 236 = _
  decide +kernel
theorem d133_237 (L : Nat) (xs : Nat → Int32) : decode (ax_code (mgT L xs) 133) 237 = .ok (.imul, 1) := by
  show decode prog_11_method_30_code 237 = _
  decide +kernel
theorem d133_238 (L : Nat) (xs : Nat → Int32) : decode (ax_code (mgT L xs) 133) 238 = .ok (.iload_n 3, 1) := by
  show decode prog_11_method_30_code 238 = _
  decide +kernel
theorem d133_239 (L : Nat) (xs : Nat → Int32) : decode (ax_code (mgT L xs) 133) 239 = .ok (.iadd, 1) := by
  show decode prog_11_method_30_code 239 = _
  decide +kernel
theorem d133_240 (L : Nat) (xs : Nat → Int32) : decode (ax_code (mgT L xs) 133) 240 = .ok (.if_icmp .ne 7, 3) := by
  show decode prog_11_method_30_code 240 = _
  decide +kernel
theorem d133_243 (L : Nat) (xs : Nat → Int32) : decode (ax_code (mgT L xs) 133) 243 = .ok (.iconst 1, 1) := by
  show decode prog_11_method_30_code 243 = _
  decide +kernel
theorem d133_244 (L : Nat) (xs : Nat → Int32) : decode (ax_code (mgT L xs) 133) 244 = .ok (.goto 4, 3) := by
  show decode prog_11_method_30_code 244 = _
  decide +kernel
theorem d133_247 (L : Nat) (xs : Nat → Int32) : decode (ax_code (mgT L xs) 133) 247 = .ok (.iconst 0, 1) := by
  show decode prog_11_method_30_code 247 = _
  decide +kernel
theorem d133_248 (L : Nat) (xs : Nat → Int32) : decode (ax_code (mgT L xs) 133) 248 = .ok (.istore 7, 2) := by
  show decode prog_11_method_30_code 248 = _
  decide +kernel
theorem d133_250 (L : Nat) (xs : Nat → Int32) : decode (ax_code (mgT L xs) 133) 250 = .ok (.iload 7, 2) := by
  show decode prog_11_method_30_code 250 = _
  decide +kernel
theorem d133_252 (L : Nat) (xs : Nat → Int32) : decode (ax_code (mgT L xs) 133) 252 = .ok (.ireturn, 1) := by
  show decode prog_11_method_30_code 252 = _
  decide +kernel
/-- the bits behind a slash are well written, or there are none -/
def r_tail (D : List Nat) (j S : Nat) : Bool := if S < j then (r_num (gl D) (S + 1) 32 (r_dg (gl D) j (S + 1))).isSome && decide ((r_dg (gl D) j (S + 1)).2 = j) else true
def r_isK (D : List Nat) (j k rd S : Nat) : Bool :=
  if k = 0 then true else if k = 1 ∨ k = 5 then decide (rd + 1 < j) && f_tgs D false j (j - (rd + 1)) (rd + 1)
  else (if k = 4 then (a_end S (r_addr (gl D) S 4 0 (rd + 1))).isSome else if rd < S then decide (rd + 1 < S) && f_tgs D false S (S - (rd + 1)) (rd + 1) else true) && r_tail D j S
def r_isM (D : List Nat) (i j : Nat) : Bool := match r_m1 D i j with
  | (none, _) => false
  | (some k, rd) => r_isK D j k rd (f_find (gl D) 47 rd (j - rd))
theorem r_isM_n {D : List Nat} {i j rd : Nat} (h : r_m1 D i j = (none, rd)) : r_isM D i j = false := by unfold r_isM; rw [h]
theorem r_isM_s {D : List Nat} {i j k rd : Nat} (h : r_m1 D i j = (some k, rd)) : r_isM D i j = r_isK D j k rd (f_find (gl D) 47 rd (j - rd)) := by unfold r_isM; rw [h]
theorem r_tail_eq {D : List Nat} {i j S : Nat} (hS : t_sl (gl D) i j = S) : r_tail D j S = (t_bits (gl D) i j).isSome := by
  unfold r_tail t_bits
  rw [hS]
  by_cases e : S < j
  · rw [if_pos e, if_pos e, num_eq (by omega)]
    by_cases e2 : (r_dg (gl D) j (S + 1)).2 = j
    · rw [if_pos e2, decide_eq_true e2, Bool.and_true]
    · rw [if_neg e2, decide_eq_false e2, Bool.and_false]; rfl
  · rw [if_neg e, if_neg e]; rfl
theorem rest_k {g : Nat → Nat} {i j res k : Nat} (h : t_kind g i (t_co g i j) = some k) : (t_rest g i j res).isSome = ((t_bits g i j).isSome && (t_rk g i j res k 0).isSome) := by
  unfold t_rest
  rw [h]
  show ((t_bits g i j).bind (fun b => t_rk g i j res k b)).isSome = _
  cases t_bits g i j with
  | none => rfl
  | some b =>
    show (t_rk g i j res k b).isSome = (true && (t_rk g i j res k 0).isSome)
    rw [Bool.true_and]
    unfold t_rk
    split
    · split <;> rfl
    · split
      · split <;> rfl
      · split
        · split <;> rfl
        · rw [Option.isSome_map, Option.isSome_map]
theorem isM_eq {D : List Nat} {i j res : Nat} (hj : j ≤ D.length) (hi : i ≤ j) (h32 : ga D j = 32) (hb : ∀ k, i ≤ k → k < j → 33 ≤ gl D k) : r_isM D i j = (t_rest (gl D) i j res).isSome := by
  cases hm : r_m1 D i j with
  | mk o rd =>
    cases o with
    | none => rw [r_isM_n hm, r_m_none hj hi h32 hm]; rfl
    | some k =>
      rw [r_isM_s hm]
      obtain ⟨k5, hlt, hle, hk, hco, hsl, h145, h0, hrd⟩ := r_m_some hj hi h32 hm
      obtain ⟨f1, f2, f3, f4⟩ := f_find_s (g := gl D) (c := 47) (j - rd) rd
      generalize hS : f_find (gl D) 47 rd (j - rd) = S at *
      have hSj : S ≤ j := by omega
      rw [rest_k (k := k) (by rw [hco]; exact hk), ← r_tail_eq hsl]
      have htf : t_tf (gl D) i j = if rd < S then rd + 1 else S := by unfold t_tf; rw [hco, hsl]
      unfold r_isK
      by_cases c0 : k = 0
      · subst c0
        have := h0 rfl
        have hSS : S = j := by omega
        rw [if_pos rfl]
        unfold r_tail t_rk
        rw [if_neg (by omega), if_pos rfl, hco, hsl, if_pos ⟨by omega, by omega⟩]
        rfl
      · rw [if_neg c0]
        by_cases c1 : k = 1 ∨ k = 5
        · rw [if_pos c1]
          obtain ⟨h1, h2⟩ := h145 (by omega)
          unfold t_rk
          rw [if_neg c0, if_pos c1, hsl]
          have hrS : rd < S := by
            rcases Nat.lt_or_ge rd S with q | q
            · exact q
            · have : S = rd := by omega
              have := f4 (by omega)
              rw [‹S = rd›, h2] at this
              omega
          rw [htf, if_pos hrS]
          by_cases e : S < j
          · have := f4 (by omega)
            rw [tgs_sl (j - (rd + 1)) (rd + 1) S (by omega) (by omega) e this, Bool.and_false, if_neg (fun q => q.1 e)]
            rw [show (none : Option tmT).isSome = false from rfl, Bool.and_false]
          · have hSS : S = j := by omega
            subst hSS
            unfold r_tail
            rw [if_neg e, Bool.true_and, tgs_eq _ _ (fun k q1 q2 => hb k (by omega) q2) (Or.inr (fun k q1 q2 => f3 k (by omega) q2))]
            by_cases e2 : t_tgt (gl D) (rd + 1) S = true
            · rw [if_pos ⟨e, e2⟩]
              exact e2
            · rw [if_neg (fun q => e2 q.2)]
              exact Bool.eq_false_iff.mpr e2
        · rw [if_neg c1]
          by_cases c4 : k = 4
          · subst c4
            rw [if_pos rfl]
            obtain ⟨h1, h2⟩ := h145 (by omega)
            have hrS : rd < S := by
              rcases Nat.lt_or_ge rd S with q | q
              · exact q
              · have : S = rd := by omega
                have := f4 (by omega)
                rw [‹S = rd›, h2] at this
                omega
            rw [Bool.and_comm]
            congr 1
            unfold t_rk
            rw [if_neg (by omega), if_neg (by omega), if_neg (by omega), Option.isSome_map, htf, if_pos hrS, hsl, adr_same (by omega)]
          · rw [if_neg c4, Bool.and_comm]
            congr 1
            unfold t_rk
            rw [if_neg c0, if_neg c1, if_pos (show k = 2 ∨ k = 3 by omega), hco, hsl, htf]
            by_cases e : rd < S
            · rw [if_pos e, if_pos e, tgs_eq _ _ (fun k q1 q2 => hb k (by omega) (by omega)) (Or.inr (fun k q1 q2 => f3 k (by omega) q2))]
              by_cases e2 : t_tgt (gl D) (rd + 1) S = true
              · rw [if_pos (Or.inr e2)]
                exact e2
              · rw [if_neg (fun q => q.elim (fun z => z e) e2)]
                exact Bool.eq_false_iff.mpr e2
            · rw [if_neg e, if_pos (Or.inl e)]
              rfl
section RM
variable {L : Nat} {xs : Nat → Int32} {d r c : Nat} {D : List Nat} {s : mg_s}
theorem rec_g {s : mg_s} {r c : Nat} {D : List Nat} (hR : isRec s r c D) {b : Nat} (hb : b ≤ D.length) : ∀ k, 100 * r + c ≤ k → k < 100 * r + c + b → s.2.1 144 k = nI (g_sh (gl D) (100 * r + c) k) ∧ g_sh (gl D) (100 * r + c) k < 65536 := fun k h1 h2 => by
  have e : k = 100 * r + c + (k - (100 * r + c)) := by omega
  have hl := rec_gl hR (k - (100 * r + c))
  have hg : g_sh (gl D) (100 * r + c) k = gl D (k - (100 * r + c)) := rfl
  rw [hg]
  exact ⟨rec_at hR (by omega) (by omega), by omega⟩
theorem md_numR {a b most : Nat} (hR : isRec s r c D) (ha : a ≤ b) (hb : b ≤ D.length) (hmo : most < 2 ^ 30) : ca L xs (d + 2) 114 [.ref 141, .ref 144, .int (nI (100 * r + (c + a))), .int (nI (100 * r + (c + b))), .int (nI most)] s (fun v s' => v = some (.int (oI (r_num (gl D) a most (r_dg (gl D) b a)))) ∧ mg_I s 141 9 (nI (100 * r + (c + (r_dg (gl D) b a).2))) = s') := by
  have hr16 := hR.1
  have hcl := hR.2.2.1
  have h := md_numberZ (L := L) (xs := xs) (d := d) (s := s) (fr := 100 * r + c + a) (to := 100 * r + c + b) (most := most) isA_all.2.2.1 (rec_g hR hb) (by omega) (by omega) (by omega) hmo (by omega)
  have e := r_dg_sh (gl D) (100 * r + c) b a
  unfold r_dg at e
  rw [e, r_num_sh] at h
  rw [← Nat.add_assoc, ← Nat.add_assoc, ← Nat.add_assoc]
  exact h
theorem md_adrR {a b : Nat} (hR : isRec s r c D) (ha : a ≤ b) (hb : b ≤ D.length) : ca L xs (d + 3) 113 [.ref 141, .ref 144, .int (nI (100 * r + (c + a))), .int (nI (100 * r + (c + b)))] s (fun v s' => v = some (.int (aI (r_addr (gl D) b 4 0 a))) ∧ mg_I s 141 9 (aR ((r_addr (gl D) b 4 0 a).map (fun p => (p.1, 100 * r + (c + p.2))))) = s') := by
  have hr16 := hR.1
  have hcl := hR.2.2.1
  have h := md_readAddressZ (L := L) (xs := xs) (d := d) (s := s) (fr := 100 * r + c + a) (to := 100 * r + c + b) isA_all.2.2.1 (rec_g hR hb) (by omega) (by omega) (by omega) (by omega)
  rw [r_addr_sh] at h
  rw [← Nat.add_assoc, ← Nat.add_assoc]
  have e1 : aI ((r_addr (gl D) b 4 0 a).map (fun p => (p.1, 100 * r + c + p.2))) = aI (r_addr (gl D) b 4 0 a) := by cases r_addr (gl D) b 4 0 a <;> rfl
  have e2 : (fun p : Nat × Nat => (p.1, 100 * r + (c + p.2))) = (fun p => (p.1, 100 * r + c + p.2)) := by funext p; rw [Nat.add_assoc]
  rw [e1] at h
  rw [e2]
  exact h
theorem md_im_t {i j k rd S : Nat} {gd : Bool} {c8 : Option Value} (hR : isRec s r c D) (hj : j ≤ D.length) (hS : S ≤ j) : wp L xs (d + 3) 133 179 [some (.ref 141), some (.int (nI r)), some (.int (nI (c + i))), some (.int (nI (c + j))), some (.int (nI k)), some (.int (nI (c + rd))), some (.int (nI (c + S))), some (.int (nI (bI gd))), c8] [] s (fun v s' => v = some (.int (nI (bI (gd && r_tail D j S)))) ∧ mfr s s' [9] []) := by
  have hr16 := hR.1
  have hc1 := hR.2.1
  have hcl := hR.2.2.1
  have hb := bI_lt gd
  refine wg_iload (d133_179 L xs) rfl ?_
  refine wn_if_eq (d133_181 L xs) (x := bI gd) (by omega) (t := 250) (by decide) (fun h1 => ?_) (fun h1 => ?_)
  · refine wg_iload (d133_250 L xs) rfl ?_
    exact wg_iret (d133_252 L xs) rfl (nar_b _) ⟨by rw [bI_f h1]; rfl, mfr.rf s _ _⟩
  · refine wg_iload (d133_184 L xs) rfl ?_
    refine wg_iload_n (d133_186 L xs) rfl ?_
    refine wn_icmp_ge (d133_187 L xs) (x := c + S) (y := c + j) (by omega) (by omega) (t := 250) (by decide) (fun h2 => ?_) (fun h2 => ?_)
    · refine wg_iload (d133_250 L xs) rfl ?_
      exact wg_iret (d133_252 L xs) rfl (nar_b _) ⟨by rw [bI_t h1, Bool.true_and]; unfold r_tail; rw [if_neg (show ¬ S < j by omega)], mfr.rf s _ _⟩
    · have hle := r_dg_ge (g := gl D) (to := j) (k := S + 1)
      have hle2 := r_dg_le (g := gl D) (to := j) (k := S + 1) (by omega)
      rw [bI_t h1, Bool.true_and]
      unfold r_tail
      rw [if_pos (show S < j by omega)]
      cases hq : r_num (gl D) (S + 1) 32 (r_dg (gl D) j (S + 1)) with
      | none =>
        refine wg_aload_n (d133_190 L xs) rfl ?_
        refine wg_aload_n (d133_191 L xs) rfl ?_
        refine wg_get (d133_192 L xs) (kd := 1) (cj := 9) (k0 := 5) rfl (Or.inl rfl) (by decide) rfl rfl ?_
        refine wg_bipush (d133_195 L xs) (x := 100) (by decide) ?_
        refine wg_iload_n (d133_197 L xs) rfl ?_
        refine wg_imul (d133_198 L xs) ?_
        refine wg_top (y := (nI (100 * r))) (pk_mul 100 r) ?_
        refine wg_iload (d133_199 L xs) rfl ?_
        refine wg_iadd (d133_201 L xs) ?_
        refine wg_top (y := (nI ((100 * r) + (c + S)))) (nI_add (100 * r) (c + S)) ?_
        refine wg_iconst (d133_202 L xs) (x := 1) (by decide) ?_
        refine wg_iadd (d133_203 L xs) ?_
        refine wg_top (y := (nI (((100 * r) + (c + S)) + 1))) (nI_add ((100 * r) + (c + S)) 1) ?_
        refine wg_bipush (d133_204 L xs) (x := 100) (by decide) ?_
        refine wg_iload_n (d133_206 L xs) rfl ?_
        refine wg_imul (d133_207 L xs) ?_
        refine wg_top (y := (nI (100 * r))) (pk_mul 100 r) ?_
        refine wg_iload_n (d133_208 L xs) rfl ?_
        refine wg_iadd (d133_209 L xs) ?_
        refine wg_top (y := (nI ((100 * r) + (c + j)))) (nI_add (100 * r) (c + j)) ?_
        refine wg_bipush (d133_210 L xs) (x := 32) (by decide) ?_
        refine wg_invv (d133_212 L xs) (kd := 7) (mj := 114) (n := 4) rfl (Or.inl rfl) (ys := [.int 32, .int (nI ((100 * r) + (c + j))), .int (nI (((100 * r) + (c + S)) + 1)), .ref 144]) (r := []) rfl rfl (by decide) rfl rfl (Nat.le_of_ble_eq_true rfl) (by have h := md_numR (L := L) (xs := xs) (d := d + 1) (a := S + 1) (b := j) (most := 32) hR (by omega) hj (by omega); rw [hq] at h; exact h) ?_
        rintro _ _ ⟨rfl, rfl⟩
        refine wg_if_lt (d133_215 L xs) (t := 222) (by decide) (fun _ => ?_) (fun hn => absurd (by decide) hn)
        refine wg_iconst (d133_222 L xs) (x := 0) (by decide) ?_
        refine wg_istore (d133_223 L xs) (ls' := [some (.ref 141), some (.int (nI r)), some (.int (nI (c + i))), some (.int (nI (c + j))), some (.int (nI k)), some (.int (nI (c + rd))), some (.int (nI (c + S))), some (.int 0), c8]) (Nat.le_of_ble_eq_true rfl) rfl ?_
        refine wg_iload (d133_225 L xs) rfl ?_
        refine wg_if_eq (d133_227 L xs) (t := 247) (by decide) (fun _ => ?_) (fun hn => absurd (by decide) hn)
        refine wg_iconst (d133_247 L xs) (x := 0) (by decide) ?_
        refine wg_istore (d133_248 L xs) (ls' := [some (.ref 141), some (.int (nI r)), some (.int (nI (c + i))), some (.int (nI (c + j))), some (.int (nI k)), some (.int (nI (c + rd))), some (.int (nI (c + S))), some (.int 0), c8]) (Nat.le_of_ble_eq_true rfl) rfl ?_
        refine wg_iload (d133_250 L xs) rfl ?_
        exact wg_iret (d133_252 L xs) rfl rfl ⟨rfl, mfr_I s (by decide)⟩
      | some b =>
        have hb32 := r_num_le hq
        refine wg_aload_n (d133_190 L xs) rfl ?_
        refine wg_aload_n (d133_191 L xs) rfl ?_
        refine wg_get (d133_192 L xs) (kd := 1) (cj := 9) (k0 := 5) rfl (Or.inl rfl) (by decide) rfl rfl ?_
        refine wg_bipush (d133_195 L xs) (x := 100) (by decide) ?_
        refine wg_iload_n (d133_197 L xs) rfl ?_
        refine wg_imul (d133_198 L xs) ?_
        refine wg_top (y := (nI (100 * r))) (pk_mul 100 r) ?_
        refine wg_iload (d133_199 L xs) rfl ?_
        refine wg_iadd (d133_201 L xs) ?_
        refine wg_top (y := (nI ((100 * r) + (c + S)))) (nI_add (100 * r) (c + S)) ?_
        refine wg_iconst (d133_202 L xs) (x := 1) (by decide) ?_
        refine wg_iadd (d133_203 L xs) ?_
        refine wg_top (y := (nI (((100 * r) + (c + S)) + 1))) (nI_add ((100 * r) + (c + S)) 1) ?_
        refine wg_bipush (d133_204 L xs) (x := 100) (by decide) ?_
        refine wg_iload_n (d133_206 L xs) rfl ?_
        refine wg_imul (d133_207 L xs) ?_
        refine wg_top (y := (nI (100 * r))) (pk_mul 100 r) ?_
        refine wg_iload_n (d133_208 L xs) rfl ?_
        refine wg_iadd (d133_209 L xs) ?_
        refine wg_top (y := (nI ((100 * r) + (c + j)))) (nI_add (100 * r) (c + j)) ?_
        refine wg_bipush (d133_210 L xs) (x := 32) (by decide) ?_
        refine wg_invv (d133_212 L xs) (kd := 7) (mj := 114) (n := 4) rfl (Or.inl rfl) (ys := [.int 32, .int (nI ((100 * r) + (c + j))), .int (nI (((100 * r) + (c + S)) + 1)), .ref 144]) (r := []) rfl rfl (by decide) rfl rfl (Nat.le_of_ble_eq_true rfl) (by have h := md_numR (L := L) (xs := xs) (d := d + 1) (a := S + 1) (b := j) (most := 32) hR (by omega) hj (by omega); rw [hq] at h; exact h) ?_
        rintro _ _ ⟨rfl, rfl⟩
        refine wn_if_lt (d133_215 L xs) (x := b) (by omega) (t := 222) (by decide) (fun h21 => by omega) (fun h21 => ?_)
        refine wg_iconst (d133_218 L xs) (x := 1) (by decide) ?_
        refine wg_goto (d133_219 L xs) (t := 223) (by decide) ?_
        refine wg_istore (d133_223 L xs) (ls' := [some (.ref 141), some (.int (nI r)), some (.int (nI (c + i))), some (.int (nI (c + j))), some (.int (nI k)), some (.int (nI (c + rd))), some (.int (nI (c + S))), some (.int 1), c8]) (Nat.le_of_ble_eq_true rfl) rfl ?_
        refine wg_iload (d133_225 L xs) rfl ?_
        refine wg_if_eq (d133_227 L xs) (t := 247) (by decide) (fun hp => absurd hp (by decide)) (fun _ => ?_)
        refine wg_aload_n (d133_230 L xs) rfl ?_
        refine wg_get (d133_231 L xs) (kd := 1) (cj := 9) (k0 := 9) rfl (Or.inl rfl) (by decide) rfl rfl ?_
        refine wg_top (y := (nI (100 * r + (c + (r_dg (gl D) j (S + 1)).2)))) rfl ?_
        refine wg_bipush (d133_234 L xs) (x := 100) (by decide) ?_
        refine wg_iload_n (d133_236 L xs) rfl ?_
        refine wg_imul (d133_237 L xs) ?_
        refine wg_top (y := (nI (100 * r))) (pk_mul 100 r) ?_
        refine wg_iload_n (d133_238 L xs) rfl ?_
        refine wg_iadd (d133_239 L xs) ?_
        refine wg_top (y := (nI ((100 * r) + (c + j)))) (nI_add (100 * r) (c + j)) ?_
        refine wn_icmp_ne (d133_240 L xs) (x := 100 * r + (c + (r_dg (gl D) j (S + 1)).2)) (y := (100 * r) + (c + j)) (by omega) (by omega) (t := 247) (by decide) (fun h23 => ?_) (fun h23 => ?_)
        · refine wg_iconst (d133_247 L xs) (x := 0) (by decide) ?_
          refine wg_istore (d133_248 L xs) (ls' := [some (.ref 141), some (.int (nI r)), some (.int (nI (c + i))), some (.int (nI (c + j))), some (.int (nI k)), some (.int (nI (c + rd))), some (.int (nI (c + S))), some (.int 0), c8]) (Nat.le_of_ble_eq_true rfl) rfl ?_
          refine wg_iload (d133_250 L xs) rfl ?_
          exact wg_iret (d133_252 L xs) rfl rfl ⟨by rw [decide_eq_false (show ¬ (r_dg (gl D) j (S + 1)).2 = j by omega)]; rfl, mfr_I s (by decide)⟩
        · refine wg_iconst (d133_243 L xs) (x := 1) (by decide) ?_
          refine wg_goto (d133_244 L xs) (t := 248) (by decide) ?_
          refine wg_istore (d133_248 L xs) (ls' := [some (.ref 141), some (.int (nI r)), some (.int (nI (c + i))), some (.int (nI (c + j))), some (.int (nI k)), some (.int (nI (c + rd))), some (.int (nI (c + S))), some (.int 1), c8]) (Nat.le_of_ble_eq_true rfl) rfl ?_
          refine wg_iload (d133_250 L xs) rfl ?_
          exact wg_iret (d133_252 L xs) rfl rfl ⟨by rw [decide_eq_true (show (r_dg (gl D) j (S + 1)).2 = j by omega)]; rfl, mfr_I s (by decide)⟩
theorem md_isM {i j : Nat} (hR : isRec s r c D) (hj : j ≤ D.length) (hi : i ≤ j) (h32 : ga D j = 32) : ca L xs (d + 4) 133 [.ref 141, .int (nI r), .int (nI (c + i)), .int (nI (c + j))] s (fun v s' => v = some (.int (nI (bI (r_isM D i j)))) ∧ mfr s s' [9] []) := by
  refine wg_call (Nat.le_of_ble_eq_true rfl) ?_
  have hr16 := hR.1
  have hc1 := hR.2.1
  have hcl := hR.2.2.1
  show wp L xs (d + 3) 133 0 [some (.ref 141), some (.int (nI r)), some (.int (nI (c + i))), some (.int (nI (c + j))), none, none, none, none, none] [] s _
  cases hm : r_m1 D i j with
  | mk o rd =>
    cases o with
    | none =>
      refine wg_aload_n (d133_0 L xs) rfl ?_
      refine wg_iload_n (d133_1 L xs) rfl ?_
      refine wg_iload_n (d133_2 L xs) rfl ?_
      refine wg_iload_n (d133_3 L xs) rfl ?_
      refine wg_invv (d133_4 L xs) (kd := 7) (mj := 134) (n := 3) rfl (Or.inl rfl) (ys := [.int (nI (c + j)), .int (nI (c + i)), .int (nI r)]) (r := []) rfl rfl (by decide) rfl rfl (Nat.le_of_ble_eq_true rfl) (by have h := md_mech (L := L) (xs := xs) (d := d) hR hj hi; rw [hm] at h; exact h) ?_
      rintro _ _ ⟨rfl, rfl⟩
      refine wg_istore (d133_7 L xs) (ls' := [some (.ref 141), some (.int (nI r)), some (.int (nI (c + i))), some (.int (nI (c + j))), some (.int (-1)), none, none, none, none]) (Nat.le_of_ble_eq_true rfl) rfl ?_
      refine wg_iload (d133_9 L xs) rfl ?_
      refine wg_iconst (d133_11 L xs) (x := 1) (by decide) ?_
      refine wg_icmp_ge (d133_12 L xs) (t := 26) (by decide) (fun hp => absurd hp (by decide)) (fun _ => ?_)
      refine wg_iload (d133_15 L xs) rfl ?_
      refine wg_if_ne (d133_17 L xs) (t := 24) (by decide) (fun _ => ?_) (fun hn => absurd (by decide) hn)
      refine wg_iconst (d133_24 L xs) (x := 0) (by decide) ?_
      exact wg_iret (d133_25 L xs) rfl rfl ⟨by rw [r_isM_n hm]; rfl, mfr_I s (by decide)⟩
    | some k =>
      have hR1 : isRec (mg_I s 141 9 (nI (c + rd))) r c D := isRec_of hR rfl rfl rfl
      obtain ⟨k5, hlt, hle, hk, hco, hsl, h145, h0, hrd⟩ := r_m_some hj hi h32 hm
      obtain ⟨f1, f2, f3, f4⟩ := f_find_s (g := gl D) (c := 47) (j - rd) rd
      have hE := r_isM_s hm
      generalize hSS : f_find (gl D) 47 rd (j - rd) = S at hE f1 f2 f3 f4
      rcases (show k = 0 ∨ k = 1 ∨ k = 2 ∨ k = 3 ∨ k = 4 ∨ k = 5 by omega) with rfl | rfl | rfl | rfl | rfl | rfl
      · refine wg_aload_n (d133_0 L xs) rfl ?_
        refine wg_iload_n (d133_1 L xs) rfl ?_
        refine wg_iload_n (d133_2 L xs) rfl ?_
        refine wg_iload_n (d133_3 L xs) rfl ?_
        refine wg_invv (d133_4 L xs) (kd := 7) (mj := 134) (n := 3) rfl (Or.inl rfl) (ys := [.int (nI (c + j)), .int (nI (c + i)), .int (nI r)]) (r := []) rfl rfl (by decide) rfl rfl (Nat.le_of_ble_eq_true rfl) (by have h := md_mech (L := L) (xs := xs) (d := d) hR hj hi; rw [hm] at h; exact h) ?_
        rintro _ _ ⟨rfl, rfl⟩
        refine wg_istore (d133_7 L xs) (ls' := [some (.ref 141), some (.int (nI r)), some (.int (nI (c + i))), some (.int (nI (c + j))), some (.int 0), none, none, none, none]) (Nat.le_of_ble_eq_true rfl) rfl ?_
        refine wg_iload (d133_9 L xs) rfl ?_
        refine wg_iconst (d133_11 L xs) (x := 1) (by decide) ?_
        refine wg_icmp_ge (d133_12 L xs) (t := 26) (by decide) (fun hp => absurd hp (by decide)) (fun _ => ?_)
        refine wg_iload (d133_15 L xs) rfl ?_
        refine wg_if_ne (d133_17 L xs) (t := 24) (by decide) (fun hp => absurd hp (by decide)) (fun _ => ?_)
        refine wg_iconst (d133_20 L xs) (x := 1) (by decide) ?_
        refine wg_goto (d133_21 L xs) (t := 25) (by decide) ?_
        exact wg_iret (d133_25 L xs) rfl rfl ⟨by rw [hE]; rfl, mfr_I s (by decide)⟩
      · refine wg_aload_n (d133_0 L xs) rfl ?_
        refine wg_iload_n (d133_1 L xs) rfl ?_
        refine wg_iload_n (d133_2 L xs) rfl ?_
        refine wg_iload_n (d133_3 L xs) rfl ?_
        refine wg_invv (d133_4 L xs) (kd := 7) (mj := 134) (n := 3) rfl (Or.inl rfl) (ys := [.int (nI (c + j)), .int (nI (c + i)), .int (nI r)]) (r := []) rfl rfl (by decide) rfl rfl (Nat.le_of_ble_eq_true rfl) (by have h := md_mech (L := L) (xs := xs) (d := d) hR hj hi; rw [hm] at h; exact h) ?_
        rintro _ _ ⟨rfl, rfl⟩
        refine wg_istore (d133_7 L xs) (ls' := [some (.ref 141), some (.int (nI r)), some (.int (nI (c + i))), some (.int (nI (c + j))), some (.int 1), none, none, none, none]) (Nat.le_of_ble_eq_true rfl) rfl ?_
        refine wg_iload (d133_9 L xs) rfl ?_
        refine wg_iconst (d133_11 L xs) (x := 1) (by decide) ?_
        refine wg_icmp_ge (d133_12 L xs) (t := 26) (by decide) (fun _ => ?_) (fun hn => absurd (by decide) hn)
        refine wg_aload_n (d133_26 L xs) rfl ?_
        refine wg_get (d133_27 L xs) (kd := 1) (cj := 9) (k0 := 9) rfl (Or.inl rfl) (by decide) rfl rfl ?_
        refine wg_top (y := (nI (c + rd))) rfl ?_
        refine wg_istore (d133_30 L xs) (ls' := [some (.ref 141), some (.int (nI r)), some (.int (nI (c + i))), some (.int (nI (c + j))), some (.int 1), some (.int (nI (c + rd))), none, none, none]) (Nat.le_of_ble_eq_true rfl) rfl ?_
        refine wg_iload (d133_32 L xs) rfl ?_
        refine wg_iconst (d133_34 L xs) (x := 1) (by decide) ?_
        refine wg_icmp_eq (d133_35 L xs) (t := 44) (by decide) (fun _ => ?_) (fun hn => absurd (by decide) hn)
        refine wg_iload (d133_44 L xs) rfl ?_
        refine wg_iconst (d133_46 L xs) (x := 1) (by decide) ?_
        refine wg_iadd (d133_47 L xs) ?_
        refine wg_top (y := (nI (c + rd + 1))) (nI_add (c + rd) 1) ?_
        refine wg_iload_n (d133_48 L xs) rfl ?_
        refine wn_icmp_ge (d133_49 L xs) (x := c + rd + 1) (y := c + j) (by omega) (by omega) (t := 70) (by decide) (fun h3 => ?_) (fun h3 => ?_)
        · refine wg_iconst (d133_70 L xs) (x := 0) (by decide) ?_
          exact wg_iret (d133_71 L xs) rfl rfl ⟨by rw [hE, (show r_isK D j 1 rd S = (decide (rd + 1 < j) && f_tgs D false j (j - (rd + 1)) (rd + 1)) from rfl), decide_eq_false (by omega)]; rfl, mfr_I s (by decide)⟩
        · refine wg_aload_n (d133_52 L xs) rfl ?_
          refine wg_iload_n (d133_53 L xs) rfl ?_
          refine wg_iload (d133_54 L xs) rfl ?_
          refine wg_iconst (d133_56 L xs) (x := 1) (by decide) ?_
          refine wg_iadd (d133_57 L xs) ?_
          refine wg_top (y := (nI (c + rd + 1))) (nI_add (c + rd) 1) ?_
          refine wg_iload_n (d133_58 L xs) rfl ?_
          refine wg_iconst (d133_59 L xs) (x := 0) (by decide) ?_
          refine wg_invv (d133_60 L xs) (kd := 7) (mj := 130) (n := 4) rfl (Or.inl rfl) (ys := [.int 0, .int (nI (c + j)), .int (nI (c + rd + 1)), .int (nI r)]) (r := []) rfl rfl (by decide) rfl rfl (Nat.le_of_ble_eq_true rfl) (md_tgt (i := rd + 1) (j := j) (sl := false) hR1 (by omega) (by omega)) ?_
          rintro _ _ ⟨rfl, rfl⟩
          have hbt := bI_lt (f_tgs D false j (j - (rd + 1)) (rd + 1))
          refine wn_if_eq (d133_63 L xs) (x := bI (f_tgs D false j (j - (rd + 1)) (rd + 1))) (by omega) (t := 70) (by decide) (fun h4 => ?_) (fun h4 => ?_)
          · refine wg_iconst (d133_70 L xs) (x := 0) (by decide) ?_
            exact wg_iret (d133_71 L xs) rfl rfl ⟨by rw [hE, (show r_isK D j 1 rd S = (decide (rd + 1 < j) && f_tgs D false j (j - (rd + 1)) (rd + 1)) from rfl), bI_f (b := f_tgs D false j (j - (rd + 1)) (rd + 1)) (by omega), Bool.and_false]; rfl, mfr_I s (by decide)⟩
          · refine wg_iconst (d133_66 L xs) (x := 1) (by decide) ?_
            refine wg_goto (d133_67 L xs) (t := 71) (by decide) ?_
            exact wg_iret (d133_71 L xs) rfl rfl ⟨by rw [hE, (show r_isK D j 1 rd S = (decide (rd + 1 < j) && f_tgs D false j (j - (rd + 1)) (rd + 1)) from rfl), decide_eq_true (by omega), bI_t (b := f_tgs D false j (j - (rd + 1)) (rd + 1)) (by omega)]; rfl, mfr_I s (by decide)⟩
      · refine wg_aload_n (d133_0 L xs) rfl ?_
        refine wg_iload_n (d133_1 L xs) rfl ?_
        refine wg_iload_n (d133_2 L xs) rfl ?_
        refine wg_iload_n (d133_3 L xs) rfl ?_
        refine wg_invv (d133_4 L xs) (kd := 7) (mj := 134) (n := 3) rfl (Or.inl rfl) (ys := [.int (nI (c + j)), .int (nI (c + i)), .int (nI r)]) (r := []) rfl rfl (by decide) rfl rfl (Nat.le_of_ble_eq_true rfl) (by have h := md_mech (L := L) (xs := xs) (d := d) hR hj hi; rw [hm] at h; exact h) ?_
        rintro _ _ ⟨rfl, rfl⟩
        refine wg_istore (d133_7 L xs) (ls' := [some (.ref 141), some (.int (nI r)), some (.int (nI (c + i))), some (.int (nI (c + j))), some (.int 2), none, none, none, none]) (Nat.le_of_ble_eq_true rfl) rfl ?_
        refine wg_iload (d133_9 L xs) rfl ?_
        refine wg_iconst (d133_11 L xs) (x := 1) (by decide) ?_
        refine wg_icmp_ge (d133_12 L xs) (t := 26) (by decide) (fun _ => ?_) (fun hn => absurd (by decide) hn)
        refine wg_aload_n (d133_26 L xs) rfl ?_
        refine wg_get (d133_27 L xs) (kd := 1) (cj := 9) (k0 := 9) rfl (Or.inl rfl) (by decide) rfl rfl ?_
        refine wg_top (y := (nI (c + rd))) rfl ?_
        refine wg_istore (d133_30 L xs) (ls' := [some (.ref 141), some (.int (nI r)), some (.int (nI (c + i))), some (.int (nI (c + j))), some (.int 2), some (.int (nI (c + rd))), none, none, none]) (Nat.le_of_ble_eq_true rfl) rfl ?_
        refine wg_iload (d133_32 L xs) rfl ?_
        refine wg_iconst (d133_34 L xs) (x := 1) (by decide) ?_
        refine wg_icmp_eq (d133_35 L xs) (t := 44) (by decide) (fun hp => absurd hp (by decide)) (fun _ => ?_)
        refine wg_iload (d133_38 L xs) rfl ?_
        refine wg_iconst (d133_40 L xs) (x := 5) (by decide) ?_
        refine wg_icmp_ne (d133_41 L xs) (t := 72) (by decide) (fun _ => ?_) (fun hn => absurd (by decide) hn)
        refine wg_aload_n (d133_72 L xs) rfl ?_
        refine wg_iload_n (d133_73 L xs) rfl ?_
        refine wg_iload (d133_74 L xs) rfl ?_
        refine wg_iload_n (d133_76 L xs) rfl ?_
        refine wg_invv (d133_77 L xs) (kd := 7) (mj := 135) (n := 3) rfl (Or.inl rfl) (ys := [.int (nI (c + j)), .int (nI (c + rd)), .int (nI r)]) (r := []) rfl rfl (by decide) rfl rfl (Nat.le_of_ble_eq_true rfl) (by have h := md_slash (L := L) (xs := xs) (d := d + 1) (i := rd) (j := j) hR1 hj (by omega); rw [hSS] at h; exact h) ?_
        rintro _ _ ⟨rfl, rfl⟩
        refine wg_istore (d133_80 L xs) (ls' := [some (.ref 141), some (.int (nI r)), some (.int (nI (c + i))), some (.int (nI (c + j))), some (.int 2), some (.int (nI (c + rd))), some (.int (nI (c + S))), none, none]) (Nat.le_of_ble_eq_true rfl) rfl ?_
        refine wg_iconst (d133_82 L xs) (x := 1) (by decide) ?_
        refine wg_istore (d133_83 L xs) (ls' := [some (.ref 141), some (.int (nI r)), some (.int (nI (c + i))), some (.int (nI (c + j))), some (.int 2), some (.int (nI (c + rd))), some (.int (nI (c + S))), some (.int 1), none]) (Nat.le_of_ble_eq_true rfl) rfl ?_
        refine wg_iload (d133_85 L xs) rfl ?_
        refine wg_iconst (d133_87 L xs) (x := 4) (by decide) ?_
        refine wg_icmp_ne (d133_88 L xs) (t := 141) (by decide) (fun _ => ?_) (fun hn => absurd (by decide) hn)
        refine wg_iload (d133_141 L xs) rfl ?_
        refine wg_iload (d133_143 L xs) rfl ?_
        refine wn_icmp_ge (d133_145 L xs) (x := c + rd) (y := c + S) (by omega) (by omega) (t := 179) (by decide) (fun h5 => ?_) (fun h5 => ?_)
        · rw [hE, (show r_isK D j 2 rd S = ((if rd < S then decide (rd + 1 < S) && f_tgs D false S (S - (rd + 1)) (rd + 1) else true) && r_tail D j S) from rfl), if_neg (by omega)]
          have h := md_im_t (L := L) (xs := xs) (d := d) (i := i) (k := 2) (rd := rd) (gd := true) (c8 := none) hR1 hj (show S ≤ j by omega)
          exact wp_mono h (fun v s' h => ⟨h.1, (mfr_I s (by decide)).trans h.2⟩)
        · refine wg_iload (d133_148 L xs) rfl ?_
          refine wg_iconst (d133_150 L xs) (x := 1) (by decide) ?_
          refine wg_iadd (d133_151 L xs) ?_
          refine wg_top (y := (nI (c + rd + 1))) (nI_add (c + rd) 1) ?_
          refine wg_iload (d133_152 L xs) rfl ?_
          refine wn_icmp_ge (d133_154 L xs) (x := c + rd + 1) (y := c + S) (by omega) (by omega) (t := 176) (by decide) (fun h6 => ?_) (fun h6 => ?_)
          · refine wg_iconst (d133_176 L xs) (x := 0) (by decide) ?_
            refine wg_istore (d133_177 L xs) (ls' := [some (.ref 141), some (.int (nI r)), some (.int (nI (c + i))), some (.int (nI (c + j))), some (.int 2), some (.int (nI (c + rd))), some (.int (nI (c + S))), some (.int 0), none]) (Nat.le_of_ble_eq_true rfl) rfl ?_
            rw [hE, (show r_isK D j 2 rd S = ((if rd < S then decide (rd + 1 < S) && f_tgs D false S (S - (rd + 1)) (rd + 1) else true) && r_tail D j S) from rfl), if_pos (by omega), decide_eq_false (by omega), Bool.false_and]
            have h := md_im_t (L := L) (xs := xs) (d := d) (i := i) (k := 2) (rd := rd) (gd := false) (c8 := none) hR1 hj (show S ≤ j by omega)
            exact wp_mono h (fun v s' h => ⟨h.1, (mfr_I s (by decide)).trans h.2⟩)
          · refine wg_aload_n (d133_157 L xs) rfl ?_
            refine wg_iload_n (d133_158 L xs) rfl ?_
            refine wg_iload (d133_159 L xs) rfl ?_
            refine wg_iconst (d133_161 L xs) (x := 1) (by decide) ?_
            refine wg_iadd (d133_162 L xs) ?_
            refine wg_top (y := (nI (c + rd + 1))) (nI_add (c + rd) 1) ?_
            refine wg_iload (d133_163 L xs) rfl ?_
            refine wg_iconst (d133_165 L xs) (x := 0) (by decide) ?_
            refine wg_invv (d133_166 L xs) (kd := 7) (mj := 130) (n := 4) rfl (Or.inl rfl) (ys := [.int 0, .int (nI (c + S)), .int (nI (c + rd + 1)), .int (nI r)]) (r := []) rfl rfl (by decide) rfl rfl (Nat.le_of_ble_eq_true rfl) (md_tgt (i := rd + 1) (j := S) (sl := false) hR1 (by omega) (by omega)) ?_
            rintro _ _ ⟨rfl, rfl⟩
            have hbt := bI_lt (f_tgs D false S (S - (rd + 1)) (rd + 1))
            refine wn_if_eq (d133_169 L xs) (x := bI (f_tgs D false S (S - (rd + 1)) (rd + 1))) (by omega) (t := 176) (by decide) (fun h7 => ?_) (fun h7 => ?_)
            · refine wg_iconst (d133_176 L xs) (x := 0) (by decide) ?_
              refine wg_istore (d133_177 L xs) (ls' := [some (.ref 141), some (.int (nI r)), some (.int (nI (c + i))), some (.int (nI (c + j))), some (.int 2), some (.int (nI (c + rd))), some (.int (nI (c + S))), some (.int 0), none]) (Nat.le_of_ble_eq_true rfl) rfl ?_
              rw [hE, (show r_isK D j 2 rd S = ((if rd < S then decide (rd + 1 < S) && f_tgs D false S (S - (rd + 1)) (rd + 1) else true) && r_tail D j S) from rfl), if_pos (by omega), bI_f (b := f_tgs D false S (S - (rd + 1)) (rd + 1)) (by omega), Bool.and_false]
              have h := md_im_t (L := L) (xs := xs) (d := d) (i := i) (k := 2) (rd := rd) (gd := false) (c8 := none) hR1 hj (show S ≤ j by omega)
              exact wp_mono h (fun v s' h => ⟨h.1, (mfr_I s (by decide)).trans h.2⟩)
            · refine wg_iconst (d133_172 L xs) (x := 1) (by decide) ?_
              refine wg_goto (d133_173 L xs) (t := 177) (by decide) ?_
              refine wg_istore (d133_177 L xs) (ls' := [some (.ref 141), some (.int (nI r)), some (.int (nI (c + i))), some (.int (nI (c + j))), some (.int 2), some (.int (nI (c + rd))), some (.int (nI (c + S))), some (.int 1), none]) (Nat.le_of_ble_eq_true rfl) rfl ?_
              rw [hE, (show r_isK D j 2 rd S = ((if rd < S then decide (rd + 1 < S) && f_tgs D false S (S - (rd + 1)) (rd + 1) else true) && r_tail D j S) from rfl), if_pos (by omega), decide_eq_true (by omega), bI_t (b := f_tgs D false S (S - (rd + 1)) (rd + 1)) (by omega), Bool.and_true]
              have h := md_im_t (L := L) (xs := xs) (d := d) (i := i) (k := 2) (rd := rd) (gd := true) (c8 := none) hR1 hj (show S ≤ j by omega)
              exact wp_mono h (fun v s' h => ⟨h.1, (mfr_I s (by decide)).trans h.2⟩)
      · refine wg_aload_n (d133_0 L xs) rfl ?_
        refine wg_iload_n (d133_1 L xs) rfl ?_
        refine wg_iload_n (d133_2 L xs) rfl ?_
        refine wg_iload_n (d133_3 L xs) rfl ?_
        refine wg_invv (d133_4 L xs) (kd := 7) (mj := 134) (n := 3) rfl (Or.inl rfl) (ys := [.int (nI (c + j)), .int (nI (c + i)), .int (nI r)]) (r := []) rfl rfl (by decide) rfl rfl (Nat.le_of_ble_eq_true rfl) (by have h := md_mech (L := L) (xs := xs) (d := d) hR hj hi; rw [hm] at h; exact h) ?_
        rintro _ _ ⟨rfl, rfl⟩
        refine wg_istore (d133_7 L xs) (ls' := [some (.ref 141), some (.int (nI r)), some (.int (nI (c + i))), some (.int (nI (c + j))), some (.int 3), none, none, none, none]) (Nat.le_of_ble_eq_true rfl) rfl ?_
        refine wg_iload (d133_9 L xs) rfl ?_
        refine wg_iconst (d133_11 L xs) (x := 1) (by decide) ?_
        refine wg_icmp_ge (d133_12 L xs) (t := 26) (by decide) (fun _ => ?_) (fun hn => absurd (by decide) hn)
        refine wg_aload_n (d133_26 L xs) rfl ?_
        refine wg_get (d133_27 L xs) (kd := 1) (cj := 9) (k0 := 9) rfl (Or.inl rfl) (by decide) rfl rfl ?_
        refine wg_top (y := (nI (c + rd))) rfl ?_
        refine wg_istore (d133_30 L xs) (ls' := [some (.ref 141), some (.int (nI r)), some (.int (nI (c + i))), some (.int (nI (c + j))), some (.int 3), some (.int (nI (c + rd))), none, none, none]) (Nat.le_of_ble_eq_true rfl) rfl ?_
        refine wg_iload (d133_32 L xs) rfl ?_
        refine wg_iconst (d133_34 L xs) (x := 1) (by decide) ?_
        refine wg_icmp_eq (d133_35 L xs) (t := 44) (by decide) (fun hp => absurd hp (by decide)) (fun _ => ?_)
        refine wg_iload (d133_38 L xs) rfl ?_
        refine wg_iconst (d133_40 L xs) (x := 5) (by decide) ?_
        refine wg_icmp_ne (d133_41 L xs) (t := 72) (by decide) (fun _ => ?_) (fun hn => absurd (by decide) hn)
        refine wg_aload_n (d133_72 L xs) rfl ?_
        refine wg_iload_n (d133_73 L xs) rfl ?_
        refine wg_iload (d133_74 L xs) rfl ?_
        refine wg_iload_n (d133_76 L xs) rfl ?_
        refine wg_invv (d133_77 L xs) (kd := 7) (mj := 135) (n := 3) rfl (Or.inl rfl) (ys := [.int (nI (c + j)), .int (nI (c + rd)), .int (nI r)]) (r := []) rfl rfl (by decide) rfl rfl (Nat.le_of_ble_eq_true rfl) (by have h := md_slash (L := L) (xs := xs) (d := d + 1) (i := rd) (j := j) hR1 hj (by omega); rw [hSS] at h; exact h) ?_
        rintro _ _ ⟨rfl, rfl⟩
        refine wg_istore (d133_80 L xs) (ls' := [some (.ref 141), some (.int (nI r)), some (.int (nI (c + i))), some (.int (nI (c + j))), some (.int 3), some (.int (nI (c + rd))), some (.int (nI (c + S))), none, none]) (Nat.le_of_ble_eq_true rfl) rfl ?_
        refine wg_iconst (d133_82 L xs) (x := 1) (by decide) ?_
        refine wg_istore (d133_83 L xs) (ls' := [some (.ref 141), some (.int (nI r)), some (.int (nI (c + i))), some (.int (nI (c + j))), some (.int 3), some (.int (nI (c + rd))), some (.int (nI (c + S))), some (.int 1), none]) (Nat.le_of_ble_eq_true rfl) rfl ?_
        refine wg_iload (d133_85 L xs) rfl ?_
        refine wg_iconst (d133_87 L xs) (x := 4) (by decide) ?_
        refine wg_icmp_ne (d133_88 L xs) (t := 141) (by decide) (fun _ => ?_) (fun hn => absurd (by decide) hn)
        refine wg_iload (d133_141 L xs) rfl ?_
        refine wg_iload (d133_143 L xs) rfl ?_
        refine wn_icmp_ge (d133_145 L xs) (x := c + rd) (y := c + S) (by omega) (by omega) (t := 179) (by decide) (fun h5 => ?_) (fun h5 => ?_)
        · rw [hE, (show r_isK D j 3 rd S = ((if rd < S then decide (rd + 1 < S) && f_tgs D false S (S - (rd + 1)) (rd + 1) else true) && r_tail D j S) from rfl), if_neg (by omega)]
          have h := md_im_t (L := L) (xs := xs) (d := d) (i := i) (k := 3) (rd := rd) (gd := true) (c8 := none) hR1 hj (show S ≤ j by omega)
          exact wp_mono h (fun v s' h => ⟨h.1, (mfr_I s (by decide)).trans h.2⟩)
        · refine wg_iload (d133_148 L xs) rfl ?_
          refine wg_iconst (d133_150 L xs) (x := 1) (by decide) ?_
          refine wg_iadd (d133_151 L xs) ?_
          refine wg_top (y := (nI (c + rd + 1))) (nI_add (c + rd) 1) ?_
          refine wg_iload (d133_152 L xs) rfl ?_
          refine wn_icmp_ge (d133_154 L xs) (x := c + rd + 1) (y := c + S) (by omega) (by omega) (t := 176) (by decide) (fun h6 => ?_) (fun h6 => ?_)
          · refine wg_iconst (d133_176 L xs) (x := 0) (by decide) ?_
            refine wg_istore (d133_177 L xs) (ls' := [some (.ref 141), some (.int (nI r)), some (.int (nI (c + i))), some (.int (nI (c + j))), some (.int 3), some (.int (nI (c + rd))), some (.int (nI (c + S))), some (.int 0), none]) (Nat.le_of_ble_eq_true rfl) rfl ?_
            rw [hE, (show r_isK D j 3 rd S = ((if rd < S then decide (rd + 1 < S) && f_tgs D false S (S - (rd + 1)) (rd + 1) else true) && r_tail D j S) from rfl), if_pos (by omega), decide_eq_false (by omega), Bool.false_and]
            have h := md_im_t (L := L) (xs := xs) (d := d) (i := i) (k := 3) (rd := rd) (gd := false) (c8 := none) hR1 hj (show S ≤ j by omega)
            exact wp_mono h (fun v s' h => ⟨h.1, (mfr_I s (by decide)).trans h.2⟩)
          · refine wg_aload_n (d133_157 L xs) rfl ?_
            refine wg_iload_n (d133_158 L xs) rfl ?_
            refine wg_iload (d133_159 L xs) rfl ?_
            refine wg_iconst (d133_161 L xs) (x := 1) (by decide) ?_
            refine wg_iadd (d133_162 L xs) ?_
            refine wg_top (y := (nI (c + rd + 1))) (nI_add (c + rd) 1) ?_
            refine wg_iload (d133_163 L xs) rfl ?_
            refine wg_iconst (d133_165 L xs) (x := 0) (by decide) ?_
            refine wg_invv (d133_166 L xs) (kd := 7) (mj := 130) (n := 4) rfl (Or.inl rfl) (ys := [.int 0, .int (nI (c + S)), .int (nI (c + rd + 1)), .int (nI r)]) (r := []) rfl rfl (by decide) rfl rfl (Nat.le_of_ble_eq_true rfl) (md_tgt (i := rd + 1) (j := S) (sl := false) hR1 (by omega) (by omega)) ?_
            rintro _ _ ⟨rfl, rfl⟩
            have hbt := bI_lt (f_tgs D false S (S - (rd + 1)) (rd + 1))
            refine wn_if_eq (d133_169 L xs) (x := bI (f_tgs D false S (S - (rd + 1)) (rd + 1))) (by omega) (t := 176) (by decide) (fun h7 => ?_) (fun h7 => ?_)
            · refine wg_iconst (d133_176 L xs) (x := 0) (by decide) ?_
              refine wg_istore (d133_177 L xs) (ls' := [some (.ref 141), some (.int (nI r)), some (.int (nI (c + i))), some (.int (nI (c + j))), some (.int 3), some (.int (nI (c + rd))), some (.int (nI (c + S))), some (.int 0), none]) (Nat.le_of_ble_eq_true rfl) rfl ?_
              rw [hE, (show r_isK D j 3 rd S = ((if rd < S then decide (rd + 1 < S) && f_tgs D false S (S - (rd + 1)) (rd + 1) else true) && r_tail D j S) from rfl), if_pos (by omega), bI_f (b := f_tgs D false S (S - (rd + 1)) (rd + 1)) (by omega), Bool.and_false]
              have h := md_im_t (L := L) (xs := xs) (d := d) (i := i) (k := 3) (rd := rd) (gd := false) (c8 := none) hR1 hj (show S ≤ j by omega)
              exact wp_mono h (fun v s' h => ⟨h.1, (mfr_I s (by decide)).trans h.2⟩)
            · refine wg_iconst (d133_172 L xs) (x := 1) (by decide) ?_
              refine wg_goto (d133_173 L xs) (t := 177) (by decide) ?_
              refine wg_istore (d133_177 L xs) (ls' := [some (.ref 141), some (.int (nI r)), some (.int (nI (c + i))), some (.int (nI (c + j))), some (.int 3), some (.int (nI (c + rd))), some (.int (nI (c + S))), some (.int 1), none]) (Nat.le_of_ble_eq_true rfl) rfl ?_
              rw [hE, (show r_isK D j 3 rd S = ((if rd < S then decide (rd + 1 < S) && f_tgs D false S (S - (rd + 1)) (rd + 1) else true) && r_tail D j S) from rfl), if_pos (by omega), decide_eq_true (by omega), bI_t (b := f_tgs D false S (S - (rd + 1)) (rd + 1)) (by omega), Bool.and_true]
              have h := md_im_t (L := L) (xs := xs) (d := d) (i := i) (k := 3) (rd := rd) (gd := true) (c8 := none) hR1 hj (show S ≤ j by omega)
              exact wp_mono h (fun v s' h => ⟨h.1, (mfr_I s (by decide)).trans h.2⟩)
      · obtain ⟨q1, q2⟩ := h145 (by omega)
        have hrS : rd < S := by
          rcases Nat.lt_or_ge rd S with q | q
          · exact q
          · have e1 : S = rd := by omega
            have := f4 (by omega)
            rw [e1, q2] at this
            omega
        have hE4 : r_isK D j 4 rd S = ((a_end S (r_addr (gl D) S 4 0 (rd + 1))).isSome && r_tail D j S) := rfl
        cases hq : r_addr (gl D) S 4 0 (rd + 1) with
        | none =>
          refine wg_aload_n (d133_0 L xs) rfl ?_
          refine wg_iload_n (d133_1 L xs) rfl ?_
          refine wg_iload_n (d133_2 L xs) rfl ?_
          refine wg_iload_n (d133_3 L xs) rfl ?_
          refine wg_invv (d133_4 L xs) (kd := 7) (mj := 134) (n := 3) rfl (Or.inl rfl) (ys := [.int (nI (c + j)), .int (nI (c + i)), .int (nI r)]) (r := []) rfl rfl (by decide) rfl rfl (Nat.le_of_ble_eq_true rfl) (by have h := md_mech (L := L) (xs := xs) (d := d) hR hj hi; rw [hm] at h; exact h) ?_
          rintro _ _ ⟨rfl, rfl⟩
          refine wg_istore (d133_7 L xs) (ls' := [some (.ref 141), some (.int (nI r)), some (.int (nI (c + i))), some (.int (nI (c + j))), some (.int 4), none, none, none, none]) (Nat.le_of_ble_eq_true rfl) rfl ?_
          refine wg_iload (d133_9 L xs) rfl ?_
          refine wg_iconst (d133_11 L xs) (x := 1) (by decide) ?_
          refine wg_icmp_ge (d133_12 L xs) (t := 26) (by decide) (fun _ => ?_) (fun hn => absurd (by decide) hn)
          refine wg_aload_n (d133_26 L xs) rfl ?_
          refine wg_get (d133_27 L xs) (kd := 1) (cj := 9) (k0 := 9) rfl (Or.inl rfl) (by decide) rfl rfl ?_
          refine wg_top (y := (nI (c + rd))) rfl ?_
          refine wg_istore (d133_30 L xs) (ls' := [some (.ref 141), some (.int (nI r)), some (.int (nI (c + i))), some (.int (nI (c + j))), some (.int 4), some (.int (nI (c + rd))), none, none, none]) (Nat.le_of_ble_eq_true rfl) rfl ?_
          refine wg_iload (d133_32 L xs) rfl ?_
          refine wg_iconst (d133_34 L xs) (x := 1) (by decide) ?_
          refine wg_icmp_eq (d133_35 L xs) (t := 44) (by decide) (fun hp => absurd hp (by decide)) (fun _ => ?_)
          refine wg_iload (d133_38 L xs) rfl ?_
          refine wg_iconst (d133_40 L xs) (x := 5) (by decide) ?_
          refine wg_icmp_ne (d133_41 L xs) (t := 72) (by decide) (fun _ => ?_) (fun hn => absurd (by decide) hn)
          refine wg_aload_n (d133_72 L xs) rfl ?_
          refine wg_iload_n (d133_73 L xs) rfl ?_
          refine wg_iload (d133_74 L xs) rfl ?_
          refine wg_iload_n (d133_76 L xs) rfl ?_
          refine wg_invv (d133_77 L xs) (kd := 7) (mj := 135) (n := 3) rfl (Or.inl rfl) (ys := [.int (nI (c + j)), .int (nI (c + rd)), .int (nI r)]) (r := []) rfl rfl (by decide) rfl rfl (Nat.le_of_ble_eq_true rfl) (by have h := md_slash (L := L) (xs := xs) (d := d + 1) (i := rd) (j := j) hR1 hj (by omega); rw [hSS] at h; exact h) ?_
          rintro _ _ ⟨rfl, rfl⟩
          refine wg_istore (d133_80 L xs) (ls' := [some (.ref 141), some (.int (nI r)), some (.int (nI (c + i))), some (.int (nI (c + j))), some (.int 4), some (.int (nI (c + rd))), some (.int (nI (c + S))), none, none]) (Nat.le_of_ble_eq_true rfl) rfl ?_
          refine wg_iconst (d133_82 L xs) (x := 1) (by decide) ?_
          refine wg_istore (d133_83 L xs) (ls' := [some (.ref 141), some (.int (nI r)), some (.int (nI (c + i))), some (.int (nI (c + j))), some (.int 4), some (.int (nI (c + rd))), some (.int (nI (c + S))), some (.int 1), none]) (Nat.le_of_ble_eq_true rfl) rfl ?_
          refine wg_iload (d133_85 L xs) rfl ?_
          refine wg_iconst (d133_87 L xs) (x := 4) (by decide) ?_
          refine wg_icmp_ne (d133_88 L xs) (t := 141) (by decide) (fun hp => absurd hp (by decide)) (fun _ => ?_)
          refine wg_aload_n (d133_91 L xs) rfl ?_
          refine wg_aload_n (d133_92 L xs) rfl ?_
          refine wg_get (d133_93 L xs) (kd := 1) (cj := 9) (k0 := 5) rfl (Or.inl rfl) (by decide) rfl rfl ?_
          refine wg_bipush (d133_96 L xs) (x := 100) (by decide) ?_
          refine wg_iload_n (d133_98 L xs) rfl ?_
          refine wg_imul (d133_99 L xs) ?_
          refine wg_top (y := (nI (100 * r))) (pk_mul 100 r) ?_
          refine wg_iload (d133_100 L xs) rfl ?_
          refine wg_iadd (d133_102 L xs) ?_
          refine wg_top (y := (nI ((100 * r) + (c + rd)))) (nI_add (100 * r) (c + rd)) ?_
          refine wg_iconst (d133_103 L xs) (x := 1) (by decide) ?_
          refine wg_iadd (d133_104 L xs) ?_
          refine wg_top (y := (nI (((100 * r) + (c + rd)) + 1))) (nI_add ((100 * r) + (c + rd)) 1) ?_
          refine wg_bipush (d133_105 L xs) (x := 100) (by decide) ?_
          refine wg_iload_n (d133_107 L xs) rfl ?_
          refine wg_imul (d133_108 L xs) ?_
          refine wg_top (y := (nI (100 * r))) (pk_mul 100 r) ?_
          refine wg_iload (d133_109 L xs) rfl ?_
          refine wg_iadd (d133_111 L xs) ?_
          refine wg_top (y := (nI ((100 * r) + (c + S)))) (nI_add (100 * r) (c + S)) ?_
          refine wg_invv (d133_112 L xs) (kd := 7) (mj := 113) (n := 3) rfl (Or.inl rfl) (ys := [.int (nI ((100 * r) + (c + S))), .int (nI (((100 * r) + (c + rd)) + 1)), .ref 144]) (r := []) rfl rfl (by decide) rfl rfl (Nat.le_of_ble_eq_true rfl) (by have h := md_adrR (L := L) (xs := xs) (d := d) (a := rd + 1) (b := S) hR1 (by omega) (by omega); rw [hq] at h; exact h) ?_
          rintro _ _ ⟨rfl, rfl⟩
          refine wg_istore (d133_115 L xs) (ls' := [some (.ref 141), some (.int (nI r)), some (.int (nI (c + i))), some (.int (nI (c + j))), some (.int 4), some (.int (nI (c + rd))), some (.int (nI (c + S))), some (.int 1), some (.int 0)]) (Nat.le_of_ble_eq_true rfl) rfl ?_
          refine wg_aload_n (d133_117 L xs) rfl ?_
          refine wg_get (d133_118 L xs) (kd := 1) (cj := 9) (k0 := 9) rfl (Or.inl rfl) (by decide) rfl rfl ?_
          refine wg_top (y := (-1)) rfl ?_
          refine wg_bipush (d133_121 L xs) (x := 100) (by decide) ?_
          refine wg_iload_n (d133_123 L xs) rfl ?_
          refine wg_imul (d133_124 L xs) ?_
          refine wg_top (y := (nI (100 * r))) (pk_mul 100 r) ?_
          refine wg_iload (d133_125 L xs) rfl ?_
          refine wg_iadd (d133_127 L xs) ?_
          refine wg_top (y := (nI ((100 * r) + (c + S)))) (nI_add (100 * r) (c + S)) ?_
          refine wg_icmp_ne (d133_128 L xs) (t := 135) (by decide) (fun h5 => ?_) (fun h5 => absurd (fun e => nI_neg1 (b := 100 * r + (c + S)) (by omega) e.symm) h5)
          refine wg_iconst (d133_135 L xs) (x := 0) (by decide) ?_
          refine wg_istore (d133_136 L xs) (ls' := [some (.ref 141), some (.int (nI r)), some (.int (nI (c + i))), some (.int (nI (c + j))), some (.int 4), some (.int (nI (c + rd))), some (.int (nI (c + S))), some (.int 0), some (.int 0)]) (Nat.le_of_ble_eq_true rfl) rfl ?_
          refine wg_goto (d133_138 L xs) (t := 179) (by decide) ?_
          rw [hE, hE4, hq, show (a_end S none).isSome = false from rfl]
          have h := md_im_t (L := L) (xs := xs) (d := d) (i := i) (k := 4) (rd := rd) (gd := false) (c8 := some (.int 0)) (isRec_of hR1 rfl rfl rfl : isRec (mg_I (mg_I s 141 9 (nI (c + rd))) 141 9 (-1)) r c D) hj (show S ≤ j by omega)
          exact wp_mono h (fun v s' h => ⟨h.1, ((mfr_I s (by decide)).trans (mfr_I _ (by decide))).trans h.2⟩)
        | some p =>
          have hp := r_addr_le _ _ _ _ (show rd + 1 ≤ S by omega) hq
          refine wg_aload_n (d133_0 L xs) rfl ?_
          refine wg_iload_n (d133_1 L xs) rfl ?_
          refine wg_iload_n (d133_2 L xs) rfl ?_
          refine wg_iload_n (d133_3 L xs) rfl ?_
          refine wg_invv (d133_4 L xs) (kd := 7) (mj := 134) (n := 3) rfl (Or.inl rfl) (ys := [.int (nI (c + j)), .int (nI (c + i)), .int (nI r)]) (r := []) rfl rfl (by decide) rfl rfl (Nat.le_of_ble_eq_true rfl) (by have h := md_mech (L := L) (xs := xs) (d := d) hR hj hi; rw [hm] at h; exact h) ?_
          rintro _ _ ⟨rfl, rfl⟩
          refine wg_istore (d133_7 L xs) (ls' := [some (.ref 141), some (.int (nI r)), some (.int (nI (c + i))), some (.int (nI (c + j))), some (.int 4), none, none, none, none]) (Nat.le_of_ble_eq_true rfl) rfl ?_
          refine wg_iload (d133_9 L xs) rfl ?_
          refine wg_iconst (d133_11 L xs) (x := 1) (by decide) ?_
          refine wg_icmp_ge (d133_12 L xs) (t := 26) (by decide) (fun _ => ?_) (fun hn => absurd (by decide) hn)
          refine wg_aload_n (d133_26 L xs) rfl ?_
          refine wg_get (d133_27 L xs) (kd := 1) (cj := 9) (k0 := 9) rfl (Or.inl rfl) (by decide) rfl rfl ?_
          refine wg_top (y := (nI (c + rd))) rfl ?_
          refine wg_istore (d133_30 L xs) (ls' := [some (.ref 141), some (.int (nI r)), some (.int (nI (c + i))), some (.int (nI (c + j))), some (.int 4), some (.int (nI (c + rd))), none, none, none]) (Nat.le_of_ble_eq_true rfl) rfl ?_
          refine wg_iload (d133_32 L xs) rfl ?_
          refine wg_iconst (d133_34 L xs) (x := 1) (by decide) ?_
          refine wg_icmp_eq (d133_35 L xs) (t := 44) (by decide) (fun hp => absurd hp (by decide)) (fun _ => ?_)
          refine wg_iload (d133_38 L xs) rfl ?_
          refine wg_iconst (d133_40 L xs) (x := 5) (by decide) ?_
          refine wg_icmp_ne (d133_41 L xs) (t := 72) (by decide) (fun _ => ?_) (fun hn => absurd (by decide) hn)
          refine wg_aload_n (d133_72 L xs) rfl ?_
          refine wg_iload_n (d133_73 L xs) rfl ?_
          refine wg_iload (d133_74 L xs) rfl ?_
          refine wg_iload_n (d133_76 L xs) rfl ?_
          refine wg_invv (d133_77 L xs) (kd := 7) (mj := 135) (n := 3) rfl (Or.inl rfl) (ys := [.int (nI (c + j)), .int (nI (c + rd)), .int (nI r)]) (r := []) rfl rfl (by decide) rfl rfl (Nat.le_of_ble_eq_true rfl) (by have h := md_slash (L := L) (xs := xs) (d := d + 1) (i := rd) (j := j) hR1 hj (by omega); rw [hSS] at h; exact h) ?_
          rintro _ _ ⟨rfl, rfl⟩
          refine wg_istore (d133_80 L xs) (ls' := [some (.ref 141), some (.int (nI r)), some (.int (nI (c + i))), some (.int (nI (c + j))), some (.int 4), some (.int (nI (c + rd))), some (.int (nI (c + S))), none, none]) (Nat.le_of_ble_eq_true rfl) rfl ?_
          refine wg_iconst (d133_82 L xs) (x := 1) (by decide) ?_
          refine wg_istore (d133_83 L xs) (ls' := [some (.ref 141), some (.int (nI r)), some (.int (nI (c + i))), some (.int (nI (c + j))), some (.int 4), some (.int (nI (c + rd))), some (.int (nI (c + S))), some (.int 1), none]) (Nat.le_of_ble_eq_true rfl) rfl ?_
          refine wg_iload (d133_85 L xs) rfl ?_
          refine wg_iconst (d133_87 L xs) (x := 4) (by decide) ?_
          refine wg_icmp_ne (d133_88 L xs) (t := 141) (by decide) (fun hp => absurd hp (by decide)) (fun _ => ?_)
          refine wg_aload_n (d133_91 L xs) rfl ?_
          refine wg_aload_n (d133_92 L xs) rfl ?_
          refine wg_get (d133_93 L xs) (kd := 1) (cj := 9) (k0 := 5) rfl (Or.inl rfl) (by decide) rfl rfl ?_
          refine wg_bipush (d133_96 L xs) (x := 100) (by decide) ?_
          refine wg_iload_n (d133_98 L xs) rfl ?_
          refine wg_imul (d133_99 L xs) ?_
          refine wg_top (y := (nI (100 * r))) (pk_mul 100 r) ?_
          refine wg_iload (d133_100 L xs) rfl ?_
          refine wg_iadd (d133_102 L xs) ?_
          refine wg_top (y := (nI ((100 * r) + (c + rd)))) (nI_add (100 * r) (c + rd)) ?_
          refine wg_iconst (d133_103 L xs) (x := 1) (by decide) ?_
          refine wg_iadd (d133_104 L xs) ?_
          refine wg_top (y := (nI (((100 * r) + (c + rd)) + 1))) (nI_add ((100 * r) + (c + rd)) 1) ?_
          refine wg_bipush (d133_105 L xs) (x := 100) (by decide) ?_
          refine wg_iload_n (d133_107 L xs) rfl ?_
          refine wg_imul (d133_108 L xs) ?_
          refine wg_top (y := (nI (100 * r))) (pk_mul 100 r) ?_
          refine wg_iload (d133_109 L xs) rfl ?_
          refine wg_iadd (d133_111 L xs) ?_
          refine wg_top (y := (nI ((100 * r) + (c + S)))) (nI_add (100 * r) (c + S)) ?_
          refine wg_invv (d133_112 L xs) (kd := 7) (mj := 113) (n := 3) rfl (Or.inl rfl) (ys := [.int (nI ((100 * r) + (c + S))), .int (nI (((100 * r) + (c + rd)) + 1)), .ref 144]) (r := []) rfl rfl (by decide) rfl rfl (Nat.le_of_ble_eq_true rfl) (by have h := md_adrR (L := L) (xs := xs) (d := d) (a := rd + 1) (b := S) hR1 (by omega) (by omega); rw [hq] at h; exact h) ?_
          rintro _ _ ⟨rfl, rfl⟩
          refine wg_istore (d133_115 L xs) (ls' := [some (.ref 141), some (.int (nI r)), some (.int (nI (c + i))), some (.int (nI (c + j))), some (.int 4), some (.int (nI (c + rd))), some (.int (nI (c + S))), some (.int 1), some (.int (nI p.1))]) (Nat.le_of_ble_eq_true rfl) rfl ?_
          refine wg_aload_n (d133_117 L xs) rfl ?_
          refine wg_get (d133_118 L xs) (kd := 1) (cj := 9) (k0 := 9) rfl (Or.inl rfl) (by decide) rfl rfl ?_
          refine wg_top (y := (nI (100 * r + (c + p.2)))) rfl ?_
          refine wg_bipush (d133_121 L xs) (x := 100) (by decide) ?_
          refine wg_iload_n (d133_123 L xs) rfl ?_
          refine wg_imul (d133_124 L xs) ?_
          refine wg_top (y := (nI (100 * r))) (pk_mul 100 r) ?_
          refine wg_iload (d133_125 L xs) rfl ?_
          refine wg_iadd (d133_127 L xs) ?_
          refine wg_top (y := (nI ((100 * r) + (c + S)))) (nI_add (100 * r) (c + S)) ?_
          refine wn_icmp_ne (d133_128 L xs) (x := 100 * r + (c + p.2)) (y := (100 * r) + (c + S)) (by omega) (by omega) (t := 135) (by decide) (fun h5 => ?_) (fun h5 => ?_)
          · refine wg_iconst (d133_135 L xs) (x := 0) (by decide) ?_
            refine wg_istore (d133_136 L xs) (ls' := [some (.ref 141), some (.int (nI r)), some (.int (nI (c + i))), some (.int (nI (c + j))), some (.int 4), some (.int (nI (c + rd))), some (.int (nI (c + S))), some (.int 0), some (.int (nI p.1))]) (Nat.le_of_ble_eq_true rfl) rfl ?_
            refine wg_goto (d133_138 L xs) (t := 179) (by decide) ?_
            rw [hE, hE4, hq, show (a_end S (some p)).isSome = false from by show (if p.2 = S then some p.1 else none).isSome = false; rw [if_neg (by omega)]; rfl]
            have h := md_im_t (L := L) (xs := xs) (d := d) (i := i) (k := 4) (rd := rd) (gd := false) (c8 := some (.int (nI p.1))) (isRec_of hR1 rfl rfl rfl : isRec (mg_I (mg_I s 141 9 (nI (c + rd))) 141 9 (nI (100 * r + (c + p.2)))) r c D) hj (show S ≤ j by omega)
            exact wp_mono h (fun v s' h => ⟨h.1, ((mfr_I s (by decide)).trans (mfr_I _ (by decide))).trans h.2⟩)
          · refine wg_iconst (d133_131 L xs) (x := 1) (by decide) ?_
            refine wg_goto (d133_132 L xs) (t := 136) (by decide) ?_
            refine wg_istore (d133_136 L xs) (ls' := [some (.ref 141), some (.int (nI r)), some (.int (nI (c + i))), some (.int (nI (c + j))), some (.int 4), some (.int (nI (c + rd))), some (.int (nI (c + S))), some (.int 1), some (.int (nI p.1))]) (Nat.le_of_ble_eq_true rfl) rfl ?_
            refine wg_goto (d133_138 L xs) (t := 179) (by decide) ?_
            rw [hE, hE4, hq, show (a_end S (some p)).isSome = true from by show (if p.2 = S then some p.1 else none).isSome = true; rw [if_pos (by omega)]; rfl]
            have h := md_im_t (L := L) (xs := xs) (d := d) (i := i) (k := 4) (rd := rd) (gd := true) (c8 := some (.int (nI p.1))) (isRec_of hR1 rfl rfl rfl : isRec (mg_I (mg_I s 141 9 (nI (c + rd))) 141 9 (nI (100 * r + (c + p.2)))) r c D) hj (show S ≤ j by omega)
            exact wp_mono h (fun v s' h => ⟨h.1, ((mfr_I s (by decide)).trans (mfr_I _ (by decide))).trans h.2⟩)
      · refine wg_aload_n (d133_0 L xs) rfl ?_
        refine wg_iload_n (d133_1 L xs) rfl ?_
        refine wg_iload_n (d133_2 L xs) rfl ?_
        refine wg_iload_n (d133_3 L xs) rfl ?_
        refine wg_invv (d133_4 L xs) (kd := 7) (mj := 134) (n := 3) rfl (Or.inl rfl) (ys := [.int (nI (c + j)), .int (nI (c + i)), .int (nI r)]) (r := []) rfl rfl (by decide) rfl rfl (Nat.le_of_ble_eq_true rfl) (by have h := md_mech (L := L) (xs := xs) (d := d) hR hj hi; rw [hm] at h; exact h) ?_
        rintro _ _ ⟨rfl, rfl⟩
        refine wg_istore (d133_7 L xs) (ls' := [some (.ref 141), some (.int (nI r)), some (.int (nI (c + i))), some (.int (nI (c + j))), some (.int 5), none, none, none, none]) (Nat.le_of_ble_eq_true rfl) rfl ?_
        refine wg_iload (d133_9 L xs) rfl ?_
        refine wg_iconst (d133_11 L xs) (x := 1) (by decide) ?_
        refine wg_icmp_ge (d133_12 L xs) (t := 26) (by decide) (fun _ => ?_) (fun hn => absurd (by decide) hn)
        refine wg_aload_n (d133_26 L xs) rfl ?_
        refine wg_get (d133_27 L xs) (kd := 1) (cj := 9) (k0 := 9) rfl (Or.inl rfl) (by decide) rfl rfl ?_
        refine wg_top (y := (nI (c + rd))) rfl ?_
        refine wg_istore (d133_30 L xs) (ls' := [some (.ref 141), some (.int (nI r)), some (.int (nI (c + i))), some (.int (nI (c + j))), some (.int 5), some (.int (nI (c + rd))), none, none, none]) (Nat.le_of_ble_eq_true rfl) rfl ?_
        refine wg_iload (d133_32 L xs) rfl ?_
        refine wg_iconst (d133_34 L xs) (x := 1) (by decide) ?_
        refine wg_icmp_eq (d133_35 L xs) (t := 44) (by decide) (fun hp => absurd hp (by decide)) (fun _ => ?_)
        refine wg_iload (d133_38 L xs) rfl ?_
        refine wg_iconst (d133_40 L xs) (x := 5) (by decide) ?_
        refine wg_icmp_ne (d133_41 L xs) (t := 72) (by decide) (fun hp => absurd hp (by decide)) (fun _ => ?_)
        refine wg_iload (d133_44 L xs) rfl ?_
        refine wg_iconst (d133_46 L xs) (x := 1) (by decide) ?_
        refine wg_iadd (d133_47 L xs) ?_
        refine wg_top (y := (nI (c + rd + 1))) (nI_add (c + rd) 1) ?_
        refine wg_iload_n (d133_48 L xs) rfl ?_
        refine wn_icmp_ge (d133_49 L xs) (x := c + rd + 1) (y := c + j) (by omega) (by omega) (t := 70) (by decide) (fun h4 => ?_) (fun h4 => ?_)
        · refine wg_iconst (d133_70 L xs) (x := 0) (by decide) ?_
          exact wg_iret (d133_71 L xs) rfl rfl ⟨by rw [hE, (show r_isK D j 5 rd S = (decide (rd + 1 < j) && f_tgs D false j (j - (rd + 1)) (rd + 1)) from rfl), decide_eq_false (by omega)]; rfl, mfr_I s (by decide)⟩
        · refine wg_aload_n (d133_52 L xs) rfl ?_
          refine wg_iload_n (d133_53 L xs) rfl ?_
          refine wg_iload (d133_54 L xs) rfl ?_
          refine wg_iconst (d133_56 L xs) (x := 1) (by decide) ?_
          refine wg_iadd (d133_57 L xs) ?_
          refine wg_top (y := (nI (c + rd + 1))) (nI_add (c + rd) 1) ?_
          refine wg_iload_n (d133_58 L xs) rfl ?_
          refine wg_iconst (d133_59 L xs) (x := 0) (by decide) ?_
          refine wg_invv (d133_60 L xs) (kd := 7) (mj := 130) (n := 4) rfl (Or.inl rfl) (ys := [.int 0, .int (nI (c + j)), .int (nI (c + rd + 1)), .int (nI r)]) (r := []) rfl rfl (by decide) rfl rfl (Nat.le_of_ble_eq_true rfl) (md_tgt (i := rd + 1) (j := j) (sl := false) hR1 (by omega) (by omega)) ?_
          rintro _ _ ⟨rfl, rfl⟩
          have hbt := bI_lt (f_tgs D false j (j - (rd + 1)) (rd + 1))
          refine wn_if_eq (d133_63 L xs) (x := bI (f_tgs D false j (j - (rd + 1)) (rd + 1))) (by omega) (t := 70) (by decide) (fun h5 => ?_) (fun h5 => ?_)
          · refine wg_iconst (d133_70 L xs) (x := 0) (by decide) ?_
            exact wg_iret (d133_71 L xs) rfl rfl ⟨by rw [hE, (show r_isK D j 5 rd S = (decide (rd + 1 < j) && f_tgs D false j (j - (rd + 1)) (rd + 1)) from rfl), bI_f (b := f_tgs D false j (j - (rd + 1)) (rd + 1)) (by omega), Bool.and_false]; rfl, mfr_I s (by decide)⟩
          · refine wg_iconst (d133_66 L xs) (x := 1) (by decide) ?_
            refine wg_goto (d133_67 L xs) (t := 71) (by decide) ?_
            exact wg_iret (d133_71 L xs) rfl rfl ⟨by rw [hE, (show r_isK D j 5 rd S = (decide (rd + 1 < j) && f_tgs D false j (j - (rd + 1)) (rd + 1)) from rfl), decide_eq_true (by omega), bI_t (b := f_tgs D false j (j - (rd + 1)) (rd + 1)) (by omega)]; rfl, mfr_I s (by decide)⟩
end RM
