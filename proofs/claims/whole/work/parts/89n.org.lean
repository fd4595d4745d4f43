/-! the reference: organisations and ends of names -/
theorem d156_0 (L : Nat) (xs : Nat → Int32) : decode (ax_code (mgT L xs) 156) 0 = .ok (.iconst 0, 1) := by
  show decode prog_11_method_52_code 0 = _
  decide +kernel
theorem d156_1 (L : Nat) (xs : Nat → Int32) : decode (ax_code (mgT L xs) 156) 1 = .ok (.istore_n 3, 1) := by
  show decode prog_11_method_52_code 1 = _
  decide +kernel
theorem d156_2 (L : Nat) (xs : Nat → Int32) : decode (ax_code (mgT L xs) 156) 2 = .ok (.iconst 0, 1) := by
  show decode prog_11_method_52_code 2 = _
  decide +kernel
theorem d156_3 (L : Nat) (xs : Nat → Int32) : decode (ax_code (mgT L xs) 156) 3 = .ok (.istore 4, 2) := by
  show decode prog_11_method_52_code 3 = _
  decide +kernel
theorem d156_5 (L : Nat) (xs : Nat → Int32) : decode (ax_code (mgT L xs) 156) 5 = .ok (.iload 4, 2) := by
  show decode prog_11_method_52_code 5 = _
  decide +kernel
theorem d156_7 (L : Nat) (xs : Nat → Int32) : decode (ax_code (mgT L xs) 156) 7 = .ok (.aload_n 0, 1) := by
  show decode prog_11_method_52_code 7 = _
  decide +kernel
theorem d156_8 (L : Nat) (xs : Nat → Int32) : decode (ax_code (mgT L xs) 156) 8 = .ok (.getfield 111, 3) := by
  show decode prog_11_method_52_code 8 = _
  decide +kernel
theorem d156_11 (L : Nat) (xs : Nat → Int32) : decode (ax_code (mgT L xs) 156) 11 = .ok (.if_icmp .ge 142, 3) := by
  show decode prog_11_method_52_code 11 = _
  decide +kernel
theorem d156_14 (L : Nat) (xs : Nat → Int32) : decode (ax_code (mgT L xs) 156) 14 = .ok (.aload_n 0, 1) := by
  show decode prog_11_method_52_code 14 = _
  decide +kernel
theorem d156_15 (L : Nat) (xs : Nat → Int32) : decode (ax_code (mgT L xs) 156) 15 = .ok (.getfield 22, 3) := by
  show decode prog_11_method_52_code 15 = _
  decide +kernel
theorem d156_18 (L : Nat) (xs : Nat → Int32) : decode (ax_code (mgT L xs) 156) 18 = .ok (.iload 4, 2) := by
  show decode prog_11_method_52_code 18 = _
  decide +kernel
theorem d156_20 (L : Nat) (xs : Nat → Int32) : decode (ax_code (mgT L xs) 156) 20 = .ok (.iaload, 1) := by
  show decode prog_11_method_52_code 20 = _
  decide +kernel
theorem d156_21 (L : Nat) (xs : Nat → Int32) : decode (ax_code (mgT L xs) 156) 21 = .ok (.istore 5, 2) := by
  show decode prog_11_method_52_code 21 = _
  decide +kernel
theorem d156_23 (L : Nat) (xs : Nat → Int32) : decode (ax_code (mgT L xs) 156) 23 = .ok (.aload_n 0, 1) := by
  show decode prog_11_method_52_code 23 = _
  decide +kernel
theorem d156_24 (L : Nat) (xs : Nat → Int32) : decode (ax_code (mgT L xs) 156) 24 = .ok (.getfield 13, 3) := by
  show decode prog_11_method_52_code 24 = _
  decide +kernel
theorem d156_27 (L : Nat) (xs : Nat → Int32) : decode (ax_code (mgT L xs) 156) 27 = .ok (.iload 4, 2) := by
  show decode prog_11_method_52_code 27 = _
  decide +kernel
theorem d156_29 (L : Nat) (xs : Nat → Int32) : decode (ax_code (mgT L xs) 156) 29 = .ok (.iaload, 1) := by
  show decode prog_11_method_52_code 29 = _
  decide +kernel
theorem d156_30 (L : Nat) (xs : Nat → Int32) : decode (ax_code (mgT L xs) 156) 30 = .ok (.iconst 4, 1) := by
  show decode prog_11_method_52_code 30 = _
  decide +kernel
theorem d156_31 (L : Nat) (xs : Nat → Int32) : decode (ax_code (mgT L xs) 156) 31 = .ok (.if_icmp .ne 42, 3) := by
  show decode prog_11_method_52_code 31 = _
  decide +kernel
theorem d156_34 (L : Nat) (xs : Nat → Int32) : decode (ax_code (mgT L xs) 156) 34 = .ok (.iload 5, 2) := by
  show decode prog_11_method_52_code 34 = _
  decide +kernel
theorem d156_36 (L : Nat) (xs : Nat → Int32) : decode (ax_code (mgT L xs) 156) 36 = .ok (.iload_n 2, 1) := by
  show decode prog_11_method_52_code 36 = _
  decide +kernel
theorem d156_37 (L : Nat) (xs : Nat → Int32) : decode (ax_code (mgT L xs) 156) 37 = .ok (.if_icmp .gt 36, 3) := by
  show decode prog_11_method_52_code 37 = _
  decide +kernel
theorem d156_40 (L : Nat) (xs : Nat → Int32) : decode (ax_code (mgT L xs) 156) 40 = .ok (.iload 5, 2) := by
  show decode prog_11_method_52_code 40 = _
  decide +kernel
theorem d156_42 (L : Nat) (xs : Nat → Int32) : decode (ax_code (mgT L xs) 156) 42 = .ok (.iload_n 2, 1) := by
  show decode prog_11_method_52_code 42 = _
  decide +kernel
theorem d156_43 (L : Nat) (xs : Nat → Int32) : decode (ax_code (mgT L xs) 156) 43 = .ok (.if_icmp .eq 26, 3) := by
  show decode prog_11_method_52_code 43 = _
  decide +kernel
theorem d156_46 (L : Nat) (xs : Nat → Int32) : decode (ax_code (mgT L xs) 156) 46 = .ok (.aload_n 1, 1) := by
  show decode prog_11_method_52_code 46 = _
  decide +kernel
theorem d156_47 (L : Nat) (xs : Nat → Int32) : decode (ax_code (mgT L xs) 156) 47 = .ok (.iload 5, 2) := by
  show decode prog_11_method_52_code 47 = _
  decide +kernel
theorem d156_49 (L : Nat) (xs : Nat → Int32) : decode (ax_code (mgT L xs) 156) 49 = .ok (.iload_n 2, 1) := by
  show decode prog_11_method_52_code 49 = _
  decide +kernel
theorem d156_50 (L : Nat) (xs : Nat → Int32) : decode (ax_code (mgT L xs) 156) 50 = .ok (.if_icmp .ge 12, 3) := by
  show decode prog_11_method_52_code 50 = _
  decide +kernel
theorem d156_53 (L : Nat) (xs : Nat → Int32) : decode (ax_code (mgT L xs) 156) 53 = .ok (.iload_n 2, 1) := by
  show decode prog_11_method_52_code 53 = _
  decide +kernel
theorem d156_54 (L : Nat) (xs : Nat → Int32) : decode (ax_code (mgT L xs) 156) 54 = .ok (.iload 5, 2) := by
  show decode prog_11_method_52_code 54 = _
  decide +kernel
theorem d156_56 (L : Nat) (xs : Nat → Int32) : decode (ax_code (mgT L xs) 156) 56 = .ok (.isub, 1) := by
  show decode prog_11_method_52_code 56 = _
  decide +kernel
theorem d156_57 (L : Nat) (xs : Nat → Int32) : decode (ax_code (mgT L xs) 156) 57 = .ok (.iconst 1, 1) := by
  show decode prog_11_method_52_code 57 = _
  decide +kernel
theorem d156_58 (L : Nat) (xs : Nat → Int32) : decode (ax_code (mgT L xs) 156) 58 = .ok (.isub, 1) := by
  show decode prog_11_method_52_code 58 = _
  decide +kernel
theorem d156_59 (L : Nat) (xs : Nat → Int32) : decode (ax_code (mgT L xs) 156) 59 = .ok (.goto 4, 3) := by
  show decode prog_11_method_52_code 59 = _
  decide +kernel
theorem d156_63 (L : Nat) (xs : Nat → Int32) : decode (ax_code (mgT L xs) 156) 63 = .ok (.iaload, 1) := by
  show decode prog_11_method_52_code 63 = _
  decide +kernel
theorem d156_64 (L : Nat) (xs : Nat → Int32) : decode (ax_code (mgT L xs) 156) 64 = .ok (.bipush 46, 2) := by
  show decode prog_11_method_52_code 64 = _
  decide +kernel
theorem d156_66 (L : Nat) (xs : Nat → Int32) : decode (ax_code (mgT L xs) 156) 66 = .ok (.if_icmp .ne 7, 3) := by
  show decode prog_11_method_52_code 66 = _
  decide +kernel
theorem d156_69 (L : Nat) (xs : Nat → Int32) : decode (ax_code (mgT L xs) 156) 69 = .ok (.iconst 1, 1) := by
  show decode prog_11_method_52_code 69 = _
  decide +kernel
theorem d156_70 (L : Nat) (xs : Nat → Int32) : decode (ax_code (mgT L xs) 156) 70 = .ok (.goto 4, 3) := by
  show decode prog_11_method_52_code 70 = _
  decide +kernel
theorem d156_73 (L : Nat) (xs : Nat → Int32) : decode (ax_code (mgT L xs) 156) 73 = .ok (.iconst 0, 1) := by
  show decode prog_11_method_52_code 73 = _
  decide +kernel
theorem d156_74 (L : Nat) (xs : Nat → Int32) : decode (ax_code (mgT L xs) 156) 74 = .ok (.istore 6, 2) := by
  show decode prog_11_method_52_code 74 = _
  decide +kernel
theorem d156_76 (L : Nat) (xs : Nat → Int32) : decode (ax_code (mgT L xs) 156) 76 = .ok (.iconst 0, 1) := by
  show decode prog_11_method_52_code 76 = _
  decide +kernel
theorem d156_77 (L : Nat) (xs : Nat → Int32) : decode (ax_code (mgT L xs) 156) 77 = .ok (.istore 7, 2) := by
  show decode prog_11_method_52_code 77 = _
  decide +kernel
theorem d156_79 (L : Nat) (xs : Nat → Int32) : decode (ax_code (mgT L xs) 156) 79 = .ok (.iload 7, 2) := by
  show decode prog_11_method_52_code 79 = _
  decide +kernel
theorem d156_81 (L : Nat) (xs : Nat → Int32) : decode (ax_code (mgT L xs) 156) 81 = .ok (.iload 5, 2) := by
  show decode prog_11_method_52_code 81 = _
  decide +kernel
theorem d156_83 (L : Nat) (xs : Nat → Int32) : decode (ax_code (mgT L xs) 156) 83 = .ok (.if_icmp .ge 46, 3) := by
  show decode prog_11_method_52_code 83 = _
  decide +kernel
theorem d156_86 (L : Nat) (xs : Nat → Int32) : decode (ax_code (mgT L xs) 156) 86 = .ok (.iload 6, 2) := by
  show decode prog_11_method_52_code 86 = _
  decide +kernel
theorem d156_88 (L : Nat) (xs : Nat → Int32) : decode (ax_code (mgT L xs) 156) 88 = .ok (.ifCond .eq 41, 3) := by
  show decode prog_11_method_52_code 88 = _
  decide +kernel
theorem d156_91 (L : Nat) (xs : Nat → Int32) : decode (ax_code (mgT L xs) 156) 91 = .ok (.aload_n 0, 1) := by
  show decode prog_11_method_52_code 91 = _
  decide +kernel
theorem d156_92 (L : Nat) (xs : Nat → Int32) : decode (ax_code (mgT L xs) 156) 92 = .ok (.getfield 16, 3) := by
  show decode prog_11_method_52_code 92 = _
  decide +kernel
theorem d156_95 (L : Nat) (xs : Nat → Int32) : decode (ax_code (mgT L xs) 156) 95 = .ok (.bipush 100, 2) := by
  show decode prog_11_method_52_code 95 = _
  decide +kernel
theorem d156_97 (L : Nat) (xs : Nat → Int32) : decode (ax_code (mgT L xs) 156) 97 = .ok (.iload 4, 2) := by
  show decode prog_11_method_52_code 97 = _
  decide +kernel
theorem d156_99 (L : Nat) (xs : Nat → Int32) : decode (ax_code (mgT L xs) 156) 99 = .ok (.imul, 1) := by
  show decode prog_11_method_52_code 99 = _
  decide +kernel
theorem d156_100 (L : Nat) (xs : Nat → Int32) : decode (ax_code (mgT L xs) 156) 100 = .ok (.iload 7, 2) := by
  show decode prog_11_method_52_code 100 = _
  decide +kernel
theorem d156_102 (L : Nat) (xs : Nat → Int32) : decode (ax_code (mgT L xs) 156) 102 = .ok (.iadd, 1) := by
  show decode prog_11_method_52_code 102 = _
  decide +kernel
theorem d156_103 (L : Nat) (xs : Nat → Int32) : decode (ax_code (mgT L xs) 156) 103 = .ok (.iaload, 1) := by
  show decode prog_11_method_52_code 103 = _
  decide +kernel
theorem d156_104 (L : Nat) (xs : Nat → Int32) : decode (ax_code (mgT L xs) 156) 104 = .ok (.aload_n 1, 1) := by
  show decode prog_11_method_52_code 104 = _
  decide +kernel
theorem d156_105 (L : Nat) (xs : Nat → Int32) : decode (ax_code (mgT L xs) 156) 105 = .ok (.iload_n 2, 1) := by
  show decode prog_11_method_52_code 105 = _
  decide +kernel
theorem d156_106 (L : Nat) (xs : Nat → Int32) : decode (ax_code (mgT L xs) 156) 106 = .ok (.iload 5, 2) := by
  show decode prog_11_method_52_code 106 = _
  decide +kernel
theorem d156_108 (L : Nat) (xs : Nat → Int32) : decode (ax_code (mgT L xs) 156) 108 = .ok (.isub, 1) := by
  show decode prog_11_method_52_code 108 = _
  decide +kernel
theorem d156_109 (L : Nat) (xs : Nat → Int32) : decode (ax_code (mgT L xs) 156) 109 = .ok (.iload 7, 2) := by
  show decode prog_11_method_52_code 109 = _
  decide +kernel
theorem d156_111 (L : Nat) (xs : Nat → Int32) : decode (ax_code (mgT L xs) 156) 111 = .ok (.iadd, 1) := by
  show decode prog_11_method_52_code 111 = _
  decide +kernel
theorem d156_112 (L : Nat) (xs : Nat → Int32) : decode (ax_code (mgT L xs) 156) 112 = .ok (.iaload, 1) := by
  show decode prog_11_method_52_code 112 = _
  decide +kernel
theorem d156_113 (L : Nat) (xs : Nat → Int32) : decode (ax_code (mgT L xs) 156) 113 = .ok (.if_icmp .ne 7, 3) := by
  show decode prog_11_method_52_code 113 = _
  decide +kernel
theorem d156_116 (L : Nat) (xs : Nat → Int32) : decode (ax_code (mgT L xs) 156) 116 = .ok (.iconst 1, 1) := by
  show decode prog_11_method_52_code 116 = _
  decide +kernel
theorem d156_117 (L : Nat) (xs : Nat → Int32) : decode (ax_code (mgT L xs) 156) 117 = .ok (.goto 4, 3) := by
  show decode prog_11_method_52_code 117 = _
  decide +kernel
theorem d156_120 (L : Nat) (xs : Nat → Int32) : decode (ax_code (mgT L xs) 156) 120 = .ok (.iconst 0, 1) := by
  show decode prog_11_method_52_code 120 = _
  decide +kernel
theorem d156_121 (L : Nat) (xs : Nat → Int32) : decode (ax_code (mgT L xs) 156) 121 = .ok (.istore 6, 2) := by
  show decode prog_11_method_52_code 121 = _
  decide +kernel
theorem d156_123 (L : Nat) (xs : Nat → Int32) : decode (ax_code (mgT L xs) 156) 123 = .ok (.iinc 7 1, 3) := by
  show decode prog_11_method_52_code 123 = _
  decide +kernel
theorem d156_126 (L : Nat) (xs : Nat → Int32) : decode (ax_code (mgT L xs) 156) 126 = .ok (.goto (-47), 3) := by
  show decode prog_11_method_52_code 126 = _
  decide +kernel
theorem d156_129 (L : Nat) (xs : Nat → Int32) : decode (ax_code (mgT L xs) 156) 129 = .ok (.iload 6, 2) := by
  show decode prog_11_method_52_code 129 = _
  decide +kernel
theorem d156_131 (L : Nat) (xs : Nat → Int32) : decode (ax_code (mgT L xs) 156) 131 = .ok (.ifCond .eq 14, 3) := by
  show decode prog_11_method_52_code 131 = _
  decide +kernel
theorem d156_134 (L : Nat) (xs : Nat → Int32) : decode (ax_code (mgT L xs) 156) 134 = .ok (.iload 5, 2) := by
  show decode prog_11_method_52_code 134 = _
  decide +kernel
theorem d156_136 (L : Nat) (xs : Nat → Int32) : decode (ax_code (mgT L xs) 156) 136 = .ok (.iload_n 3, 1) := by
  show decode prog_11_method_52_code 136 = _
  decide +kernel
theorem d156_137 (L : Nat) (xs : Nat → Int32) : decode (ax_code (mgT L xs) 156) 137 = .ok (.if_icmp .le 8, 3) := by
  show decode prog_11_method_52_code 137 = _
  decide +kernel
theorem d156_140 (L : Nat) (xs : Nat → Int32) : decode (ax_code (mgT L xs) 156) 140 = .ok (.iload 5, 2) := by
  show decode prog_11_method_52_code 140 = _
  decide +kernel
theorem d156_142 (L : Nat) (xs : Nat → Int32) : decode (ax_code (mgT L xs) 156) 142 = .ok (.goto 4, 3) := by
  show decode prog_11_method_52_code 142 = _
  decide +kernel
theorem d156_145 (L : Nat) (xs : Nat → Int32) : decode (ax_code (mgT L xs) 156) 145 = .ok (.iload_n 3, 1) := by
  show decode prog_11_method_52_code 145 = _
  decide +kernel
theorem d156_146 (L : Nat) (xs : Nat → Int32) : decode (ax_code (mgT L xs) 156) 146 = .ok (.istore_n 3, 1) := by
  show decode prog_11_method_52_code 146 = _
  decide +kernel
theorem d156_147 (L : Nat) (xs : Nat → Int32) : decode (ax_code (mgT L xs) 156) 147 = .ok (.iinc 4 1, 3) := by
  show decode prog_11_method_52_code 147 = _
  decide +kernel
theorem d156_150 (L : Nat) (xs : Nat → Int32) : decode (ax_code (mgT L xs) 156) 150 = .ok (.goto (-145), 3) := by
  show decode prog_11_method_52_code 150 = _
  decide +kernel
theorem d156_153 (L : Nat) (xs : Nat → Int32) : decode (ax_code (mgT L xs) 156) 153 = .ok (.iload_n 3, 1) := by
  show decode prog_11_method_52_code 153 = _
  decide +kernel
theorem d156_154 (L : Nat) (xs : Nat → Int32) : decode (ax_code (mgT L xs) 156) 154 = .ok (.iload_n 2, 1) := by
  show decode prog_11_method_52_code 154 = _
  decide +kernel
theorem d156_155 (L : Nat) (xs : Nat → Int32) : decode (ax_code (mgT L xs) 156) 155 = .ok (.if_icmp .ne 5, 3) := by
  show decode prog_11_method_52_code 155 = _
  decide +kernel
theorem d156_158 (L : Nat) (xs : Nat → Int32) : decode (ax_code (mgT L xs) 156) 158 = .ok (.iconst 0, 1) := by
  show decode prog_11_method_52_code 158 = _
  decide +kernel
theorem d156_159 (L : Nat) (xs : Nat → Int32) : decode (ax_code (mgT L xs) 156) 159 = .ok (.ireturn, 1) := by
  show decode prog_11_method_52_code 159 = _
  decide +kernel
theorem d156_160 (L : Nat) (xs : Nat → Int32) : decode (ax_code (mgT L xs) 156) 160 = .ok (.iload_n 2, 1) := by
  show decode prog_11_method_52_code 160 = _
  decide +kernel
theorem d156_161 (L : Nat) (xs : Nat → Int32) : decode (ax_code (mgT L xs) 156) 161 = .ok (.iload_n 3, 1) := by
  show decode prog_11_method_52_code 161 = _
  decide +kernel
theorem d156_162 (L : Nat) (xs : Nat → Int32) : decode (ax_code (mgT L xs) 156) 162 = .ok (.isub, 1) := by
  show decode prog_11_method_52_code 162 = _
  decide +kernel
theorem d156_163 (L : Nat) (xs : Nat → Int32) : decode (ax_code (mgT L xs) 156) 163 = .ok (.iconst 2, 1) := by
  show decode prog_11_method_52_code 163 = _
  decide +kernel
theorem d156_164 (L : Nat) (xs : Nat → Int32) : decode (ax_code (mgT L xs) 156) 164 = .ok (.isub, 1) := by
  show decode prog_11_method_52_code 164 = _
  decide +kernel
theorem d156_165 (L : Nat) (xs : Nat → Int32) : decode (ax_code (mgT L xs) 156) 165 = .ok (.istore 4, 2) := by
  show decode prog_11_method_52_code 165 = _
  decide +kernel
theorem d156_167 (L : Nat) (xs : Nat → Int32) : decode (ax_code (mgT L xs) 156) 167 = .ok (.iload_n 3, 1) := by
  show decode prog_11_method_52_code 167 = _
  decide +kernel
theorem d156_168 (L : Nat) (xs : Nat → Int32) : decode (ax_code (mgT L xs) 156) 168 = .ok (.ifCond .ne 31, 3) := by
  show decode prog_11_method_52_code 168 = _
  decide +kernel
theorem d156_171 (L : Nat) (xs : Nat → Int32) : decode (ax_code (mgT L xs) 156) 171 = .ok (.iload_n 2, 1) := by
  show decode prog_11_method_52_code 171 = _
  decide +kernel
theorem d156_172 (L : Nat) (xs : Nat → Int32) : decode (ax_code (mgT L xs) 156) 172 = .ok (.iconst 1, 1) := by
  show decode prog_11_method_52_code 172 = _
  decide +kernel
theorem d156_173 (L : Nat) (xs : Nat → Int32) : decode (ax_code (mgT L xs) 156) 173 = .ok (.isub, 1) := by
  show decode prog_11_method_52_code 173 = _
  decide +kernel
theorem d156_174 (L : Nat) (xs : Nat → Int32) : decode (ax_code (mgT L xs) 156) 174 = .ok (.istore 4, 2) := by
  show decode prog_11_method_52_code 174 = _
  decide +kernel
theorem d156_176 (L : Nat) (xs : Nat → Int32) : decode (ax_code (mgT L xs) 156) 176 = .ok (.iload 4, 2) := by
  show decode prog_11_method_52_code 176 = _
  decide +kernel
theorem d156_178 (L : Nat) (xs : Nat → Int32) : decode (ax_code (mgT L xs) 156) 178 = .ok (.ifCond .lt 18, 3) := by
  show decode prog_11_method_52_code 178 = _
  decide +kernel
theorem d156_181 (L : Nat) (xs : Nat → Int32) : decode (ax_code (mgT L xs) 156) 181 = .ok (.aload_n 1, 1) := by
  show decode prog_11_method_52_code 181 = _
  decide +kernel
theorem d156_182 (L : Nat) (xs : Nat → Int32) : decode (ax_code (mgT L xs) 156) 182 = .ok (.iload 4, 2) := by
  show decode prog_11_method_52_code 182 = _
  decide +kernel
theorem d156_184 (L : Nat) (xs : Nat → Int32) : decode (ax_code (mgT L xs) 156) 184 = .ok (.iaload, 1) := by
  show decode prog_11_method_52_code 184 = _
  decide +kernel
theorem d156_185 (L : Nat) (xs : Nat → Int32) : decode (ax_code (mgT L xs) 156) 185 = .ok (.bipush 46, 2) := by
  show decode prog_11_method_52_code 185 = _
  decide +kernel
theorem d156_187 (L : Nat) (xs : Nat → Int32) : decode (ax_code (mgT L xs) 156) 187 = .ok (.if_icmp .eq 9, 3) := by
  show decode prog_11_method_52_code 187 = _
  decide +kernel
theorem d156_190 (L : Nat) (xs : Nat → Int32) : decode (ax_code (mgT L xs) 156) 190 = .ok (.iinc 4 (-1), 3) := by
  show decode prog_11_method_52_code 190 = _
  decide +kernel
theorem d156_193 (L : Nat) (xs : Nat → Int32) : decode (ax_code (mgT L xs) 156) 193 = .ok (.goto (-17), 3) := by
  show decode prog_11_method_52_code 193 = _
  decide +kernel
theorem d156_196 (L : Nat) (xs : Nat → Int32) : decode (ax_code (mgT L xs) 156) 196 = .ok (.iinc 4 (-1), 3) := by
  show decode prog_11_method_52_code 196 = _
  decide +kernel
theorem d156_199 (L : Nat) (xs : Nat → Int32) : decode (ax_code (mgT L xs) 156) 199 = .ok (.iload 4, 2) := by
  show decode prog_11_method_52_code 199 = _
  decide +kernel
theorem d156_201 (L : Nat) (xs : Nat → Int32) : decode (ax_code (mgT L xs) 156) 201 = .ok (.ifCond .lt 18, 3) := by
  show decode prog_11_method_52_code 201 = _
  decide +kernel
theorem d156_204 (L : Nat) (xs : Nat → Int32) : decode (ax_code (mgT L xs) 156) 204 = .ok (.aload_n 1, 1) := by
  show decode prog_11_method_52_code 204 = _
  decide +kernel
theorem d156_205 (L : Nat) (xs : Nat → Int32) : decode (ax_code (mgT L xs) 156) 205 = .ok (.iload 4, 2) := by
  show decode prog_11_method_52_code 205 = _
  decide +kernel
theorem d156_207 (L : Nat) (xs : Nat → Int32) : decode (ax_code (mgT L xs) 156) 207 = .ok (.iaload, 1) := by
  show decode prog_11_method_52_code 207 = _
  decide +kernel
theorem d156_208 (L : Nat) (xs : Nat → Int32) : decode (ax_code (mgT L xs) 156) 208 = .ok (.bipush 46, 2) := by
  show decode prog_11_method_52_code 208 = _
  decide +kernel
theorem d156_210 (L : Nat) (xs : Nat → Int32) : decode (ax_code (mgT L xs) 156) 210 = .ok (.if_icmp .eq 9, 3) := by
  show decode prog_11_method_52_code 210 = _
  decide +kernel
theorem d156_213 (L : Nat) (xs : Nat → Int32) : decode (ax_code (mgT L xs) 156) 213 = .ok (.iinc 4 (-1), 3) := by
  show decode prog_11_method_52_code 213 = _
  decide +kernel
theorem d156_216 (L : Nat) (xs : Nat → Int32) : decode (ax_code (mgT L xs) 156) 216 = .ok (.goto (-17), 3) := by
  show decode prog_11_method_52_code 216 = _
  decide +kernel
theorem d156_219 (L : Nat) (xs : Nat → Int32) : decode (ax_code (mgT L xs) 156) 219 = .ok (.iload 4, 2) := by
  show decode prog_11_method_52_code 219 = _
  decide +kernel
theorem d156_221 (L : Nat) (xs : Nat → Int32) : decode (ax_code (mgT L xs) 156) 221 = .ok (.ifCond .ge 7, 3) := by
  show decode prog_11_method_52_code 221 = _
  decide +kernel
theorem d156_224 (L : Nat) (xs : Nat → Int32) : decode (ax_code (mgT L xs) 156) 224 = .ok (.iconst 0, 1) := by
  show decode prog_11_method_52_code 224 = _
  decide +kernel
theorem d156_225 (L : Nat) (xs : Nat → Int32) : decode (ax_code (mgT L xs) 156) 225 = .ok (.goto 7, 3) := by
  show decode prog_11_method_52_code 225 = _
  decide +kernel
theorem d156_228 (L : Nat) (xs : Nat → Int32) : decode (ax_code (mgT L xs) 156) 228 = .ok (.iload 4, 2) := by
  show decode prog_11_method_52_code 228 = _
  decide +kernel
theorem d156_230 (L : Nat) (xs : Nat → Int32) : decode (ax_code (mgT L xs) 156) 230 = .ok (.iconst 1, 1) := by
  show decode prog_11_method_52_code 230 = _
  decide +kernel
theorem d156_231 (L : Nat) (xs : Nat → Int32) : decode (ax_code (mgT L xs) 156) 231 = .ok (.iadd, 1) := by
  show decode prog_11_method_52_code 231 = _
  decide +kernel
theorem d156_232 (L : Nat) (xs : Nat → Int32) : decode (ax_code (mgT L xs) 156) 232 = .ok (.ireturn, 1) := by
  show decode prog_11_method_52_code 232 = _
  decide +kernel
def mI (k : Nat) : Int32 := match k with
  | 0 => -1
  | k + 1 => nI k
theorem mI_dec (k : Nat) : nI k + Int32.ofInt (-1) = mI k := by
  cases k with
  | zero => rfl
  | succ k => rw [ty_d1]; exact ty_s1 k
theorem mI_2 {a : Nat} (h : 1 ≤ a) : nI a - 2 = mI (a - 1) := by
  rcases Nat.lt_or_ge a 2 with q | q
  · rw [show a = 1 by omega]; rfl
  · have h2 : (2 : Int32) = nI 2 := rfl
    rw [h2, pk_sub q, show a - 1 = (a - 2) + 1 by omega]; rfl
theorem last_21 {g : Nat → Nat} : ∀ (m : Nat), f_last g 2 1 m = f_ahead g m := by
  intro m
  induction m with
  | zero => rfl
  | succ m ih => rw [f_last, f_ahead, ih]; rfl
def x_oa (l : List Nat) (acc : Nat) : Nat := if acc = l.length then f_last (gl l) 2 0 l.length else f_ahead (gl l) (acc - 1)
def b_sfx (l m : List Nat) : Prop := m.length ≤ l.length ∧ t_same (gl l) (l.length - m.length) l.length (gl m) 0 m.length = true ∧ (l.length = m.length ∨ gl l (l.length - m.length - 1) = 46)
theorem sfx_no {l m : List Nat} (h : ¬ b_sfx l m) : x_sfx l m = l.length := if_neg h
theorem sfx_yes {l m : List Nat} (h : b_sfx l m) : x_sfx l m = l.length - m.length := if_pos h
theorem same_sfx {l m : List Nat} (h : m.length ≤ l.length) : t_same (gl l) (l.length - m.length) l.length (gl m) 0 m.length = f_same (gl l) (gl m) (l.length - m.length) 0 m.length := by
  unfold t_same
  rw [decide_eq_true (by omega), Bool.true_and, show l.length - (l.length - m.length) = m.length by omega]
theorem ahead_le {g : Nat → Nat} : ∀ (m : Nat), f_ahead g m ≤ m := by
  intro m
  induction m with
  | zero => exact Nat.le_refl _
  | succ m ih => rw [f_ahead]; split <;> omega
section KO
variable {L : Nat} {xs : Nat → Int32} {d q N : Nat} {l : List Nat} {R : List rowT} {s : mg_s} {Q : Option Value → mg_s → Prop}
theorem md_og_b {Lg : Nat} {c5 c6 c7 : Option Value} (Hq : isA q N) (hg : ∀ k, k < l.length → s.2.1 q k = nI (gl l k) ∧ gl l k < 65536) (hlN : l.length ≤ N) (hN : N < 2 ^ 20) : ∀ (k : Nat), k ≤ l.length → wp L xs d 156 199 [some (.ref 141), some (.ref q), some (.int (nI l.length)), some (.int (nI Lg)), some (.int (mI k)), c5, c6, c7] [] s (fun v s' => v = some (.int (nI (f_ahead (gl l) k))) ∧ s = s') := by
  intro k
  induction k with
  | zero =>
    intro hk
    show wp L xs d 156 199 [some (.ref 141), some (.ref q), some (.int (nI l.length)), some (.int (nI Lg)), some (.int (-1)), c5, c6, c7] [] s _
    refine wg_iload (d156_199 L xs) rfl ?_
    refine wg_if_lt (d156_201 L xs) (t := 219) (by decide) (fun _ => ?_) (fun hn => absurd (by decide) hn)
    refine wg_iload (d156_219 L xs) rfl ?_
    refine wg_if_ge (d156_221 L xs) (t := 228) (by decide) (fun hp => absurd hp (by decide)) (fun _ => ?_)
    refine wg_iconst (d156_224 L xs) (x := 0) (by decide) ?_
    refine wg_goto (d156_225 L xs) (t := 232) (by decide) ?_
    exact wg_iret (d156_232 L xs) rfl rfl ⟨rfl, rfl⟩
  | succ k ih =>
    intro hk
    have hgk := (hg k (by omega)).2
    rw [f_ahead]
    show wp L xs d 156 199 [some (.ref 141), some (.ref q), some (.int (nI l.length)), some (.int (nI Lg)), some (.int (nI k)), c5, c6, c7] [] s _
    refine wg_iload (d156_199 L xs) rfl ?_
    refine wn_if_lt (d156_201 L xs) (x := k) (by omega) (t := 219) (by decide) (fun h1 => by omega) (fun h1 => ?_)
    refine wg_aload_n (d156_204 L xs) rfl ?_
    refine wg_iload (d156_205 L xs) rfl ?_
    refine wg_iald (d156_207 L xs) Hq.1 (ar_d Hq) (vp_in_nI (n := k) (by omega) (by omega)) ?_
    refine wg_top (y := nI (gl l k)) (by rw [nI_nat (by omega)]; exact (hg k (by omega)).1) ?_
    refine wg_bipush (d156_208 L xs) (x := 46) (by decide) ?_
    refine wn_icmp_eq (d156_210 L xs) (x := gl l k) (y := 46) (by omega) (by omega) (t := 219) (by decide) (fun h2 => ?_) (fun h2 => ?_)
    · refine wg_iload (d156_219 L xs) rfl ?_
      refine wn_if_ge (d156_221 L xs) (x := k) (by omega) (t := 228) (by decide) (fun h3 => ?_) (fun h3 => by omega)
      refine wg_iload (d156_228 L xs) rfl ?_
      refine wg_iconst (d156_230 L xs) (x := 1) (by decide) ?_
      refine wg_iadd (d156_231 L xs) ?_
      refine wg_top (y := (nI (k + 1))) (nI_add k 1) ?_
      exact wg_iret (d156_232 L xs) rfl rfl ⟨by rw [if_pos (by omega)], rfl⟩
    · refine wg_iinc (d156_213 L xs) (y := (mI k)) (ls' := [some (.ref 141), some (.ref q), some (.int (nI l.length)), some (.int (nI Lg)), some (.int (mI k)), c5, c6, c7]) rfl (mI_dec k) rfl ?_
      refine wg_goto (d156_216 L xs) (t := 199) (by decide) ?_
      rw [if_neg (by omega)]
      exact ih (by omega)
theorem md_og_a {Lg : Nat} {c5 c6 c7 : Option Value} (Hq : isA q N) (hg : ∀ k, k < l.length → s.2.1 q k = nI (gl l k) ∧ gl l k < 65536) (hlN : l.length ≤ N) (hN : N < 2 ^ 20) : ∀ (k : Nat), k ≤ l.length → wp L xs d 156 176 [some (.ref 141), some (.ref q), some (.int (nI l.length)), some (.int (nI Lg)), some (.int (mI k)), c5, c6, c7] [] s (fun v s' => v = some (.int (nI (f_last (gl l) 2 0 k))) ∧ s = s') := by
  intro k
  induction k with
  | zero =>
    intro hk
    show wp L xs d 156 176 [some (.ref 141), some (.ref q), some (.int (nI l.length)), some (.int (nI Lg)), some (.int (-1)), c5, c6, c7] [] s _
    refine wg_iload (d156_176 L xs) rfl ?_
    refine wg_if_lt (d156_178 L xs) (t := 196) (by decide) (fun _ => ?_) (fun hn => absurd (by decide) hn)
    refine wg_iinc (d156_196 L xs) (y := (-2)) (ls' := [some (.ref 141), some (.ref q), some (.int (nI l.length)), some (.int (nI Lg)), some (.int (-2)), c5, c6, c7]) rfl (by decide) rfl ?_
    refine wg_iload (d156_199 L xs) rfl ?_
    refine wg_if_lt (d156_201 L xs) (t := 219) (by decide) (fun _ => ?_) (fun hn => absurd (by decide) hn)
    refine wg_iload (d156_219 L xs) rfl ?_
    refine wg_if_ge (d156_221 L xs) (t := 228) (by decide) (fun hp => absurd hp (by decide)) (fun _ => ?_)
    refine wg_iconst (d156_224 L xs) (x := 0) (by decide) ?_
    refine wg_goto (d156_225 L xs) (t := 232) (by decide) ?_
    exact wg_iret (d156_232 L xs) rfl rfl ⟨rfl, rfl⟩
  | succ k ih =>
    intro hk
    have hgk := (hg k (by omega)).2
    rw [f_last]
    show wp L xs d 156 176 [some (.ref 141), some (.ref q), some (.int (nI l.length)), some (.int (nI Lg)), some (.int (nI k)), c5, c6, c7] [] s _
    refine wg_iload (d156_176 L xs) rfl ?_
    refine wn_if_lt (d156_178 L xs) (x := k) (by omega) (t := 196) (by decide) (fun h1 => by omega) (fun h1 => ?_)
    refine wg_aload_n (d156_181 L xs) rfl ?_
    refine wg_iload (d156_182 L xs) rfl ?_
    refine wg_iald (d156_184 L xs) Hq.1 (ar_d Hq) (vp_in_nI (n := k) (by omega) (by omega)) ?_
    refine wg_top (y := nI (gl l k)) (by rw [nI_nat (by omega)]; exact (hg k (by omega)).1) ?_
    refine wg_bipush (d156_185 L xs) (x := 46) (by decide) ?_
    refine wn_icmp_eq (d156_187 L xs) (x := gl l k) (y := 46) (by omega) (by omega) (t := 196) (by decide) (fun h2 => ?_) (fun h2 => ?_)
    · refine wg_iinc (d156_196 L xs) (y := (mI k)) (ls' := [some (.ref 141), some (.ref q), some (.int (nI l.length)), some (.int (nI Lg)), some (.int (mI k)), c5, c6, c7]) rfl (mI_dec k) rfl ?_
      rw [if_pos (by omega), if_neg (by omega), last_21]
      exact md_og_b Hq hg hlN hN k (by omega)
    · refine wg_iinc (d156_190 L xs) (y := (mI k)) (ls' := [some (.ref 141), some (.ref q), some (.int (nI l.length)), some (.int (nI Lg)), some (.int (mI k)), c5, c6, c7]) rfl (mI_dec k) rfl ?_
      refine wg_goto (d156_193 L xs) (t := 176) (by decide) ?_
      rw [if_neg (by omega)]
      exact ih (by omega)
theorem md_og_i {Lg r : Nat} {nm : List Nat} (Hq : isA q N) (hg : ∀ k, k < l.length → s.2.1 q k = nI (gl l k) ∧ gl l k < 65536) (hlN : l.length ≤ N) (hN : N < 2 ^ 20) (hr16 : r < 16) (hnm : holdA s 144 (100 * r) nm) (hnl : nm.length ≤ l.length) (hn100 : nm.length ≤ 100) : ∀ (z k : Nat) (b : Bool), k + z = nm.length → (∀ c7, wp L xs d 156 129 [some (.ref 141), some (.ref q), some (.int (nI l.length)), some (.int (nI Lg)), some (.int (nI r)), some (.int (nI nm.length)), some (.int (nI (bI (b && f_same (gl l) (gl nm) (l.length - nm.length + k) k z)))), c7] [] s Q) → wp L xs d 156 79 [some (.ref 141), some (.ref q), some (.int (nI l.length)), some (.int (nI Lg)), some (.int (nI r)), some (.int (nI nm.length)), some (.int (nI (bI b))), some (.int (nI k))] [] s Q := by
  intro z
  induction z with
  | zero =>
    intro k b hk kk
    have hk0 : k = nm.length := by omega
    subst hk0
    rw [f_same, Bool.and_true] at kk
    refine wg_iload (d156_79 L xs) rfl ?_
    refine wg_iload (d156_81 L xs) rfl ?_
    refine wn_icmp_ge (d156_83 L xs) (x := nm.length) (y := nm.length) (by omega) (by omega) (t := 129) (by decide) (fun h1 => ?_) (fun h1 => by omega)
    exact kk _
  | succ z ih =>
    intro k b hk kk
    have hbl := bI_lt b
    have hgk := gl_lt hnm.1 k
    have hgl := (hg (l.length - nm.length + k) (by omega)).2
    rw [f_same] at kk
    refine wg_iload (d156_79 L xs) rfl ?_
    refine wg_iload (d156_81 L xs) rfl ?_
    refine wn_icmp_ge (d156_83 L xs) (x := k) (y := nm.length) (by omega) (by omega) (t := 129) (by decide) (fun h1 => by omega) (fun h1 => ?_)
    refine wg_iload (d156_86 L xs) rfl ?_
    refine wn_if_eq (d156_88 L xs) (x := bI b) (by omega) (t := 129) (by decide) (fun h2 => ?_) (fun h2 => ?_)
    · have e0 : b = false := bI_f (by omega)
      subst e0
      exact kk _
    · refine wg_aload_n (d156_91 L xs) rfl ?_
      refine wg_get (d156_92 L xs) (kd := 1) (cj := 9) (k0 := 5) rfl (Or.inl rfl) (by decide) rfl rfl ?_
      refine wg_bipush (d156_95 L xs) (x := 100) (by decide) ?_
      refine wg_iload (d156_97 L xs) rfl ?_
      refine wg_imul (d156_99 L xs) ?_
      refine wg_top (y := (nI (100 * r))) (pk_mul 100 r) ?_
      refine wg_iload (d156_100 L xs) rfl ?_
      refine wg_iadd (d156_102 L xs) ?_
      refine wg_top (y := (nI ((100 * r) + k))) (nI_add (100 * r) k) ?_
      refine wg_iald (d156_103 L xs) (n := 1600) (by decide) rfl (vp_in_nI (n := (100 * r) + k) (by omega) (by omega)) ?_
      refine wg_top (y := (nI (gl nm k))) (by rw [nI_nat (n := (100 * r) + k) (by omega)]; exact (by have := hnm.2 k (by omega); exact this)) ?_
      refine wg_aload_n (d156_104 L xs) rfl ?_
      refine wg_iload_n (d156_105 L xs) rfl ?_
      refine wg_iload (d156_106 L xs) rfl ?_
      refine wg_isub (d156_108 L xs) ?_
      refine wg_top (y := (nI (l.length - nm.length))) (pk_sub (a := l.length) (b := nm.length) (by omega)) ?_
      refine wg_iload (d156_109 L xs) rfl ?_
      refine wg_iadd (d156_111 L xs) ?_
      refine wg_top (y := (nI ((l.length - nm.length) + k))) (nI_add (l.length - nm.length) k) ?_
      refine wg_iald (d156_112 L xs) Hq.1 (ar_d Hq) (vp_in_nI (n := (l.length - nm.length) + k) (by omega) (by omega)) ?_
      refine wg_top (y := nI (gl l ((l.length - nm.length) + k))) (by rw [nI_nat (by omega)]; exact (hg ((l.length - nm.length) + k) (by omega)).1) ?_
      refine wn_icmp_ne (d156_113 L xs) (x := gl nm k) (y := gl l ((l.length - nm.length) + k)) (by omega) (by omega) (t := 120) (by decide) (fun h3 => ?_) (fun h3 => ?_)
      · refine wg_iconst (d156_120 L xs) (x := 0) (by decide) ?_
        refine wg_istore (d156_121 L xs) (ls' := [some (.ref 141), some (.ref q), some (.int (nI l.length)), some (.int (nI Lg)), some (.int (nI r)), some (.int (nI nm.length)), some (.int 0), some (.int (nI k))]) (Nat.le_of_ble_eq_true rfl) rfl ?_
        refine wg_iinc (d156_123 L xs) (y := (nI (k + 1))) (ls' := [some (.ref 141), some (.ref q), some (.int (nI l.length)), some (.int (nI Lg)), some (.int (nI r)), some (.int (nI nm.length)), some (.int 0), some (.int (nI (k + 1)))]) rfl (nI_add k 1) rfl ?_
        refine wg_goto (d156_126 L xs) (t := 79) (by decide) ?_
        have e0 : b = true := bI_t (by omega)
        subst e0
        rw [decide_eq_false (show ¬ gl l (l.length - nm.length + k) = gl nm k by omega), Bool.true_and] at kk
        exact ih (k + 1) false (by omega) (fun c7 => kk c7)
      · refine wg_iconst (d156_116 L xs) (x := 1) (by decide) ?_
        refine wg_goto (d156_117 L xs) (t := 121) (by decide) ?_
        refine wg_istore (d156_121 L xs) (ls' := [some (.ref 141), some (.ref q), some (.int (nI l.length)), some (.int (nI Lg)), some (.int (nI r)), some (.int (nI nm.length)), some (.int 1), some (.int (nI k))]) (Nat.le_of_ble_eq_true rfl) rfl ?_
        refine wg_iinc (d156_123 L xs) (y := (nI (k + 1))) (ls' := [some (.ref 141), some (.ref q), some (.int (nI l.length)), some (.int (nI Lg)), some (.int (nI r)), some (.int (nI nm.length)), some (.int 1), some (.int (nI (k + 1)))]) rfl (nI_add k 1) rfl ?_
        refine wg_goto (d156_126 L xs) (t := 79) (by decide) ?_
        have e0 : b = true := bI_t (by omega)
        subst e0
        rw [decide_eq_true (show gl l (l.length - nm.length + k) = gl nm k by omega), Bool.true_and] at kk
        exact ih (k + 1) true (by omega) (fun c7 => kk c7)
theorem mI_1 {a : Nat} (h : 1 ≤ a) : nI a - 1 = mI a := by
  rw [show a = (a - 1) + 1 by omega]; exact ty_s1 _
theorem md_og_l (Hq : isA q N) (hg : ∀ k, k < l.length → s.2.1 q k = nI (gl l k) ∧ gl l k < 65536) (hlN : l.length ≤ N) (hN : N < 2 ^ 20) (hl1 : 1 ≤ l.length) (T : isTabM s R) : ∀ (Rs : List rowT) (k Lg : Nat) (c5 c6 c7 : Option Value), R.drop k = Rs → k ≤ R.length → Lg ≤ l.length → wp L xs d 156 5 [some (.ref 141), some (.ref q), some (.int (nI l.length)), some (.int (nI Lg)), some (.int (nI k)), c5, c6, c7] [] s (fun v s' => v = some (.int (nI (x_oa l (f_org l Rs (l.length - Lg))))) ∧ s = s') := by
  have hR16 := T.2.1
  intro Rs
  induction Rs with
  | nil =>
    intro k Lg c5 c6 c7 hk hkl hL
    have hkL : R.length ≤ k := List.drop_eq_nil_iff.mp hk
    rw [f_org]
    refine wg_iload (d156_5 L xs) rfl ?_
    refine wg_aload_n (d156_7 L xs) rfl ?_
    refine wg_get (d156_8 L xs) (kd := 1) (cj := 9) (k0 := 3) rfl (Or.inl rfl) (by decide) rfl rfl ?_
    refine wg_top (y := (nI R.length)) T.1 ?_
    refine wn_icmp_ge (d156_11 L xs) (x := k) (y := R.length) (by omega) (by omega) (t := 153) (by decide) (fun h1 => ?_) (fun h1 => by omega)
    refine wg_iload_n (d156_153 L xs) rfl ?_
    refine wg_iload_n (d156_154 L xs) rfl ?_
    refine wn_icmp_ne (d156_155 L xs) (x := Lg) (y := l.length) (by omega) (by omega) (t := 160) (by decide) (fun h2 => ?_) (fun h2 => ?_)
    · refine wg_iload_n (d156_160 L xs) rfl ?_
      refine wg_iload_n (d156_161 L xs) rfl ?_
      refine wg_isub (d156_162 L xs) ?_
      refine wg_top (y := (nI (l.length - Lg))) (pk_sub (a := l.length) (b := Lg) (by omega)) ?_
      refine wg_iconst (d156_163 L xs) (x := 2) (by decide) ?_
      refine wg_isub (d156_164 L xs) ?_
      refine wg_top (y := (mI (l.length - Lg - 1))) (mI_2 (by omega)) ?_
      refine wg_istore (d156_165 L xs) (ls' := [some (.ref 141), some (.ref q), some (.int (nI l.length)), some (.int (nI Lg)), some (.int (mI (l.length - Lg - 1))), c5, c6, c7]) (Nat.le_of_ble_eq_true rfl) rfl ?_
      refine wg_iload_n (d156_167 L xs) rfl ?_
      refine wn_if_ne (d156_168 L xs) (x := Lg) (by omega) (t := 199) (by decide) (fun h3 => ?_) (fun h3 => ?_)
      · unfold x_oa
        rw [if_neg (show ¬ l.length - Lg = l.length by omega)]
        exact md_og_b Hq hg hlN hN (l.length - Lg - 1) (by omega)
      · refine wg_iload_n (d156_171 L xs) rfl ?_
        refine wg_iconst (d156_172 L xs) (x := 1) (by decide) ?_
        refine wg_isub (d156_173 L xs) ?_
        refine wg_top (y := (mI l.length)) (mI_1 hl1) ?_
        refine wg_istore (d156_174 L xs) (ls' := [some (.ref 141), some (.ref q), some (.int (nI l.length)), some (.int (nI Lg)), some (.int (mI l.length)), c5, c6, c7]) (Nat.le_of_ble_eq_true rfl) rfl ?_
        unfold x_oa
        rw [if_pos (show l.length - Lg = l.length by omega)]
        exact md_og_a Hq hg hlN hN l.length (Nat.le_refl _)
    · refine wg_iconst (d156_158 L xs) (x := 0) (by decide) ?_
      exact wg_iret (d156_159 L xs) rfl rfl ⟨by unfold x_oa; rw [if_neg (show ¬ l.length - Lg = l.length by omega), show l.length - Lg - 1 = 0 by omega]; rfl, rfl⟩
  | cons q0 Rs ih =>
    intro k Lg c5 c6 c7 hk hkl hL
    have hq : R[k]? = some q0 := by
      have : (R.drop k)[0]? = some q0 := by rw [hk]; rfl
      rw [List.getElem?_drop] at this; exact this
    have hk2 : R.drop (k + 1) = Rs := by rw [← List.tail_drop, hk]; rfl
    have hkL : k < R.length := (List.getElem?_eq_some_iff.mp hq).1
    obtain ⟨hqM, hqo⟩ := T.2.2 k q0 hq
    have hqn := t_name_len hqo.2.1
    have hq4 := hqo.1
    have hgx := (hg (l.length - q0.2.1.length - 1) (by omega)).2
    rw [f_org]
    refine wg_iload (d156_5 L xs) rfl ?_
    refine wg_aload_n (d156_7 L xs) rfl ?_
    refine wg_get (d156_8 L xs) (kd := 1) (cj := 9) (k0 := 3) rfl (Or.inl rfl) (by decide) rfl rfl ?_
    refine wg_top (y := (nI R.length)) T.1 ?_
    refine wn_icmp_ge (d156_11 L xs) (x := k) (y := R.length) (by omega) (by omega) (t := 153) (by decide) (fun h1 => by omega) (fun h1 => ?_)
    refine wg_aload_n (d156_14 L xs) rfl ?_
    refine wg_get (d156_15 L xs) (kd := 1) (cj := 9) (k0 := 7) rfl (Or.inl rfl) (by decide) rfl rfl ?_
    refine wg_iload (d156_18 L xs) rfl ?_
    refine wg_iald (d156_20 L xs) (n := 16) (by decide) rfl (vp_in_nI (n := k) (by omega) (by omega)) ?_
    refine wg_top (y := (nI q0.2.1.length)) (by rw [nI_nat (n := k) (by omega)]; exact hqM.2.1) ?_
    refine wg_istore (d156_21 L xs) (ls' := [some (.ref 141), some (.ref q), some (.int (nI l.length)), some (.int (nI Lg)), some (.int (nI k)), some (.int (nI q0.2.1.length)), c6, c7]) (Nat.le_of_ble_eq_true rfl) rfl ?_
    refine wg_aload_n (d156_23 L xs) rfl ?_
    refine wg_get (d156_24 L xs) (kd := 1) (cj := 9) (k0 := 4) rfl (Or.inl rfl) (by decide) rfl rfl ?_
    refine wg_iload (d156_27 L xs) rfl ?_
    refine wg_iald (d156_29 L xs) (n := 16) (by decide) rfl (vp_in_nI (n := k) (by omega) (by omega)) ?_
    refine wg_top (y := (nI q0.1)) (by rw [nI_nat (n := k) (by omega)]; exact hqM.1) ?_
    refine wg_iconst (d156_30 L xs) (x := 4) (by decide) ?_
    refine wn_icmp_ne (d156_31 L xs) (x := q0.1) (y := 4) (by omega) (by omega) (t := 73) (by decide) (fun h2 => ?_) (fun h2 => ?_)
    · refine wg_iconst (d156_73 L xs) (x := 0) (by decide) ?_
      refine wg_istore (d156_74 L xs) (ls' := [some (.ref 141), some (.ref q), some (.int (nI l.length)), some (.int (nI Lg)), some (.int (nI k)), some (.int (nI q0.2.1.length)), some (.int 0), c7]) (Nat.le_of_ble_eq_true rfl) rfl ?_
      refine wg_iconst (d156_76 L xs) (x := 0) (by decide) ?_
      refine wg_istore (d156_77 L xs) (ls' := [some (.ref 141), some (.ref q), some (.int (nI l.length)), some (.int (nI Lg)), some (.int (nI k)), some (.int (nI q0.2.1.length)), some (.int 0), some (.int 0)]) (Nat.le_of_ble_eq_true rfl) rfl ?_
      refine wg_iload (d156_79 L xs) rfl ?_
      refine wg_iload (d156_81 L xs) rfl ?_
      refine wn_icmp_ge (d156_83 L xs) (x := 0) (y := q0.2.1.length) (by omega) (by omega) (t := 129) (by decide) (fun h3 => ?_) (fun h3 => ?_)
      · refine wg_iload (d156_129 L xs) rfl ?_
        refine wg_if_eq (d156_131 L xs) (t := 145) (by decide) (fun _ => ?_) (fun hn => absurd (by decide) hn)
        refine wg_iload_n (d156_145 L xs) rfl ?_
        refine wg_istore_n (d156_146 L xs) (ls' := [some (.ref 141), some (.ref q), some (.int (nI l.length)), some (.int (nI Lg)), some (.int (nI k)), some (.int (nI q0.2.1.length)), some (.int 0), some (.int 0)]) (Nat.le_of_ble_eq_true rfl) rfl ?_
        refine wg_iinc (d156_147 L xs) (y := (nI (k + 1))) (ls' := [some (.ref 141), some (.ref q), some (.int (nI l.length)), some (.int (nI Lg)), some (.int (nI (k + 1))), some (.int (nI q0.2.1.length)), some (.int 0), some (.int 0)]) rfl (nI_add k 1) rfl ?_
        refine wg_goto (d156_150 L xs) (t := 5) (by decide) ?_
        first | (rw [if_neg (show ¬ q0.1 = 4 by omega)]; exact ih (k + 1) Lg _ _ _ hk2 (by omega) hL) | (rw [if_pos (show q0.1 = 4 by omega), sfx_no (fun z => by have z1 := z.1; have z3 := z.2.2; omega), Nat.min_eq_left (by omega)]; exact ih (k + 1) Lg _ _ _ hk2 (by omega) hL)
      · refine wg_iload (d156_86 L xs) rfl ?_
        refine wg_if_eq (d156_88 L xs) (t := 129) (by decide) (fun _ => ?_) (fun hn => absurd (by decide) hn)
        refine wg_iload (d156_129 L xs) rfl ?_
        refine wg_if_eq (d156_131 L xs) (t := 145) (by decide) (fun _ => ?_) (fun hn => absurd (by decide) hn)
        refine wg_iload_n (d156_145 L xs) rfl ?_
        refine wg_istore_n (d156_146 L xs) (ls' := [some (.ref 141), some (.ref q), some (.int (nI l.length)), some (.int (nI Lg)), some (.int (nI k)), some (.int (nI q0.2.1.length)), some (.int 0), some (.int 0)]) (Nat.le_of_ble_eq_true rfl) rfl ?_
        refine wg_iinc (d156_147 L xs) (y := (nI (k + 1))) (ls' := [some (.ref 141), some (.ref q), some (.int (nI l.length)), some (.int (nI Lg)), some (.int (nI (k + 1))), some (.int (nI q0.2.1.length)), some (.int 0), some (.int 0)]) rfl (nI_add k 1) rfl ?_
        refine wg_goto (d156_150 L xs) (t := 5) (by decide) ?_
        first | (rw [if_neg (show ¬ q0.1 = 4 by omega)]; exact ih (k + 1) Lg _ _ _ hk2 (by omega) hL) | (rw [if_pos (show q0.1 = 4 by omega), sfx_no (fun z => by have z1 := z.1; have z3 := z.2.2; omega), Nat.min_eq_left (by omega)]; exact ih (k + 1) Lg _ _ _ hk2 (by omega) hL)
    · refine wg_iload (d156_34 L xs) rfl ?_
      refine wg_iload_n (d156_36 L xs) rfl ?_
      refine wn_icmp_gt (d156_37 L xs) (x := q0.2.1.length) (y := l.length) (by omega) (by omega) (t := 73) (by decide) (fun h7 => ?_) (fun h7 => ?_)
      · refine wg_iconst (d156_73 L xs) (x := 0) (by decide) ?_
        refine wg_istore (d156_74 L xs) (ls' := [some (.ref 141), some (.ref q), some (.int (nI l.length)), some (.int (nI Lg)), some (.int (nI k)), some (.int (nI q0.2.1.length)), some (.int 0), c7]) (Nat.le_of_ble_eq_true rfl) rfl ?_
        refine wg_iconst (d156_76 L xs) (x := 0) (by decide) ?_
        refine wg_istore (d156_77 L xs) (ls' := [some (.ref 141), some (.ref q), some (.int (nI l.length)), some (.int (nI Lg)), some (.int (nI k)), some (.int (nI q0.2.1.length)), some (.int 0), some (.int 0)]) (Nat.le_of_ble_eq_true rfl) rfl ?_
        refine wg_iload (d156_79 L xs) rfl ?_
        refine wg_iload (d156_81 L xs) rfl ?_
        refine wn_icmp_ge (d156_83 L xs) (x := 0) (y := q0.2.1.length) (by omega) (by omega) (t := 129) (by decide) (fun h8 => ?_) (fun h8 => ?_)
        · refine wg_iload (d156_129 L xs) rfl ?_
          refine wg_if_eq (d156_131 L xs) (t := 145) (by decide) (fun _ => ?_) (fun hn => absurd (by decide) hn)
          refine wg_iload_n (d156_145 L xs) rfl ?_
          refine wg_istore_n (d156_146 L xs) (ls' := [some (.ref 141), some (.ref q), some (.int (nI l.length)), some (.int (nI Lg)), some (.int (nI k)), some (.int (nI q0.2.1.length)), some (.int 0), some (.int 0)]) (Nat.le_of_ble_eq_true rfl) rfl ?_
          refine wg_iinc (d156_147 L xs) (y := (nI (k + 1))) (ls' := [some (.ref 141), some (.ref q), some (.int (nI l.length)), some (.int (nI Lg)), some (.int (nI (k + 1))), some (.int (nI q0.2.1.length)), some (.int 0), some (.int 0)]) rfl (nI_add k 1) rfl ?_
          refine wg_goto (d156_150 L xs) (t := 5) (by decide) ?_
          first | (rw [if_neg (show ¬ q0.1 = 4 by omega)]; exact ih (k + 1) Lg _ _ _ hk2 (by omega) hL) | (rw [if_pos (show q0.1 = 4 by omega), sfx_no (fun z => by have z1 := z.1; have z3 := z.2.2; omega), Nat.min_eq_left (by omega)]; exact ih (k + 1) Lg _ _ _ hk2 (by omega) hL)
        · refine wg_iload (d156_86 L xs) rfl ?_
          refine wg_if_eq (d156_88 L xs) (t := 129) (by decide) (fun _ => ?_) (fun hn => absurd (by decide) hn)
          refine wg_iload (d156_129 L xs) rfl ?_
          refine wg_if_eq (d156_131 L xs) (t := 145) (by decide) (fun _ => ?_) (fun hn => absurd (by decide) hn)
          refine wg_iload_n (d156_145 L xs) rfl ?_
          refine wg_istore_n (d156_146 L xs) (ls' := [some (.ref 141), some (.ref q), some (.int (nI l.length)), some (.int (nI Lg)), some (.int (nI k)), some (.int (nI q0.2.1.length)), some (.int 0), some (.int 0)]) (Nat.le_of_ble_eq_true rfl) rfl ?_
          refine wg_iinc (d156_147 L xs) (y := (nI (k + 1))) (ls' := [some (.ref 141), some (.ref q), some (.int (nI l.length)), some (.int (nI Lg)), some (.int (nI (k + 1))), some (.int (nI q0.2.1.length)), some (.int 0), some (.int 0)]) rfl (nI_add k 1) rfl ?_
          refine wg_goto (d156_150 L xs) (t := 5) (by decide) ?_
          first | (rw [if_neg (show ¬ q0.1 = 4 by omega)]; exact ih (k + 1) Lg _ _ _ hk2 (by omega) hL) | (rw [if_pos (show q0.1 = 4 by omega), sfx_no (fun z => by have z1 := z.1; have z3 := z.2.2; omega), Nat.min_eq_left (by omega)]; exact ih (k + 1) Lg _ _ _ hk2 (by omega) hL)
      · refine wg_iload (d156_40 L xs) rfl ?_
        refine wg_iload_n (d156_42 L xs) rfl ?_
        refine wn_icmp_eq (d156_43 L xs) (x := q0.2.1.length) (y := l.length) (by omega) (by omega) (t := 69) (by decide) (fun h12 => ?_) (fun h12 => ?_)
        · refine wg_iconst (d156_69 L xs) (x := 1) (by decide) ?_
          refine wg_goto (d156_70 L xs) (t := 74) (by decide) ?_
          refine wg_istore (d156_74 L xs) (ls' := [some (.ref 141), some (.ref q), some (.int (nI l.length)), some (.int (nI Lg)), some (.int (nI k)), some (.int (nI q0.2.1.length)), some (.int 1), c7]) (Nat.le_of_ble_eq_true rfl) rfl ?_
          refine wg_iconst (d156_76 L xs) (x := 0) (by decide) ?_
          refine wg_istore (d156_77 L xs) (ls' := [some (.ref 141), some (.ref q), some (.int (nI l.length)), some (.int (nI Lg)), some (.int (nI k)), some (.int (nI q0.2.1.length)), some (.int 1), some (.int 0)]) (Nat.le_of_ble_eq_true rfl) rfl ?_
          have hso : l.length = q0.2.1.length ∨ gl l (l.length - q0.2.1.length - 1) = 46 := by omega
          rw [if_pos (show q0.1 = 4 by omega)]
          refine md_og_i (nm := q0.2.1) Hq hg hlN hN (by omega) hqM.2.2.2.2.1 (by omega) (by omega) q0.2.1.length 0 true (by omega) (fun c7 => ?_)
          rw [Bool.true_and, Nat.add_zero, ← same_sfx (by omega)]
          cases hs : t_same (gl l) (l.length - q0.2.1.length) l.length (gl q0.2.1) 0 q0.2.1.length with
          | false =>
            rw [sfx_no (fun z => by have := z.2.1; rw [hs] at this; cases this), Nat.min_eq_left (by omega)]
            refine wg_iload (d156_129 L xs) rfl ?_
            refine wg_if_eq (d156_131 L xs) (t := 145) (by decide) (fun _ => ?_) (fun hn => absurd (by decide) hn)
            refine wg_iload_n (d156_145 L xs) rfl ?_
            refine wg_istore_n (d156_146 L xs) (ls' := [some (.ref 141), some (.ref q), some (.int (nI l.length)), some (.int (nI Lg)), some (.int (nI k)), some (.int (nI q0.2.1.length)), some (.int 0), c7]) (Nat.le_of_ble_eq_true rfl) rfl ?_
            refine wg_iinc (d156_147 L xs) (y := (nI (k + 1))) (ls' := [some (.ref 141), some (.ref q), some (.int (nI l.length)), some (.int (nI Lg)), some (.int (nI (k + 1))), some (.int (nI q0.2.1.length)), some (.int 0), c7]) rfl (nI_add k 1) rfl ?_
            refine wg_goto (d156_150 L xs) (t := 5) (by decide) ?_
            exact ih (k + 1) Lg _ _ _ hk2 (by omega) hL
          | true =>
            rw [sfx_yes ⟨by omega, hs, hso⟩]
            refine wg_iload (d156_129 L xs) rfl ?_
            refine wg_if_eq (d156_131 L xs) (t := 145) (by decide) (fun hp => absurd hp (by decide)) (fun _ => ?_)
            refine wg_iload (d156_134 L xs) rfl ?_
            refine wg_iload_n (d156_136 L xs) rfl ?_
            refine wn_icmp_le (d156_137 L xs) (x := q0.2.1.length) (y := Lg) (by omega) (by omega) (t := 145) (by decide) (fun h42 => ?_) (fun h42 => ?_)
            · refine wg_iload_n (d156_145 L xs) rfl ?_
              refine wg_istore_n (d156_146 L xs) (ls' := [some (.ref 141), some (.ref q), some (.int (nI l.length)), some (.int (nI Lg)), some (.int (nI k)), some (.int (nI q0.2.1.length)), some (.int 1), c7]) (Nat.le_of_ble_eq_true rfl) rfl ?_
              refine wg_iinc (d156_147 L xs) (y := (nI (k + 1))) (ls' := [some (.ref 141), some (.ref q), some (.int (nI l.length)), some (.int (nI Lg)), some (.int (nI (k + 1))), some (.int (nI q0.2.1.length)), some (.int 1), c7]) rfl (nI_add k 1) rfl ?_
              refine wg_goto (d156_150 L xs) (t := 5) (by decide) ?_
              rw [show min (l.length - Lg) (l.length - q0.2.1.length) = l.length - Lg by omega]
              exact ih (k + 1) Lg _ _ _ hk2 (by omega) (by omega)
            · refine wg_iload (d156_140 L xs) rfl ?_
              refine wg_goto (d156_142 L xs) (t := 146) (by decide) ?_
              refine wg_istore_n (d156_146 L xs) (ls' := [some (.ref 141), some (.ref q), some (.int (nI l.length)), some (.int (nI q0.2.1.length)), some (.int (nI k)), some (.int (nI q0.2.1.length)), some (.int 1), c7]) (Nat.le_of_ble_eq_true rfl) rfl ?_
              refine wg_iinc (d156_147 L xs) (y := (nI (k + 1))) (ls' := [some (.ref 141), some (.ref q), some (.int (nI l.length)), some (.int (nI q0.2.1.length)), some (.int (nI (k + 1))), some (.int (nI q0.2.1.length)), some (.int 1), c7]) rfl (nI_add k 1) rfl ?_
              refine wg_goto (d156_150 L xs) (t := 5) (by decide) ?_
              rw [show min (l.length - Lg) (l.length - q0.2.1.length) = l.length - q0.2.1.length by omega]
              exact ih (k + 1) q0.2.1.length _ _ _ hk2 (by omega) (by omega)
        · refine wg_aload_n (d156_46 L xs) rfl ?_
          refine wg_iload (d156_47 L xs) rfl ?_
          refine wg_iload_n (d156_49 L xs) rfl ?_
          refine wn_icmp_ge (d156_50 L xs) (x := q0.2.1.length) (y := l.length) (by omega) (by omega) (t := 62) (by decide) (fun h13 => by omega) (fun h13 => ?_)
          refine wg_iload_n (d156_53 L xs) rfl ?_
          refine wg_iload (d156_54 L xs) rfl ?_
          refine wg_isub (d156_56 L xs) ?_
          refine wg_top (y := (nI (l.length - q0.2.1.length))) (pk_sub (a := l.length) (b := q0.2.1.length) (by omega)) ?_
          refine wg_iconst (d156_57 L xs) (x := 1) (by decide) ?_
          refine wg_isub (d156_58 L xs) ?_
          refine wg_top (y := (nI ((l.length - q0.2.1.length) - 1))) (pk_sub (a := l.length - q0.2.1.length) (b := 1) (by omega)) ?_
          refine wg_goto (d156_59 L xs) (t := 63) (by decide) ?_
          refine wg_iald (d156_63 L xs) Hq.1 (ar_d Hq) (vp_in_nI (n := (l.length - q0.2.1.length) - 1) (by omega) (by omega)) ?_
          refine wg_top (y := nI (gl l ((l.length - q0.2.1.length) - 1))) (by rw [nI_nat (by omega)]; exact (hg ((l.length - q0.2.1.length) - 1) (by omega)).1) ?_
          refine wg_bipush (d156_64 L xs) (x := 46) (by decide) ?_
          refine wn_icmp_ne (d156_66 L xs) (x := gl l ((l.length - q0.2.1.length) - 1)) (y := 46) (by omega) (by omega) (t := 73) (by decide) (fun h14 => ?_) (fun h14 => ?_)
          · refine wg_iconst (d156_73 L xs) (x := 0) (by decide) ?_
            refine wg_istore (d156_74 L xs) (ls' := [some (.ref 141), some (.ref q), some (.int (nI l.length)), some (.int (nI Lg)), some (.int (nI k)), some (.int (nI q0.2.1.length)), some (.int 0), c7]) (Nat.le_of_ble_eq_true rfl) rfl ?_
            refine wg_iconst (d156_76 L xs) (x := 0) (by decide) ?_
            refine wg_istore (d156_77 L xs) (ls' := [some (.ref 141), some (.ref q), some (.int (nI l.length)), some (.int (nI Lg)), some (.int (nI k)), some (.int (nI q0.2.1.length)), some (.int 0), some (.int 0)]) (Nat.le_of_ble_eq_true rfl) rfl ?_
            refine wg_iload (d156_79 L xs) rfl ?_
            refine wg_iload (d156_81 L xs) rfl ?_
            refine wn_icmp_ge (d156_83 L xs) (x := 0) (y := q0.2.1.length) (by omega) (by omega) (t := 129) (by decide) (fun h15 => ?_) (fun h15 => ?_)
            · refine wg_iload (d156_129 L xs) rfl ?_
              refine wg_if_eq (d156_131 L xs) (t := 145) (by decide) (fun _ => ?_) (fun hn => absurd (by decide) hn)
              refine wg_iload_n (d156_145 L xs) rfl ?_
              refine wg_istore_n (d156_146 L xs) (ls' := [some (.ref 141), some (.ref q), some (.int (nI l.length)), some (.int (nI Lg)), some (.int (nI k)), some (.int (nI q0.2.1.length)), some (.int 0), some (.int 0)]) (Nat.le_of_ble_eq_true rfl) rfl ?_
              refine wg_iinc (d156_147 L xs) (y := (nI (k + 1))) (ls' := [some (.ref 141), some (.ref q), some (.int (nI l.length)), some (.int (nI Lg)), some (.int (nI (k + 1))), some (.int (nI q0.2.1.length)), some (.int 0), some (.int 0)]) rfl (nI_add k 1) rfl ?_
              refine wg_goto (d156_150 L xs) (t := 5) (by decide) ?_
              first | (rw [if_neg (show ¬ q0.1 = 4 by omega)]; exact ih (k + 1) Lg _ _ _ hk2 (by omega) hL) | (rw [if_pos (show q0.1 = 4 by omega), sfx_no (fun z => by have z1 := z.1; have z3 := z.2.2; omega), Nat.min_eq_left (by omega)]; exact ih (k + 1) Lg _ _ _ hk2 (by omega) hL)
            · refine wg_iload (d156_86 L xs) rfl ?_
              refine wg_if_eq (d156_88 L xs) (t := 129) (by decide) (fun _ => ?_) (fun hn => absurd (by decide) hn)
              refine wg_iload (d156_129 L xs) rfl ?_
              refine wg_if_eq (d156_131 L xs) (t := 145) (by decide) (fun _ => ?_) (fun hn => absurd (by decide) hn)
              refine wg_iload_n (d156_145 L xs) rfl ?_
              refine wg_istore_n (d156_146 L xs) (ls' := [some (.ref 141), some (.ref q), some (.int (nI l.length)), some (.int (nI Lg)), some (.int (nI k)), some (.int (nI q0.2.1.length)), some (.int 0), some (.int 0)]) (Nat.le_of_ble_eq_true rfl) rfl ?_
              refine wg_iinc (d156_147 L xs) (y := (nI (k + 1))) (ls' := [some (.ref 141), some (.ref q), some (.int (nI l.length)), some (.int (nI Lg)), some (.int (nI (k + 1))), some (.int (nI q0.2.1.length)), some (.int 0), some (.int 0)]) rfl (nI_add k 1) rfl ?_
              refine wg_goto (d156_150 L xs) (t := 5) (by decide) ?_
              first | (rw [if_neg (show ¬ q0.1 = 4 by omega)]; exact ih (k + 1) Lg _ _ _ hk2 (by omega) hL) | (rw [if_pos (show q0.1 = 4 by omega), sfx_no (fun z => by have z1 := z.1; have z3 := z.2.2; omega), Nat.min_eq_left (by omega)]; exact ih (k + 1) Lg _ _ _ hk2 (by omega) hL)
          · refine wg_iconst (d156_69 L xs) (x := 1) (by decide) ?_
            refine wg_goto (d156_70 L xs) (t := 74) (by decide) ?_
            refine wg_istore (d156_74 L xs) (ls' := [some (.ref 141), some (.ref q), some (.int (nI l.length)), some (.int (nI Lg)), some (.int (nI k)), some (.int (nI q0.2.1.length)), some (.int 1), c7]) (Nat.le_of_ble_eq_true rfl) rfl ?_
            refine wg_iconst (d156_76 L xs) (x := 0) (by decide) ?_
            refine wg_istore (d156_77 L xs) (ls' := [some (.ref 141), some (.ref q), some (.int (nI l.length)), some (.int (nI Lg)), some (.int (nI k)), some (.int (nI q0.2.1.length)), some (.int 1), some (.int 0)]) (Nat.le_of_ble_eq_true rfl) rfl ?_
            have hso : l.length = q0.2.1.length ∨ gl l (l.length - q0.2.1.length - 1) = 46 := by omega
            rw [if_pos (show q0.1 = 4 by omega)]
            refine md_og_i (nm := q0.2.1) Hq hg hlN hN (by omega) hqM.2.2.2.2.1 (by omega) (by omega) q0.2.1.length 0 true (by omega) (fun c7 => ?_)
            rw [Bool.true_and, Nat.add_zero, ← same_sfx (by omega)]
            cases hs : t_same (gl l) (l.length - q0.2.1.length) l.length (gl q0.2.1) 0 q0.2.1.length with
            | false =>
              rw [sfx_no (fun z => by have := z.2.1; rw [hs] at this; cases this), Nat.min_eq_left (by omega)]
              refine wg_iload (d156_129 L xs) rfl ?_
              refine wg_if_eq (d156_131 L xs) (t := 145) (by decide) (fun _ => ?_) (fun hn => absurd (by decide) hn)
              refine wg_iload_n (d156_145 L xs) rfl ?_
              refine wg_istore_n (d156_146 L xs) (ls' := [some (.ref 141), some (.ref q), some (.int (nI l.length)), some (.int (nI Lg)), some (.int (nI k)), some (.int (nI q0.2.1.length)), some (.int 0), c7]) (Nat.le_of_ble_eq_true rfl) rfl ?_
              refine wg_iinc (d156_147 L xs) (y := (nI (k + 1))) (ls' := [some (.ref 141), some (.ref q), some (.int (nI l.length)), some (.int (nI Lg)), some (.int (nI (k + 1))), some (.int (nI q0.2.1.length)), some (.int 0), c7]) rfl (nI_add k 1) rfl ?_
              refine wg_goto (d156_150 L xs) (t := 5) (by decide) ?_
              exact ih (k + 1) Lg _ _ _ hk2 (by omega) hL
            | true =>
              rw [sfx_yes ⟨by omega, hs, hso⟩]
              refine wg_iload (d156_129 L xs) rfl ?_
              refine wg_if_eq (d156_131 L xs) (t := 145) (by decide) (fun hp => absurd hp (by decide)) (fun _ => ?_)
              refine wg_iload (d156_134 L xs) rfl ?_
              refine wg_iload_n (d156_136 L xs) rfl ?_
              refine wn_icmp_le (d156_137 L xs) (x := q0.2.1.length) (y := Lg) (by omega) (by omega) (t := 145) (by decide) (fun h42 => ?_) (fun h42 => ?_)
              · refine wg_iload_n (d156_145 L xs) rfl ?_
                refine wg_istore_n (d156_146 L xs) (ls' := [some (.ref 141), some (.ref q), some (.int (nI l.length)), some (.int (nI Lg)), some (.int (nI k)), some (.int (nI q0.2.1.length)), some (.int 1), c7]) (Nat.le_of_ble_eq_true rfl) rfl ?_
                refine wg_iinc (d156_147 L xs) (y := (nI (k + 1))) (ls' := [some (.ref 141), some (.ref q), some (.int (nI l.length)), some (.int (nI Lg)), some (.int (nI (k + 1))), some (.int (nI q0.2.1.length)), some (.int 1), c7]) rfl (nI_add k 1) rfl ?_
                refine wg_goto (d156_150 L xs) (t := 5) (by decide) ?_
                rw [show min (l.length - Lg) (l.length - q0.2.1.length) = l.length - Lg by omega]
                exact ih (k + 1) Lg _ _ _ hk2 (by omega) (by omega)
              · refine wg_iload (d156_140 L xs) rfl ?_
                refine wg_goto (d156_142 L xs) (t := 146) (by decide) ?_
                refine wg_istore_n (d156_146 L xs) (ls' := [some (.ref 141), some (.ref q), some (.int (nI l.length)), some (.int (nI q0.2.1.length)), some (.int (nI k)), some (.int (nI q0.2.1.length)), some (.int 1), c7]) (Nat.le_of_ble_eq_true rfl) rfl ?_
                refine wg_iinc (d156_147 L xs) (y := (nI (k + 1))) (ls' := [some (.ref 141), some (.ref q), some (.int (nI l.length)), some (.int (nI q0.2.1.length)), some (.int (nI (k + 1))), some (.int (nI q0.2.1.length)), some (.int 1), c7]) rfl (nI_add k 1) rfl ?_
                refine wg_goto (d156_150 L xs) (t := 5) (by decide) ?_
                rw [show min (l.length - Lg) (l.length - q0.2.1.length) = l.length - q0.2.1.length by omega]
                exact ih (k + 1) q0.2.1.length _ _ _ hk2 (by omega) (by omega)
theorem md_org (Hq : isA q N) (hg : ∀ k, k < l.length → s.2.1 q k = nI (gl l k) ∧ gl l k < 65536) (hlN : l.length ≤ N) (hN : N < 2 ^ 20) (hl1 : 1 ≤ l.length) (T : isTabM s R) : ca L xs (d + 1) 156 [.ref 141, .ref q, .int (nI l.length)] s (fun v s' => v = some (.int (nI (x_org R l))) ∧ s = s') := by
  refine wg_call (Nat.le_of_ble_eq_true rfl) ?_
  show wp L xs d 156 0 [some (.ref 141), some (.ref q), some (.int (nI l.length)), none, none, none, none, none] [] s _
  refine wg_iconst (d156_0 L xs) (x := 0) (by decide) ?_
  refine wg_istore_n (d156_1 L xs) (ls' := [some (.ref 141), some (.ref q), some (.int (nI l.length)), some (.int 0), none, none, none, none]) (Nat.le_of_ble_eq_true rfl) rfl ?_
  refine wg_iconst (d156_2 L xs) (x := 0) (by decide) ?_
  refine wg_istore (d156_3 L xs) (ls' := [some (.ref 141), some (.ref q), some (.int (nI l.length)), some (.int 0), some (.int 0), none, none, none]) (Nat.le_of_ble_eq_true rfl) rfl ?_
  have h := md_og_l (L := L) (xs := xs) (d := d) Hq hg hlN hN hl1 T R 0 0 none none none rfl (Nat.zero_le _) (Nat.zero_le _)
  rw [Nat.sub_zero] at h
  exact h
end KO
