/-! the reference: tags of a policy -/
theorem d159_0 (L : Nat) (xs : Nat → Int32) : decode (ax_code (mgT L xs) 159) 0 = .ok (.iload_n 2, 1) := by
  show decode prog_11_method_55_code 0 = _
  decide +kernel
theorem d159_1 (L : Nat) (xs : Nat → Int32) : decode (ax_code (mgT L xs) 159) 1 = .ok (.istore_n 3, 1) := by
  show decode prog_11_method_55_code 1 = _
  decide +kernel
theorem d159_2 (L : Nat) (xs : Nat → Int32) : decode (ax_code (mgT L xs) 159) 2 = .ok (.iload_n 3, 1) := by
  show decode prog_11_method_55_code 2 = _
  decide +kernel
theorem d159_3 (L : Nat) (xs : Nat → Int32) : decode (ax_code (mgT L xs) 159) 3 = .ok (.aload_n 0, 1) := by
  show decode prog_11_method_55_code 3 = _
  decide +kernel
theorem d159_4 (L : Nat) (xs : Nat → Int32) : decode (ax_code (mgT L xs) 159) 4 = .ok (.getfield 19, 3) := by
  show decode prog_11_method_55_code 4 = _
  decide +kernel
theorem d159_7 (L : Nat) (xs : Nat → Int32) : decode (ax_code (mgT L xs) 159) 7 = .ok (.iload_n 1, 1) := by
  show decode prog_11_method_55_code 7 = _
  decide +kernel
theorem d159_8 (L : Nat) (xs : Nat → Int32) : decode (ax_code (mgT L xs) 159) 8 = .ok (.iaload, 1) := by
  show decode prog_11_method_55_code 8 = _
  decide +kernel
theorem d159_9 (L : Nat) (xs : Nat → Int32) : decode (ax_code (mgT L xs) 159) 9 = .ok (.if_icmp .ge 20, 3) := by
  show decode prog_11_method_55_code 9 = _
  decide +kernel
theorem d159_12 (L : Nat) (xs : Nat → Int32) : decode (ax_code (mgT L xs) 159) 12 = .ok (.aload_n 0, 1) := by
  show decode prog_11_method_55_code 12 = _
  decide +kernel
theorem d159_13 (L : Nat) (xs : Nat → Int32) : decode (ax_code (mgT L xs) 159) 13 = .ok (.iload_n 1, 1) := by
  show decode prog_11_method_55_code 13 = _
  decide +kernel
theorem d159_14 (L : Nat) (xs : Nat → Int32) : decode (ax_code (mgT L xs) 159) 14 = .ok (.iload_n 3, 1) := by
  show decode prog_11_method_55_code 14 = _
  decide +kernel
theorem d159_15 (L : Nat) (xs : Nat → Int32) : decode (ax_code (mgT L xs) 159) 15 = .ok (.invokevirtual 166, 3) := by
  show decode prog_11_method_55_code 15 = _
  decide +kernel
theorem d159_18 (L : Nat) (xs : Nat → Int32) : decode (ax_code (mgT L xs) 159) 18 = .ok (.bipush 32, 2) := by
  show decode prog_11_method_55_code 18 = _
  decide +kernel
theorem d159_20 (L : Nat) (xs : Nat → Int32) : decode (ax_code (mgT L xs) 159) 20 = .ok (.if_icmp .ne 9, 3) := by
  show decode prog_11_method_55_code 20 = _
  decide +kernel
theorem d159_23 (L : Nat) (xs : Nat → Int32) : decode (ax_code (mgT L xs) 159) 23 = .ok (.iinc 3 1, 3) := by
  show decode prog_11_method_55_code 23 = _
  decide +kernel
theorem d159_26 (L : Nat) (xs : Nat → Int32) : decode (ax_code (mgT L xs) 159) 26 = .ok (.goto (-24), 3) := by
  show decode prog_11_method_55_code 26 = _
  decide +kernel
theorem d159_29 (L : Nat) (xs : Nat → Int32) : decode (ax_code (mgT L xs) 159) 29 = .ok (.iload_n 3, 1) := by
  show decode prog_11_method_55_code 29 = _
  decide +kernel
theorem d159_30 (L : Nat) (xs : Nat → Int32) : decode (ax_code (mgT L xs) 159) 30 = .ok (.ireturn, 1) := by
  show decode prog_11_method_55_code 30 = _
  decide +kernel
theorem d161_0 (L : Nat) (xs : Nat → Int32) : decode (ax_code (mgT L xs) 161) 0 = .ok (.iload_n 3, 1) := by
  show decode prog_11_method_53_code 0 = _
  decide +kernel
theorem d161_1 (L : Nat) (xs : Nat → Int32) : decode (ax_code (mgT L xs) 161) 1 = .ok (.iload_n 2, 1) := by
  show decode prog_11_method_53_code 1 = _
  decide +kernel
theorem d161_2 (L : Nat) (xs : Nat → Int32) : decode (ax_code (mgT L xs) 161) 2 = .ok (.isub, 1) := by
  show decode prog_11_method_53_code 2 = _
  decide +kernel
theorem d161_3 (L : Nat) (xs : Nat → Int32) : decode (ax_code (mgT L xs) 161) 3 = .ok (.istore 4, 2) := by
  show decode prog_11_method_53_code 3 = _
  decide +kernel
theorem d161_5 (L : Nat) (xs : Nat → Int32) : decode (ax_code (mgT L xs) 161) 5 = .ok (.iload 4, 2) := by
  show decode prog_11_method_53_code 5 = _
  decide +kernel
theorem d161_7 (L : Nat) (xs : Nat → Int32) : decode (ax_code (mgT L xs) 161) 7 = .ok (.iconst 4, 1) := by
  show decode prog_11_method_53_code 7 = _
  decide +kernel
theorem d161_8 (L : Nat) (xs : Nat → Int32) : decode (ax_code (mgT L xs) 161) 8 = .ok (.if_icmp .ne 35, 3) := by
  show decode prog_11_method_53_code 8 = _
  decide +kernel
theorem d161_11 (L : Nat) (xs : Nat → Int32) : decode (ax_code (mgT L xs) 161) 11 = .ok (.aload_n 0, 1) := by
  show decode prog_11_method_53_code 11 = _
  decide +kernel
theorem d161_12 (L : Nat) (xs : Nat → Int32) : decode (ax_code (mgT L xs) 161) 12 = .ok (.iload_n 1, 1) := by
  show decode prog_11_method_53_code 12 = _
  decide +kernel
theorem d161_13 (L : Nat) (xs : Nat → Int32) : decode (ax_code (mgT L xs) 161) 13 = .ok (.iload_n 2, 1) := by
  show decode prog_11_method_53_code 13 = _
  decide +kernel
theorem d161_14 (L : Nat) (xs : Nat → Int32) : decode (ax_code (mgT L xs) 161) 14 = .ok (.bipush 110, 2) := by
  show decode prog_11_method_53_code 14 = _
  decide +kernel
theorem d161_16 (L : Nat) (xs : Nat → Int32) : decode (ax_code (mgT L xs) 161) 16 = .ok (.bipush 111, 2) := by
  show decode prog_11_method_53_code 16 = _
  decide +kernel
theorem d161_18 (L : Nat) (xs : Nat → Int32) : decode (ax_code (mgT L xs) 161) 18 = .ok (.bipush 110, 2) := by
  show decode prog_11_method_53_code 18 = _
  decide +kernel
theorem d161_20 (L : Nat) (xs : Nat → Int32) : decode (ax_code (mgT L xs) 161) 20 = .ok (.invokevirtual 170, 3) := by
  show decode prog_11_method_53_code 20 = _
  decide +kernel
theorem d161_23 (L : Nat) (xs : Nat → Int32) : decode (ax_code (mgT L xs) 161) 23 = .ok (.ifCond .eq 20, 3) := by
  show decode prog_11_method_53_code 23 = _
  decide +kernel
theorem d161_26 (L : Nat) (xs : Nat → Int32) : decode (ax_code (mgT L xs) 161) 26 = .ok (.aload_n 0, 1) := by
  show decode prog_11_method_53_code 26 = _
  decide +kernel
theorem d161_27 (L : Nat) (xs : Nat → Int32) : decode (ax_code (mgT L xs) 161) 27 = .ok (.iload_n 1, 1) := by
  show decode prog_11_method_53_code 27 = _
  decide +kernel
theorem d161_28 (L : Nat) (xs : Nat → Int32) : decode (ax_code (mgT L xs) 161) 28 = .ok (.iload_n 2, 1) := by
  show decode prog_11_method_53_code 28 = _
  decide +kernel
theorem d161_29 (L : Nat) (xs : Nat → Int32) : decode (ax_code (mgT L xs) 161) 29 = .ok (.iconst 3, 1) := by
  show decode prog_11_method_53_code 29 = _
  decide +kernel
theorem d161_30 (L : Nat) (xs : Nat → Int32) : decode (ax_code (mgT L xs) 161) 30 = .ok (.iadd, 1) := by
  show decode prog_11_method_53_code 30 = _
  decide +kernel
theorem d161_31 (L : Nat) (xs : Nat → Int32) : decode (ax_code (mgT L xs) 161) 31 = .ok (.invokevirtual 166, 3) := by
  show decode prog_11_method_53_code 31 = _
  decide +kernel
theorem d161_34 (L : Nat) (xs : Nat → Int32) : decode (ax_code (mgT L xs) 161) 34 = .ok (.bipush 101, 2) := by
  show decode prog_11_method_53_code 34 = _
  decide +kernel
theorem d161_36 (L : Nat) (xs : Nat → Int32) : decode (ax_code (mgT L xs) 161) 36 = .ok (.if_icmp .ne 7, 3) := by
  show decode prog_11_method_53_code 36 = _
  decide +kernel
theorem d161_39 (L : Nat) (xs : Nat → Int32) : decode (ax_code (mgT L xs) 161) 39 = .ok (.iconst 1, 1) := by
  show decode prog_11_method_53_code 39 = _
  decide +kernel
theorem d161_40 (L : Nat) (xs : Nat → Int32) : decode (ax_code (mgT L xs) 161) 40 = .ok (.goto 4, 3) := by
  show decode prog_11_method_53_code 40 = _
  decide +kernel
theorem d161_43 (L : Nat) (xs : Nat → Int32) : decode (ax_code (mgT L xs) 161) 43 = .ok (.iconst 0, 1) := by
  show decode prog_11_method_53_code 43 = _
  decide +kernel
theorem d161_44 (L : Nat) (xs : Nat → Int32) : decode (ax_code (mgT L xs) 161) 44 = .ok (.istore 5, 2) := by
  show decode prog_11_method_53_code 44 = _
  decide +kernel
theorem d161_46 (L : Nat) (xs : Nat → Int32) : decode (ax_code (mgT L xs) 161) 46 = .ok (.iload 4, 2) := by
  show decode prog_11_method_53_code 46 = _
  decide +kernel
theorem d161_48 (L : Nat) (xs : Nat → Int32) : decode (ax_code (mgT L xs) 161) 48 = .ok (.bipush 10, 2) := by
  show decode prog_11_method_53_code 48 = _
  decide +kernel
theorem d161_50 (L : Nat) (xs : Nat → Int32) : decode (ax_code (mgT L xs) 161) 50 = .ok (.if_icmp .ne 71, 3) := by
  show decode prog_11_method_53_code 50 = _
  decide +kernel
theorem d161_53 (L : Nat) (xs : Nat → Int32) : decode (ax_code (mgT L xs) 161) 53 = .ok (.aload_n 0, 1) := by
  show decode prog_11_method_53_code 53 = _
  decide +kernel
theorem d161_54 (L : Nat) (xs : Nat → Int32) : decode (ax_code (mgT L xs) 161) 54 = .ok (.iload_n 1, 1) := by
  show decode prog_11_method_53_code 54 = _
  decide +kernel
theorem d161_55 (L : Nat) (xs : Nat → Int32) : decode (ax_code (mgT L xs) 161) 55 = .ok (.iload_n 2, 1) := by
  show decode prog_11_method_53_code 55 = _
  decide +kernel
theorem d161_56 (L : Nat) (xs : Nat → Int32) : decode (ax_code (mgT L xs) 161) 56 = .ok (.bipush 113, 2) := by
  show decode prog_11_method_53_code 56 = _
  decide +kernel
theorem d161_58 (L : Nat) (xs : Nat → Int32) : decode (ax_code (mgT L xs) 161) 58 = .ok (.bipush 117, 2) := by
  show decode prog_11_method_53_code 58 = _
  decide +kernel
theorem d161_60 (L : Nat) (xs : Nat → Int32) : decode (ax_code (mgT L xs) 161) 60 = .ok (.bipush 97, 2) := by
  show decode prog_11_method_53_code 60 = _
  decide +kernel
theorem d161_62 (L : Nat) (xs : Nat → Int32) : decode (ax_code (mgT L xs) 161) 62 = .ok (.invokevirtual 170, 3) := by
  show decode prog_11_method_53_code 62 = _
  decide +kernel
theorem d161_65 (L : Nat) (xs : Nat → Int32) : decode (ax_code (mgT L xs) 161) 65 = .ok (.ifCond .eq 56, 3) := by
  show decode prog_11_method_53_code 65 = _
  decide +kernel
theorem d161_68 (L : Nat) (xs : Nat → Int32) : decode (ax_code (mgT L xs) 161) 68 = .ok (.aload_n 0, 1) := by
  show decode prog_11_method_53_code 68 = _
  decide +kernel
theorem d161_69 (L : Nat) (xs : Nat → Int32) : decode (ax_code (mgT L xs) 161) 69 = .ok (.iload_n 1, 1) := by
  show decode prog_11_method_53_code 69 = _
  decide +kernel
theorem d161_70 (L : Nat) (xs : Nat → Int32) : decode (ax_code (mgT L xs) 161) 70 = .ok (.iload_n 2, 1) := by
  show decode prog_11_method_53_code 70 = _
  decide +kernel
theorem d161_71 (L : Nat) (xs : Nat → Int32) : decode (ax_code (mgT L xs) 161) 71 = .ok (.iconst 3, 1) := by
  show decode prog_11_method_53_code 71 = _
  decide +kernel
theorem d161_72 (L : Nat) (xs : Nat → Int32) : decode (ax_code (mgT L xs) 161) 72 = .ok (.iadd, 1) := by
  show decode prog_11_method_53_code 72 = _
  decide +kernel
theorem d161_73 (L : Nat) (xs : Nat → Int32) : decode (ax_code (mgT L xs) 161) 73 = .ok (.bipush 114, 2) := by
  show decode prog_11_method_53_code 73 = _
  decide +kernel
theorem d161_75 (L : Nat) (xs : Nat → Int32) : decode (ax_code (mgT L xs) 161) 75 = .ok (.bipush 97, 2) := by
  show decode prog_11_method_53_code 75 = _
  decide +kernel
theorem d161_77 (L : Nat) (xs : Nat → Int32) : decode (ax_code (mgT L xs) 161) 77 = .ok (.bipush 110, 2) := by
  show decode prog_11_method_53_code 77 = _
  decide +kernel
theorem d161_79 (L : Nat) (xs : Nat → Int32) : decode (ax_code (mgT L xs) 161) 79 = .ok (.invokevirtual 170, 3) := by
  show decode prog_11_method_53_code 79 = _
  decide +kernel
theorem d161_82 (L : Nat) (xs : Nat → Int32) : decode (ax_code (mgT L xs) 161) 82 = .ok (.ifCond .eq 39, 3) := by
  show decode prog_11_method_53_code 82 = _
  decide +kernel
theorem d161_85 (L : Nat) (xs : Nat → Int32) : decode (ax_code (mgT L xs) 161) 85 = .ok (.aload_n 0, 1) := by
  show decode prog_11_method_53_code 85 = _
  decide +kernel
theorem d161_86 (L : Nat) (xs : Nat → Int32) : decode (ax_code (mgT L xs) 161) 86 = .ok (.iload_n 1, 1) := by
  show decode prog_11_method_53_code 86 = _
  decide +kernel
theorem d161_87 (L : Nat) (xs : Nat → Int32) : decode (ax_code (mgT L xs) 161) 87 = .ok (.iload_n 2, 1) := by
  show decode prog_11_method_53_code 87 = _
  decide +kernel
theorem d161_88 (L : Nat) (xs : Nat → Int32) : decode (ax_code (mgT L xs) 161) 88 = .ok (.bipush 6, 2) := by
  show decode prog_11_method_53_code 88 = _
  decide +kernel
theorem d161_90 (L : Nat) (xs : Nat → Int32) : decode (ax_code (mgT L xs) 161) 90 = .ok (.iadd, 1) := by
  show decode prog_11_method_53_code 90 = _
  decide +kernel
theorem d161_91 (L : Nat) (xs : Nat → Int32) : decode (ax_code (mgT L xs) 161) 91 = .ok (.bipush 116, 2) := by
  show decode prog_11_method_53_code 91 = _
  decide +kernel
theorem d161_93 (L : Nat) (xs : Nat → Int32) : decode (ax_code (mgT L xs) 161) 93 = .ok (.bipush 105, 2) := by
  show decode prog_11_method_53_code 93 = _
  decide +kernel
theorem d161_95 (L : Nat) (xs : Nat → Int32) : decode (ax_code (mgT L xs) 161) 95 = .ok (.bipush 110, 2) := by
  show decode prog_11_method_53_code 95 = _
  decide +kernel
theorem d161_97 (L : Nat) (xs : Nat → Int32) : decode (ax_code (mgT L xs) 161) 97 = .ok (.invokevirtual 170, 3) := by
  show decode prog_11_method_53_code 97 = _
  decide +kernel
theorem d161_100 (L : Nat) (xs : Nat → Int32) : decode (ax_code (mgT L xs) 161) 100 = .ok (.ifCond .eq 21, 3) := by
  show decode prog_11_method_53_code 100 = _
  decide +kernel
theorem d161_103 (L : Nat) (xs : Nat → Int32) : decode (ax_code (mgT L xs) 161) 103 = .ok (.aload_n 0, 1) := by
  show decode prog_11_method_53_code 103 = _
  decide +kernel
theorem d161_104 (L : Nat) (xs : Nat → Int32) : decode (ax_code (mgT L xs) 161) 104 = .ok (.iload_n 1, 1) := by
  show decode prog_11_method_53_code 104 = _
  decide +kernel
theorem d161_105 (L : Nat) (xs : Nat → Int32) : decode (ax_code (mgT L xs) 161) 105 = .ok (.iload_n 2, 1) := by
  show decode prog_11_method_53_code 105 = _
  decide +kernel
theorem d161_106 (L : Nat) (xs : Nat → Int32) : decode (ax_code (mgT L xs) 161) 106 = .ok (.bipush 9, 2) := by
  show decode prog_11_method_53_code 106 = _
  decide +kernel
theorem d161_108 (L : Nat) (xs : Nat → Int32) : decode (ax_code (mgT L xs) 161) 108 = .ok (.iadd, 1) := by
  show decode prog_11_method_53_code 108 = _
  decide +kernel
theorem d161_109 (L : Nat) (xs : Nat → Int32) : decode (ax_code (mgT L xs) 161) 109 = .ok (.invokevirtual 166, 3) := by
  show decode prog_11_method_53_code 109 = _
  decide +kernel
theorem d161_112 (L : Nat) (xs : Nat → Int32) : decode (ax_code (mgT L xs) 161) 112 = .ok (.bipush 101, 2) := by
  show decode prog_11_method_53_code 112 = _
  decide +kernel
theorem d161_114 (L : Nat) (xs : Nat → Int32) : decode (ax_code (mgT L xs) 161) 114 = .ok (.if_icmp .ne 7, 3) := by
  show decode prog_11_method_53_code 114 = _
  decide +kernel
theorem d161_117 (L : Nat) (xs : Nat → Int32) : decode (ax_code (mgT L xs) 161) 117 = .ok (.iconst 1, 1) := by
  show decode prog_11_method_53_code 117 = _
  decide +kernel
theorem d161_118 (L : Nat) (xs : Nat → Int32) : decode (ax_code (mgT L xs) 161) 118 = .ok (.goto 4, 3) := by
  show decode prog_11_method_53_code 118 = _
  decide +kernel
theorem d161_121 (L : Nat) (xs : Nat → Int32) : decode (ax_code (mgT L xs) 161) 121 = .ok (.iconst 0, 1) := by
  show decode prog_11_method_53_code 121 = _
  decide +kernel
theorem d161_122 (L : Nat) (xs : Nat → Int32) : decode (ax_code (mgT L xs) 161) 122 = .ok (.istore 6, 2) := by
  show decode prog_11_method_53_code 122 = _
  decide +kernel
theorem d161_124 (L : Nat) (xs : Nat → Int32) : decode (ax_code (mgT L xs) 161) 124 = .ok (.iload 4, 2) := by
  show decode prog_11_method_53_code 124 = _
  decide +kernel
theorem d161_126 (L : Nat) (xs : Nat → Int32) : decode (ax_code (mgT L xs) 161) 126 = .ok (.bipush 6, 2) := by
  show decode prog_11_method_53_code 126 = _
  decide +kernel
theorem d161_128 (L : Nat) (xs : Nat → Int32) : decode (ax_code (mgT L xs) 161) 128 = .ok (.if_icmp .ne 39, 3) := by
  show decode prog_11_method_53_code 128 = _
  decide +kernel
theorem d161_131 (L : Nat) (xs : Nat → Int32) : decode (ax_code (mgT L xs) 161) 131 = .ok (.aload_n 0, 1) := by
  show decode prog_11_method_53_code 131 = _
  decide +kernel
theorem d161_132 (L : Nat) (xs : Nat → Int32) : decode (ax_code (mgT L xs) 161) 132 = .ok (.iload_n 1, 1) := by
  show decode prog_11_method_53_code 132 = _
  decide +kernel
theorem d161_133 (L : Nat) (xs : Nat → Int32) : decode (ax_code (mgT L xs) 161) 133 = .ok (.iload_n 2, 1) := by
  show decode prog_11_method_53_code 133 = _
  decide +kernel
theorem d161_134 (L : Nat) (xs : Nat → Int32) : decode (ax_code (mgT L xs) 161) 134 = .ok (.bipush 114, 2) := by
  show decode prog_11_method_53_code 134 = _
  decide +kernel
theorem d161_136 (L : Nat) (xs : Nat → Int32) : decode (ax_code (mgT L xs) 161) 136 = .ok (.bipush 101, 2) := by
  show decode prog_11_method_53_code 136 = _
  decide +kernel
theorem d161_138 (L : Nat) (xs : Nat → Int32) : decode (ax_code (mgT L xs) 161) 138 = .ok (.bipush 106, 2) := by
  show decode prog_11_method_53_code 138 = _
  decide +kernel
theorem d161_140 (L : Nat) (xs : Nat → Int32) : decode (ax_code (mgT L xs) 161) 140 = .ok (.invokevirtual 170, 3) := by
  show decode prog_11_method_53_code 140 = _
  decide +kernel
theorem d161_143 (L : Nat) (xs : Nat → Int32) : decode (ax_code (mgT L xs) 161) 143 = .ok (.ifCond .eq 24, 3) := by
  show decode prog_11_method_53_code 143 = _
  decide +kernel
theorem d161_146 (L : Nat) (xs : Nat → Int32) : decode (ax_code (mgT L xs) 161) 146 = .ok (.aload_n 0, 1) := by
  show decode prog_11_method_53_code 146 = _
  decide +kernel
theorem d161_147 (L : Nat) (xs : Nat → Int32) : decode (ax_code (mgT L xs) 161) 147 = .ok (.iload_n 1, 1) := by
  show decode prog_11_method_53_code 147 = _
  decide +kernel
theorem d161_148 (L : Nat) (xs : Nat → Int32) : decode (ax_code (mgT L xs) 161) 148 = .ok (.iload_n 2, 1) := by
  show decode prog_11_method_53_code 148 = _
  decide +kernel
theorem d161_149 (L : Nat) (xs : Nat → Int32) : decode (ax_code (mgT L xs) 161) 149 = .ok (.iconst 3, 1) := by
  show decode prog_11_method_53_code 149 = _
  decide +kernel
theorem d161_150 (L : Nat) (xs : Nat → Int32) : decode (ax_code (mgT L xs) 161) 150 = .ok (.iadd, 1) := by
  show decode prog_11_method_53_code 150 = _
  decide +kernel
theorem d161_151 (L : Nat) (xs : Nat → Int32) : decode (ax_code (mgT L xs) 161) 151 = .ok (.bipush 101, 2) := by
  show decode prog_11_method_53_code 151 = _
  decide +kernel
theorem d161_153 (L : Nat) (xs : Nat → Int32) : decode (ax_code (mgT L xs) 161) 153 = .ok (.bipush 99, 2) := by
  show decode prog_11_method_53_code 153 = _
  decide +kernel
theorem d161_155 (L : Nat) (xs : Nat → Int32) : decode (ax_code (mgT L xs) 161) 155 = .ok (.bipush 116, 2) := by
  show decode prog_11_method_53_code 155 = _
  decide +kernel
theorem d161_157 (L : Nat) (xs : Nat → Int32) : decode (ax_code (mgT L xs) 161) 157 = .ok (.invokevirtual 170, 3) := by
  show decode prog_11_method_53_code 157 = _
  decide +kernel
theorem d161_160 (L : Nat) (xs : Nat → Int32) : decode (ax_code (mgT L xs) 161) 160 = .ok (.ifCond .eq 7, 3) := by
  show decode prog_11_method_53_code 160 = _
  decide +kernel
theorem d161_163 (L : Nat) (xs : Nat → Int32) : decode (ax_code (mgT L xs) 161) 163 = .ok (.iconst 1, 1) := by
  show decode prog_11_method_53_code 163 = _
  decide +kernel
theorem d161_164 (L : Nat) (xs : Nat → Int32) : decode (ax_code (mgT L xs) 161) 164 = .ok (.goto 4, 3) := by
  show decode prog_11_method_53_code 164 = _
  decide +kernel
theorem d161_167 (L : Nat) (xs : Nat → Int32) : decode (ax_code (mgT L xs) 161) 167 = .ok (.iconst 0, 1) := by
  show decode prog_11_method_53_code 167 = _
  decide +kernel
theorem d161_168 (L : Nat) (xs : Nat → Int32) : decode (ax_code (mgT L xs) 161) 168 = .ok (.istore 7, 2) := by
  show decode prog_11_method_53_code 168 = _
  decide +kernel
theorem d161_170 (L : Nat) (xs : Nat → Int32) : decode (ax_code (mgT L xs) 161) 170 = .ok (.iload 5, 2) := by
  show decode prog_11_method_53_code 170 = _
  decide +kernel
theorem d161_172 (L : Nat) (xs : Nat → Int32) : decode (ax_code (mgT L xs) 161) 172 = .ok (.ifCond .eq 7, 3) := by
  show decode prog_11_method_53_code 172 = _
  decide +kernel
theorem d161_175 (L : Nat) (xs : Nat → Int32) : decode (ax_code (mgT L xs) 161) 175 = .ok (.iconst 1, 1) := by
  show decode prog_11_method_53_code 175 = _
  decide +kernel
theorem d161_176 (L : Nat) (xs : Nat → Int32) : decode (ax_code (mgT L xs) 161) 176 = .ok (.goto 22, 3) := by
  show decode prog_11_method_53_code 176 = _
  decide +kernel
theorem d161_179 (L : Nat) (xs : Nat → Int32) : decode (ax_code (mgT L xs) 161) 179 = .ok (.iload 6, 2) := by
  show decode prog_11_method_53_code 179 = _
  decide +kernel
theorem d161_181 (L : Nat) (xs : Nat → Int32) : decode (ax_code (mgT L xs) 161) 181 = .ok (.ifCond .eq 7, 3) := by
  show decode prog_11_method_53_code 181 = _
  decide +kernel
theorem d161_184 (L : Nat) (xs : Nat → Int32) : decode (ax_code (mgT L xs) 161) 184 = .ok (.iconst 2, 1) := by
  show decode prog_11_method_53_code 184 = _
  decide +kernel
theorem d161_185 (L : Nat) (xs : Nat → Int32) : decode (ax_code (mgT L xs) 161) 185 = .ok (.goto 13, 3) := by
  show decode prog_11_method_53_code 185 = _
  decide +kernel
theorem d161_188 (L : Nat) (xs : Nat → Int32) : decode (ax_code (mgT L xs) 161) 188 = .ok (.iload 7, 2) := by
  show decode prog_11_method_53_code 188 = _
  decide +kernel
theorem d161_190 (L : Nat) (xs : Nat → Int32) : decode (ax_code (mgT L xs) 161) 190 = .ok (.ifCond .eq 7, 3) := by
  show decode prog_11_method_53_code 190 = _
  decide +kernel
theorem d161_193 (L : Nat) (xs : Nat → Int32) : decode (ax_code (mgT L xs) 161) 193 = .ok (.iconst 3, 1) := by
  show decode prog_11_method_53_code 193 = _
  decide +kernel
theorem d161_194 (L : Nat) (xs : Nat → Int32) : decode (ax_code (mgT L xs) 161) 194 = .ok (.goto 4, 3) := by
  show decode prog_11_method_53_code 194 = _
  decide +kernel
theorem d161_197 (L : Nat) (xs : Nat → Int32) : decode (ax_code (mgT L xs) 161) 197 = .ok (.iconst (-1), 1) := by
  show decode prog_11_method_53_code 197 = _
  decide +kernel
theorem d161_198 (L : Nat) (xs : Nat → Int32) : decode (ax_code (mgT L xs) 161) 198 = .ok (.ireturn, 1) := by
  show decode prog_11_method_53_code 198 = _
  decide +kernel
theorem skip_s {g : Nat → Nat} {c : Nat} : ∀ (m i : Nat), i ≤ f_skip g c i m ∧ f_skip g c i m ≤ i + m ∧ (∀ j, i ≤ j → j < f_skip g c i m → g j = c) ∧ (f_skip g c i m < i + m → ¬ g (f_skip g c i m) = c) := by
  intro m
  induction m with
  | zero => intro i; exact ⟨Nat.le_refl _, Nat.le_refl _, fun j a b => absurd b (by show ¬ j < i; omega), fun h => absurd h (by show ¬ i < i + 0; omega)⟩
  | succ m ih =>
    intro i
    rw [f_skip]
    by_cases e : g i = c
    · rw [if_pos e]
      obtain ⟨a1, a2, a3, a4⟩ := ih (i + 1)
      refine ⟨by omega, by omega, fun j q1 q2 => ?_, fun h => a4 (by omega)⟩
      by_cases z : j = i
      · rw [z]; exact e
      · exact a3 j (by omega) q2
    · rw [if_neg e]
      exact ⟨Nat.le_refl _, by omega, fun j a b => absurd b (by omega), fun _ => e⟩
theorem skip_u {g : Nat → Nat} {c i m r : Nat} (h1 : i ≤ r) (h2 : r ≤ i + m) (h3 : ∀ j, i ≤ j → j < r → g j = c) (h4 : r = i + m ∨ ¬ g r = c) : f_skip g c i m = r := by
  obtain ⟨a1, a2, a3, a4⟩ := skip_s (g := g) (c := c) m i
  rcases Nat.lt_trichotomy (f_skip g c i m) r with q | q | q
  · exact absurd (h3 _ a1 q) (a4 (by omega))
  · exact q
  · rcases h4 with z | z
    · omega
    · exact absurd (a3 r h1 q) z
theorem let_s {g : Nat → Nat} : ∀ (m i : Nat), i ≤ f_let g i m ∧ f_let g i m ≤ i + m ∧ (∀ j, i ≤ j → j < f_let g i m → c_let (g j) = true) ∧ (f_let g i m < i + m → ¬ c_let (g (f_let g i m)) = true) := by
  intro m
  induction m with
  | zero => intro i; exact ⟨Nat.le_refl _, Nat.le_refl _, fun j a b => absurd b (by show ¬ j < i; omega), fun h => absurd h (by show ¬ i < i + 0; omega)⟩
  | succ m ih =>
    intro i
    rw [f_let]
    by_cases e : c_let (g i) = true
    · rw [if_pos e]
      obtain ⟨a1, a2, a3, a4⟩ := ih (i + 1)
      refine ⟨by omega, by omega, fun j q1 q2 => ?_, fun h => a4 (by omega)⟩
      by_cases z : j = i
      · rw [z]; exact e
      · exact a3 j (by omega) q2
    · rw [if_neg e]
      exact ⟨Nat.le_refl _, by omega, fun j a b => absurd b (by omega), fun _ => e⟩
theorem let_u {g : Nat → Nat} {i m r : Nat} (h1 : i ≤ r) (h2 : r ≤ i + m) (h3 : ∀ j, i ≤ j → j < r → c_let (g j) = true) (h4 : r = i + m ∨ ¬ c_let (g r) = true) : f_let g i m = r := by
  obtain ⟨a1, a2, a3, a4⟩ := let_s (g := g) m i
  rcases Nat.lt_trichotomy (f_let g i m) r with q | q | q
  · exact absurd (h3 _ a1 q) (a4 (by omega))
  · exact q
  · rcases h4 with z | z
    · omega
    · exact absurd (a3 r h1 q) z
theorem back_s {g : Nat → Nat} {fr : Nat} : ∀ (m : Nat), fr ≤ f_back g fr m ∧ f_back g fr m ≤ fr + m ∧ (∀ j, f_back g fr m ≤ j → j < fr + m → g j = 32) ∧ (fr < f_back g fr m → ¬ g (f_back g fr m - 1) = 32) := by
  intro m
  induction m with
  | zero => exact ⟨Nat.le_refl _, Nat.le_refl _, fun j a b => absurd b (by have : fr ≤ j := a; omega), fun h => absurd h (by show ¬ fr < fr; omega)⟩
  | succ m ih =>
    rw [f_back]
    obtain ⟨a1, a2, a3, a4⟩ := ih
    by_cases e : g (fr + m) = 32
    · rw [if_pos e]
      refine ⟨a1, by omega, fun j q1 q2 => ?_, a4⟩
      by_cases z : j = fr + m
      · rw [z]; exact e
      · exact a3 j q1 (by omega)
    · rw [if_neg e]
      exact ⟨by omega, by omega, fun j q1 q2 => absurd q2 (by omega), fun _ => by rw [Nat.add_sub_cancel]; exact e⟩
/-- the first blank or semicolon -/
def f_end (g : Nat → Nat) : Nat → Nat → Nat
  | i, 0 => i
  | i, m + 1 => if g i = 32 ∨ g i = 59 then i else f_end g (i + 1) m
theorem end_s {g : Nat → Nat} : ∀ (m i : Nat), i ≤ f_end g i m ∧ f_end g i m ≤ i + m ∧ (∀ j, i ≤ j → j < f_end g i m → ¬ (g j = 32 ∨ g j = 59)) ∧ (f_end g i m < i + m → (g (f_end g i m) = 32 ∨ g (f_end g i m) = 59)) := by
  intro m
  induction m with
  | zero => intro i; exact ⟨Nat.le_refl _, Nat.le_refl _, fun j a b => absurd b (by show ¬ j < i; omega), fun h => absurd h (by show ¬ i < i + 0; omega)⟩
  | succ m ih =>
    intro i
    rw [f_end]
    by_cases e : g i = 32 ∨ g i = 59
    · rw [if_pos e]
      exact ⟨Nat.le_refl _, by omega, fun j a b => absurd b (by omega), fun _ => e⟩
    · rw [if_neg e]
      obtain ⟨a1, a2, a3, a4⟩ := ih (i + 1)
      refine ⟨by omega, by omega, fun j q1 q2 => ?_, fun h => a4 (by omega)⟩
      by_cases z : j = i
      · rw [z]; exact e
      · exact a3 j (by omega) q2
theorem end_u {g : Nat → Nat} {i m r : Nat} (h1 : i ≤ r) (h2 : r ≤ i + m) (h3 : ∀ j, i ≤ j → j < r → ¬ (g j = 32 ∨ g j = 59)) (h4 : r = i + m ∨ g r = 32 ∨ g r = 59) : f_end g i m = r := by
  obtain ⟨a1, a2, a3, a4⟩ := end_s (g := g) m i
  rcases Nat.lt_trichotomy (f_end g i m) r with q | q | q
  · exact absurd (a4 (by omega)) (h3 _ a1 q)
  · exact q
  · rcases h4 with z | z
    · omega
    · exact absurd z (a3 r h1 q)
/-- one tag, from its first letter on -/
def r_pt (D : List Nat) (nx : Nat → plT → Bool × plT) (a e en : Nat) (P : plT) : Bool × plT :=
  if e = a ∨ ¬ gl D e = 61 ∨ en = e + 1 then (false, P) else if (f_tg1 (gl D) a en e P).1 = true then nx (f_skip (gl D) 32 en (D.length - en)) (f_tg1 (gl D) a en e P).2 else (false, P)
def p_e (D : List Nat) (a : Nat) : Nat := f_let (gl D) a (D.length - a)
def p_n (D : List Nat) (e : Nat) : Nat := f_end (gl D) (e + 1) (D.length - (e + 1))
def p_a (D : List Nat) (k : Nat) : Nat := f_skip (gl D) 32 (k + 1) (D.length - (k + 1))
/-- the reference's reading of a policy record from the semicolon at k on -/
def r_pl (D : List Nat) : Nat → Nat → plT → Bool × plT
  | 0, _, P => (decide (¬ P.1 = -1), P)
  | m + 1, k, P => if k < D.length then (if gl D k = 59 then
      (if p_a D k < D.length ∧ ¬ gl D (p_a D k) = 59 then r_pt D (r_pl D m) (p_a D k) (p_e D (p_a D k)) (p_n D (p_e D (p_a D k))) P
      else r_pl D m (p_a D k) P) else (false, P)) else (decide (¬ P.1 = -1), P)
theorem f_pol_skip {D : List Nat} : ∀ (q m st i : Nat) (P : plT), (∀ k, i ≤ k → k < i + q → ¬ gl D k = 59) → i + q ≤ D.length → f_pol D (q + m) st i P = f_pol D m st (i + q) P := by
  intro q
  induction q with
  | zero => intro m st i P _ _; rw [Nat.zero_add]; rfl
  | succ q ih =>
    intro m st i P h1 h2
    rw [show q + 1 + m = (q + m) + 1 by omega, f_pol, if_neg (fun z => z.elim (fun y => by omega) (h1 i (Nat.le_refl _) (by omega))), ih m st (i + 1) P (fun k a b => h1 k (by omega) (by omega)) (by omega), show i + 1 + q = i + (q + 1) by omega]
def b_eq (x y : Bool × plT) : Prop := x.1 = y.1 ∧ (x.1 = true → x.2 = y.2)
theorem let_no {x : Nat} (h : x = 32 ∨ x = 59 ∨ x = 0 ∨ x = 61) : ¬ c_let x = true := by
  rcases h with e | e | e | e <;> (subst e; decide)
theorem pl_en {D : List Nat} {e b i w : Nat} (hb : e + 1 ≤ b) (hbi : b ≤ i) (hiD : i ≤ D.length) (h59 : ∀ j, e + 1 ≤ j → j < i → ¬ gl D j = 59) (hgb : b = D.length ∨ gl D b = 32 ∨ gl D b = 59) (hw : f_find (gl D) 32 (e + 1) (b - (e + 1)) = w) : w ≤ b ∧ (w < b → p_n D e = w) ∧ (¬ w < b → p_n D e = b) := by
  obtain ⟨w1, w2, w3, w4⟩ := f_find_s (g := gl D) (c := 32) (b - (e + 1)) (e + 1)
  rw [hw] at w1 w2 w3 w4
  refine ⟨by omega, fun q => ?_, fun q => ?_⟩
  · exact end_u w1 (by omega) (fun j q1 q2 z => z.elim (w3 j q1 q2) (h59 j q1 (by omega))) (Or.inr (Or.inl (w4 (by omega))))
  · have : w = b := by omega
    rw [this] at w3
    refine end_u hb (by omega) (fun j q1 q2 z => z.elim (w3 j q1 q2) (h59 j q1 (by omega))) ?_
    rcases hgb with z | z
    · left; omega
    · exact Or.inr z
theorem pl_e {D : List Nat} {a b : Nat} (hab : a ≤ b) (hbD : b ≤ D.length) (hgb : b = D.length ∨ gl D b = 32 ∨ gl D b = 59) : f_let (gl D) a (b - a) = p_e D a := by
  obtain ⟨e1, e2, e3, e4⟩ := let_s (g := gl D) (b - a) a
  symm
  refine let_u e1 (by omega) e3 ?_
  rcases Nat.lt_or_ge (f_let (gl D) a (b - a)) b with q | q
  · exact Or.inr (e4 (by omega))
  · have e5 : f_let (gl D) a (b - a) = b := by omega
    rw [e5]
    rcases hgb with z | z | z
    · left; omega
    · right; rw [z]; decide
    · right; rw [z]; decide
theorem pt_eq {D : List Nat} {nx : Nat → plT → Bool × plT} {G : plT → Bool × plT} {a b i : Nat} {P : plT} (hab : a < b) (hbi : b ≤ i) (hiD : i ≤ D.length) (h59 : ∀ j, a ≤ j → j < i → ¬ gl D j = 59) (hgb : b = D.length ∨ gl D b = 32 ∨ gl D b = 59) (hb1 : ¬ gl D (b - 1) = 32) (hbl : ∀ j, b ≤ j → j < i → gl D j = 32) (hgi : ¬ gl D i = 32) (hx1 : ∀ P', b_eq (nx i P') (G P')) (hx2 : ∀ k' P', a ≤ k' → k' < i → (nx k' P').1 = false) : b_eq (r_pt D nx a (p_e D a) (p_n D (p_e D a)) P) (if (f_tag (gl D) a b P).1 = true then G (f_tag (gl D) a b P).2 else (false, (f_tag (gl D) a b P).2)) := by
  have hF : ∀ (x y : plT), b_eq (false, x) (false, y) := fun x y => ⟨rfl, fun z => absurd z (by show ¬ false = true; decide)⟩
  unfold f_tag
  rw [pl_e (by omega) (by omega) hgb]
  obtain ⟨e1, e2, e3, e4⟩ := let_s (g := gl D) (b - a) a
  rw [pl_e (by omega) (by omega) hgb] at e1 e2 e3 e4
  generalize p_e D a = e at *
  unfold r_pt f_tg
  by_cases d1 : e = a
  · rw [if_pos (Or.inl d1), if_pos (Or.inl d1), if_neg (show ¬ (false, P).1 = true by show ¬ false = true; decide)]
    exact hF _ _
  · by_cases d2 : gl D e = 61
    · have heb : e < b := by
        rcases Nat.lt_or_ge e b with q | q
        · exact q
        · exfalso
          have e5 : e = b := by omega
          rw [e5] at d2
          rcases hgb with z | z | z
          · rw [gl_out (by omega)] at d2; exact absurd d2 (by decide)
          · rw [z] at d2; exact absurd d2 (by decide)
          · rw [z] at d2; exact absurd d2 (by decide)
      obtain ⟨w0, wA, wB⟩ := pl_en (D := D) (e := e) (b := b) (i := i) (w := f_find (gl D) 32 (e + 1) (b - (e + 1))) (by omega) hbi hiD (fun j q1 q2 => h59 j (by omega) q2) hgb rfl
      obtain ⟨w1, w2, w3, w4⟩ := f_find_s (g := gl D) (c := 32) (b - (e + 1)) (e + 1)
      generalize f_find (gl D) 32 (e + 1) (b - (e + 1)) = w at *
      generalize p_n D e = en at *
      clear hgb e4
      by_cases d4 : w < b
      · have hew := wA d4
        subst hew
        rw [if_pos (show e = a ∨ ¬ gl D e = 61 ∨ b ≤ e + 1 ∨ en < b from Or.inr (Or.inr (Or.inr d4))), if_neg (show ¬ (false, P).1 = true by show ¬ false = true; decide)]
        by_cases d3 : en = e + 1
        · rw [if_pos (Or.inr (Or.inr d3))]; exact hF _ _
        · rw [if_neg (show ¬ (e = a ∨ ¬ gl D e = 61 ∨ en = e + 1) from fun z => z.elim d1 (fun z => z.elim (fun y => y d2) d3))]
          by_cases d5 : (f_tg1 (gl D) a en e P).1 = true
          · rw [if_pos d5]
            obtain ⟨k1, k2, k3, k4⟩ := skip_s (g := gl D) (c := 32) (D.length - en) en
            generalize f_skip (gl D) 32 en (D.length - en) = k' at *
            have hkb : k' ≤ b - 1 := by
              rcases Nat.lt_or_ge (b - 1) k' with y | y
              · exact absurd (k3 (b - 1) (by omega) y) hb1
              · exact y
            have h2 := hx2 k' (f_tg1 (gl D) a en e P).2 (by omega) (by omega)
            exact ⟨h2, fun z => absurd z (by rw [h2]; decide)⟩
          · rw [if_neg d5]; exact hF _ _
      · have hen := wB d4
        subst hen
        by_cases d3 : en = e + 1
        · rw [if_pos (Or.inr (Or.inr d3)), if_pos (show e = a ∨ ¬ gl D e = 61 ∨ en ≤ e + 1 ∨ w < en from Or.inr (Or.inr (Or.inl (by omega)))), if_neg (show ¬ (false, P).1 = true by show ¬ false = true; decide)]
          exact hF _ _
        · rw [if_neg (show ¬ (e = a ∨ ¬ gl D e = 61 ∨ en = e + 1) from fun z => z.elim d1 (fun z => z.elim (fun y => y d2) d3)), if_neg (show ¬ (e = a ∨ ¬ gl D e = 61 ∨ en ≤ e + 1 ∨ w < en) from fun z => z.elim d1 (fun z => z.elim (fun y => y d2) (fun z => z.elim (fun y => d3 (by omega)) d4)))]
          have hkb : f_skip (gl D) 32 en (D.length - en) = i := skip_u (by omega) (by omega) (fun j q1 q2 => hbl j q1 q2) (Or.inr hgi)
          rw [hkb]
          by_cases d5 : (f_tg1 (gl D) a en e P).1 = true
          · rw [if_pos d5, if_pos d5]; exact hx1 _
          · rw [if_neg d5, if_neg d5]; exact hF _ _
    · rw [if_pos (Or.inr (Or.inl d2)), if_pos (Or.inr (Or.inl d2)), if_neg (show ¬ (false, P).1 = true by show ¬ false = true; decide)]
      exact hF _ _
theorem r_pl_no {D : List Nat} {m k : Nat} {P : plT} (hm : 1 ≤ m) (hk : k < D.length) (h : ¬ gl D k = 59) : (r_pl D m k P).1 = false := by
  cases m with
  | zero => omega
  | succ m => rw [r_pl, if_pos hk, if_neg h]
theorem r_pl_eq {D : List Nat} : ∀ (m k : Nat) (P : plT), D.length ≤ k + m → k ≤ D.length → (k = D.length ∨ gl D k = 59) → b_eq (r_pl D m k P) (f_pol D (D.length - k) (k + 1) (k + 1) P) := by
  intro m
  induction m with
  | zero =>
    intro k P h1 h2 h3
    rw [show D.length - k = 0 by omega, r_pl, f_pol]
    exact ⟨rfl, fun _ => rfl⟩
  | succ m ih =>
    intro k P h1 h2 h3
    rw [r_pl]
    by_cases c1 : k < D.length
    · have h59 := h3.resolve_left (by omega)
      clear h3
      rw [if_pos c1, if_pos h59]
      obtain ⟨s1, s2, s3, s4⟩ := f_find_s (g := gl D) (c := 59) (D.length - (k + 1)) (k + 1)
      generalize hi : f_find (gl D) 59 (k + 1) (D.length - (k + 1)) = i at s1 s2 s3 s4
      clear hi
      have hiD : i ≤ D.length := by omega
      have hi59 : i = D.length ∨ gl D i = 59 := by
        rcases Nat.lt_or_ge i D.length with q | q
        · exact Or.inr (s4 (by omega))
        · left; omega
      have hgi : ¬ gl D i = 32 := by
        rcases hi59 with z | z
        · rw [z, gl_out (Nat.le_refl _)]; decide
        · rw [z]; decide
      have hIH := fun P' => ih i P' (by omega) hiD hi59
      rw [show D.length - k = (i - (k + 1)) + ((D.length - i) + 1) by omega, f_pol_skip _ _ _ _ _ (fun j a b => s3 j a (by omega)) (by omega), show k + 1 + (i - (k + 1)) = i by omega, f_pol, if_pos hi59]
      obtain ⟨a1, a2, a3, a4⟩ := skip_s (g := gl D) (c := 32) (i - (k + 1)) (k + 1)
      have haD : p_a D k = f_skip (gl D) 32 (k + 1) (i - (k + 1)) := skip_u a1 (by omega) a3 (by
        rcases Nat.lt_or_ge (f_skip (gl D) 32 (k + 1) (i - (k + 1))) i with q | q
        · exact Or.inr (a4 (by omega))
        · have e5 : f_skip (gl D) 32 (k + 1) (i - (k + 1)) = i := by omega
          rw [e5]; exact Or.inr hgi)
      rw [haD]
      generalize f_skip (gl D) 32 (k + 1) (i - (k + 1)) = a at *
      obtain ⟨b1, b2, b3, b4⟩ := back_s (g := gl D) (fr := a) (i - a)
      generalize f_back (gl D) a (i - a) = b at *
      by_cases c2 : a < i
      · have hga : ¬ gl D a = 32 := a4 (by omega)
        have hga2 : ¬ gl D a = 59 := s3 a (by omega) (by omega)
        have hab : a < b := by
          rcases Nat.lt_or_ge a b with q | q
          · exact q
          · exact absurd (b3 a (by omega) (by omega)) hga
        rw [if_pos ⟨by omega, hga2⟩, if_pos hab]
        refine pt_eq (i := i) hab (by omega) hiD (fun j q1 q2 => s3 j (by omega) q2) ?_ (b4 hab) (fun j q1 q2 => b3 j q1 (by omega)) hgi hIH (fun k' P' q1 q2 => r_pl_no (by omega) (by omega) (s3 k' (by omega) q2))
        rcases Nat.lt_or_ge b i with q | q
        · exact Or.inr (Or.inl (b3 b (Nat.le_refl _) (by omega)))
        · have e5 : b = i := by omega
          rw [e5]
          rcases hi59 with z | z
          · exact Or.inl z
          · exact Or.inr (Or.inr z)
      · have hai : a = i := by omega
        rw [if_neg (fun z => by
          rcases hi59 with y | y
          · omega
          · exact z.2 (hai ▸ y)), if_neg (by omega), hai]
        exact hIH P
    · rw [if_neg c1, show D.length - k = 0 by omega, f_pol]
      exact ⟨rfl, fun _ => rfl⟩
theorem wd_ga {D : List Nat} {fr to : Nat} {w : List Nat} (h : to ≤ D.length) : t_word (gl D) fr to w = t_word (ga D) fr to w := by
  have key : ∀ (a b : Nat → Nat), (∀ k, k < to → a k = b k) → t_word a fr to w = true → t_word b fr to w = true := fun a b hab h1 => by
    have h2 := t_word_iff.mp h1
    exact t_word_iff.mpr ⟨h2.1, fun k hk => by rw [← hab (fr + k) (by omega)]; exact h2.2 k hk⟩
  cases h1 : t_word (gl D) fr to w with
  | true => exact (key (gl D) (ga D) (fun k hk => (ga_in (by omega)).symm) h1).symm
  | false =>
    cases h2 : t_word (ga D) fr to w with
    | false => rfl
    | true => rw [key (ga D) (gl D) (fun k hk => ga_in (by omega)) h2] at h1; cases h1
def aJ (o : Option Nat) : Int32 := match o with
  | none => -1
  | some x => nI (x - 1)
/-- the fields of a policy in the reference, as the class keeps them -/
def pM (x : Int32) : Int32 := if x = -1 then 0 else x - 1
def isPM (s : mg_s) (P : plT) : Prop := s.1 141 43 = pM P.1 ∧ s.1 141 44 = pM P.2.1 ∧ s.1 141 45 = P.2.2.1 ∧ s.1 141 46 = P.2.2.2
def okP (P : plT) : Prop := (P.1 = -1 ∨ P.1 = 2 ∨ P.1 = 3 ∨ P.1 = 4) ∧ (P.2.1 = -1 ∨ P.2.1 = 2 ∨ P.2.1 = 3 ∨ P.2.1 = 4) ∧ (P.2.2.1 = -1 ∨ P.2.2.1 = 0 ∨ P.2.2.1 = 1) ∧ (P.2.2.2 = -1 ∨ ∃ v, v ≤ 100 ∧ P.2.2.2 = nI v)
theorem act_v {g : Nat → Nat} {i j : Nat} : t_act g i j = none ∨ t_act g i j = some 2 ∨ t_act g i j = some 3 ∨ t_act g i j = some 4 := by
  unfold t_act
  split
  · exact Or.inr (Or.inl rfl)
  · split
    · exact Or.inr (Or.inr (Or.inl rfl))
    · split
      · exact Or.inr (Or.inr (Or.inr rfl))
      · exact Or.inl rfl
theorem tg_4 {g : Nat → Nat} {fr to e : Nat} {P : plT} (h : ¬ t_word g fr e w_pct = true) : f_tg4 g fr to e P = (true, P) := by unfold f_tg4; rw [if_neg (fun z => h z.2)]
theorem tg_3 {g : Nat → Nat} {fr to e : Nat} {P : plT} (h3 : ¬ t_word g fr e w_aspf = true) (h : ¬ t_word g fr e w_pct = true) : f_tg3 g fr to e P = (true, P) := by unfold f_tg3; rw [if_neg (fun z => h3 z.2), tg_4 h]
theorem tg_2 {g : Nat → Nat} {fr to e : Nat} {P : plT} (h2 : ¬ t_word g fr e w_sp = true) (h3 : ¬ t_word g fr e w_aspf = true) (h : ¬ t_word g fr e w_pct = true) : f_tg2 g fr to e P = (true, P) := by unfold f_tg2; rw [if_neg (fun z => h2 z.2), tg_3 h3 h]
theorem wd_len {g : Nat → Nat} {fr e : Nat} {w : List Nat} (h : ¬ e - fr = w.length) : ¬ t_word g fr e w = true := fun z => h (t_word_iff.mp z).1
section KY
variable {L : Nat} {xs : Nat → Int32} {d r c : Nat} {D : List Nat} {P : plT} {s : mg_s} {Q : Option Value → mg_s → Prop}
theorem md_bl_l {k0 : Nat} (hR : isRec s r c D) : ∀ (m i : Nat), i + m = D.length → wp L xs (d + 1) 159 2 [some (.ref 141), some (.int (nI r)), some (.int (nI k0)), some (.int (nI (c + i)))] [] s (fun v s' => v = some (.int (nI (c + f_skip (gl D) 32 i m))) ∧ s = s') := by
  have hr16 := hR.1
  have hc1 := hR.2.1
  have hcl := hR.2.2.1
  intro m
  induction m with
  | zero =>
    intro i hi
    refine wg_iload_n (d159_2 L xs) rfl ?_
    refine wg_aload_n (d159_3 L xs) rfl ?_
    refine wg_get (d159_4 L xs) (kd := 1) (cj := 9) (k0 := 6) rfl (Or.inl rfl) (by decide) rfl rfl ?_
    refine wg_iload_n (d159_7 L xs) rfl ?_
    refine wg_iald (d159_8 L xs) (n := 16) (by decide) rfl (vp_in_nI (n := r) (by omega) (by omega)) ?_
    refine wg_top (y := (nI (c + D.length))) (by rw [nI_nat (n := r) (by omega)]; exact hR.2.2.2.2.2.1) ?_
    refine wn_icmp_ge (d159_9 L xs) (x := c + i) (y := c + D.length) (by omega) (by omega) (t := 29) (by decide) (fun h1 => ?_) (fun h1 => by omega)
    refine wg_iload_n (d159_29 L xs) rfl ?_
    exact wg_iret (d159_30 L xs) rfl rfl ⟨rfl, rfl⟩
  | succ m ih =>
    intro i hi
    have hg := rec_gl hR i
    have hga := ga_in (D := D) (i := i) (by omega)
    rw [f_skip]
    refine wg_iload_n (d159_2 L xs) rfl ?_
    refine wg_aload_n (d159_3 L xs) rfl ?_
    refine wg_get (d159_4 L xs) (kd := 1) (cj := 9) (k0 := 6) rfl (Or.inl rfl) (by decide) rfl rfl ?_
    refine wg_iload_n (d159_7 L xs) rfl ?_
    refine wg_iald (d159_8 L xs) (n := 16) (by decide) rfl (vp_in_nI (n := r) (by omega) (by omega)) ?_
    refine wg_top (y := (nI (c + D.length))) (by rw [nI_nat (n := r) (by omega)]; exact hR.2.2.2.2.2.1) ?_
    refine wn_icmp_ge (d159_9 L xs) (x := c + i) (y := c + D.length) (by omega) (by omega) (t := 29) (by decide) (fun h1 => by omega) (fun h1 => ?_)
    refine wg_aload_n (d159_12 L xs) rfl ?_
    refine wg_iload_n (d159_13 L xs) rfl ?_
    refine wg_iload_n (d159_14 L xs) rfl ?_
    refine wg_invv (d159_15 L xs) (kd := 7) (mj := 125) (n := 2) rfl (Or.inl rfl) (ys := [.int (nI (c + i)), .int (nI r)]) (r := []) rfl rfl (by decide) rfl rfl (Nat.le_of_ble_eq_true rfl) (md_at (i := i) hR (by omega) (by omega)) ?_
    rintro _ _ ⟨rfl, rfl⟩
    refine wg_bipush (d159_18 L xs) (x := 32) (by decide) ?_
    refine wn_icmp_ne (d159_20 L xs) (x := ga D i) (y := 32) (by omega) (by omega) (t := 29) (by decide) (fun h2 => ?_) (fun h2 => ?_)
    · refine wg_iload_n (d159_29 L xs) rfl ?_
      exact wg_iret (d159_30 L xs) rfl rfl ⟨by rw [if_neg (by omega)], rfl⟩
    · refine wg_iinc (d159_23 L xs) (y := (nI (c + i + 1))) (ls' := [some (.ref 141), some (.int (nI r)), some (.int (nI k0)), some (.int (nI (c + i + 1)))]) rfl (nI_add (c + i) 1) rfl ?_
      refine wg_goto (d159_26 L xs) (t := 2) (by decide) ?_
      rw [if_pos (by omega)]
      exact ih (i + 1) (by omega)
theorem md_blanks {i : Nat} (hR : isRec s r c D) (hi : i ≤ D.length) : ca L xs (d + 2) 159 [.ref 141, .int (nI r), .int (nI (c + i))] s (fun v s' => v = some (.int (nI (c + f_skip (gl D) 32 i (D.length - i)))) ∧ s = s') := by
  refine wg_call (Nat.le_of_ble_eq_true rfl) ?_
  show wp L xs (d + 1) 159 0 [some (.ref 141), some (.int (nI r)), some (.int (nI (c + i))), none] [] s _
  refine wg_iload_n (d159_0 L xs) rfl ?_
  refine wg_istore_n (d159_1 L xs) (ls' := [some (.ref 141), some (.int (nI r)), some (.int (nI (c + i))), some (.int (nI (c + i)))]) (Nat.le_of_ble_eq_true rfl) rfl ?_
  exact md_bl_l hR (D.length - i) i (by omega)
theorem md_ac3 {i j n4 : Nat} {b1 b2 b3 : Bool} : wp L xs (d + 2) 161 170 [some (.ref 141), some (.int (nI r)), some (.int (nI (c + i))), some (.int (nI (c + j))), some (.int (nI n4)), some (.int (nI (bI b1))), some (.int (nI (bI b2))), some (.int (nI (bI b3)))] [] s (fun v s' => v = some (.int (if b1 = true then 1 else if b2 = true then 2 else if b3 = true then 3 else -1)) ∧ s = s') := by
  have h1 := bI_lt b1
  have h2 := bI_lt b2
  have h3 := bI_lt b3
  refine wg_iload (d161_170 L xs) rfl ?_
  refine wn_if_eq (d161_172 L xs) (x := bI b1) (by omega) (t := 179) (by decide) (fun g1 => ?_) (fun g1 => ?_)
  · refine wg_iload (d161_179 L xs) rfl ?_
    refine wn_if_eq (d161_181 L xs) (x := bI b2) (by omega) (t := 188) (by decide) (fun g2 => ?_) (fun g2 => ?_)
    · refine wg_iload (d161_188 L xs) rfl ?_
      refine wn_if_eq (d161_190 L xs) (x := bI b3) (by omega) (t := 197) (by decide) (fun g3 => ?_) (fun g3 => ?_)
      · refine wg_iconst (d161_197 L xs) (x := (-1)) (by decide) ?_
        exact wg_iret (d161_198 L xs) rfl rfl ⟨by rw [if_neg (by rw [bI_f (b := b1) (by omega)]; decide), if_neg (by rw [bI_f (b := b2) (by omega)]; decide), if_neg (by rw [bI_f (b := b3) (by omega)]; decide)], rfl⟩
      · refine wg_iconst (d161_193 L xs) (x := 3) (by decide) ?_
        refine wg_goto (d161_194 L xs) (t := 198) (by decide) ?_
        exact wg_iret (d161_198 L xs) rfl rfl ⟨by rw [if_neg (by rw [bI_f (b := b1) (by omega)]; decide), if_neg (by rw [bI_f (b := b2) (by omega)]; decide), if_pos (bI_t (b := b3) (by omega))], rfl⟩
    · refine wg_iconst (d161_184 L xs) (x := 2) (by decide) ?_
      refine wg_goto (d161_185 L xs) (t := 198) (by decide) ?_
      exact wg_iret (d161_198 L xs) rfl rfl ⟨by rw [if_neg (by rw [bI_f (b := b1) (by omega)]; decide), if_pos (bI_t (b := b2) (by omega))], rfl⟩
  · refine wg_iconst (d161_175 L xs) (x := 1) (by decide) ?_
    refine wg_goto (d161_176 L xs) (t := 198) (by decide) ?_
    exact wg_iret (d161_198 L xs) rfl rfl ⟨by rw [if_pos (bI_t (b := b1) (by omega))], rfl⟩
theorem md_ac2 {i j : Nat} {b1 b2 : Bool} {c7 : Option Value} (hR : isRec s r c D) (hj : j ≤ D.length) (hi : i ≤ j) : wp L xs (d + 2) 161 124 [some (.ref 141), some (.int (nI r)), some (.int (nI (c + i))), some (.int (nI (c + j))), some (.int (nI (j - i))), some (.int (nI (bI b1))), some (.int (nI (bI b2))), c7] [] s (fun v s' => v = some (.int (if b1 = true then 1 else if b2 = true then 2 else if t_word (ga D) i j w_rej = true then (3 : Int32) else -1)) ∧ s = s') := by
  have hr16 := hR.1
  have hc1 := hR.2.1
  have hcl := hR.2.2.1
  have hwd := wd_rej (g := ga D) i j
  have hbt := bI_lt (t_word (ga D) i j w_rej)
  refine wg_iload (d161_124 L xs) rfl ?_
  refine wg_bipush (d161_126 L xs) (x := 6) (by decide) ?_
  refine wn_icmp_ne (d161_128 L xs) (x := j - i) (y := 6) (by omega) (by omega) (t := 167) (by decide) (fun h1 => ?_) (fun h1 => ?_)
  · refine wg_iconst (d161_167 L xs) (x := 0) (by decide) ?_
    refine wg_istore (d161_168 L xs) (ls' := [some (.ref 141), some (.int (nI r)), some (.int (nI (c + i))), some (.int (nI (c + j))), some (.int (nI (j - i))), some (.int (nI (bI b1))), some (.int (nI (bI b2))), some (.int 0)]) (Nat.le_of_ble_eq_true rfl) rfl ?_
    rw [show t_word (ga D) i j w_rej = false from bI_f (b := t_word (ga D) i j w_rej) (by omega)]
    exact md_ac3 (b3 := false)
  · refine wg_aload_n (d161_131 L xs) rfl ?_
    refine wg_iload_n (d161_132 L xs) rfl ?_
    refine wg_iload_n (d161_133 L xs) rfl ?_
    refine wg_bipush (d161_134 L xs) (x := 114) (by decide) ?_
    refine wg_bipush (d161_136 L xs) (x := 101) (by decide) ?_
    refine wg_bipush (d161_138 L xs) (x := 106) (by decide) ?_
    refine wg_invv (d161_140 L xs) (kd := 7) (mj := 124) (n := 5) rfl (Or.inl rfl) (ys := [.int 106, .int 101, .int 114, .int (nI (c + i)), .int (nI r)]) (r := []) rfl rfl (by decide) rfl rfl (Nat.le_of_ble_eq_true rfl) (md_word (i := i) (x := 114) (y := 101) (z := 106) hR (by omega) (by omega) (by decide) (by decide) (by decide)) ?_
    rintro _ _ ⟨rfl, rfl⟩
    have hw_6972786 := w3_n D i 114 101 106
    refine wn_if_eq (d161_143 L xs) (x := bI (w3 D i 114 101 106)) (by omega) (t := 167) (by decide) (fun h2 => ?_) (fun h2 => ?_)
    · refine wg_iconst (d161_167 L xs) (x := 0) (by decide) ?_
      refine wg_istore (d161_168 L xs) (ls' := [some (.ref 141), some (.int (nI r)), some (.int (nI (c + i))), some (.int (nI (c + j))), some (.int (nI (j - i))), some (.int (nI (bI b1))), some (.int (nI (bI b2))), some (.int 0)]) (Nat.le_of_ble_eq_true rfl) rfl ?_
      rw [show t_word (ga D) i j w_rej = false from bI_f (b := t_word (ga D) i j w_rej) (by omega)]
      exact md_ac3 (b3 := false)
    · refine wg_aload_n (d161_146 L xs) rfl ?_
      refine wg_iload_n (d161_147 L xs) rfl ?_
      refine wg_iload_n (d161_148 L xs) rfl ?_
      refine wg_iconst (d161_149 L xs) (x := 3) (by decide) ?_
      refine wg_iadd (d161_150 L xs) ?_
      refine wg_top (y := (nI (c + i + 3))) (nI_add (c + i) 3) ?_
      refine wg_bipush (d161_151 L xs) (x := 101) (by decide) ?_
      refine wg_bipush (d161_153 L xs) (x := 99) (by decide) ?_
      refine wg_bipush (d161_155 L xs) (x := 116) (by decide) ?_
      refine wg_invv (d161_157 L xs) (kd := 7) (mj := 124) (n := 5) rfl (Or.inl rfl) (ys := [.int 116, .int 99, .int 101, .int (nI (c + i + 3)), .int (nI r)]) (r := []) rfl rfl (by decide) rfl rfl (Nat.le_of_ble_eq_true rfl) (md_word (i := i + 3) (x := 101) (y := 99) (z := 116) hR (by omega) (by omega) (by decide) (by decide) (by decide)) ?_
      rintro _ _ ⟨rfl, rfl⟩
      have hw_7627621 := w3_n D (i + 3) 101 99 116
      simp only [Nat.add_assoc, Nat.reduceAdd] at hw_7627621
      refine wn_if_eq (d161_160 L xs) (x := bI (w3 D (i + 3) 101 99 116)) (by omega) (t := 167) (by decide) (fun h3 => ?_) (fun h3 => ?_)
      · refine wg_iconst (d161_167 L xs) (x := 0) (by decide) ?_
        refine wg_istore (d161_168 L xs) (ls' := [some (.ref 141), some (.int (nI r)), some (.int (nI (c + i))), some (.int (nI (c + j))), some (.int (nI (j - i))), some (.int (nI (bI b1))), some (.int (nI (bI b2))), some (.int 0)]) (Nat.le_of_ble_eq_true rfl) rfl ?_
        rw [show t_word (ga D) i j w_rej = false from bI_f (b := t_word (ga D) i j w_rej) (by omega)]
        exact md_ac3 (b3 := false)
      · refine wg_iconst (d161_163 L xs) (x := 1) (by decide) ?_
        refine wg_goto (d161_164 L xs) (t := 168) (by decide) ?_
        refine wg_istore (d161_168 L xs) (ls' := [some (.ref 141), some (.int (nI r)), some (.int (nI (c + i))), some (.int (nI (c + j))), some (.int (nI (j - i))), some (.int (nI (bI b1))), some (.int (nI (bI b2))), some (.int 1)]) (Nat.le_of_ble_eq_true rfl) rfl ?_
        rw [show t_word (ga D) i j w_rej = true from bI_t (b := t_word (ga D) i j w_rej) (by omega)]
        exact md_ac3 (b3 := true)
theorem md_ac1 {i j : Nat} {b1 : Bool} {c6 c7 : Option Value} (hR : isRec s r c D) (hj : j ≤ D.length) (hi : i ≤ j) : wp L xs (d + 2) 161 46 [some (.ref 141), some (.int (nI r)), some (.int (nI (c + i))), some (.int (nI (c + j))), some (.int (nI (j - i))), some (.int (nI (bI b1))), c6, c7] [] s (fun v s' => v = some (.int (if b1 = true then 1 else if t_word (ga D) i j w_quar = true then 2 else if t_word (ga D) i j w_rej = true then (3 : Int32) else -1)) ∧ s = s') := by
  have hr16 := hR.1
  have hc1 := hR.2.1
  have hcl := hR.2.2.1
  have hwd := wd_quar (g := ga D) i j
  have hbt := bI_lt (t_word (ga D) i j w_quar)
  refine wg_iload (d161_46 L xs) rfl ?_
  refine wg_bipush (d161_48 L xs) (x := 10) (by decide) ?_
  refine wn_icmp_ne (d161_50 L xs) (x := j - i) (y := 10) (by omega) (by omega) (t := 121) (by decide) (fun h1 => ?_) (fun h1 => ?_)
  · refine wg_iconst (d161_121 L xs) (x := 0) (by decide) ?_
    refine wg_istore (d161_122 L xs) (ls' := [some (.ref 141), some (.int (nI r)), some (.int (nI (c + i))), some (.int (nI (c + j))), some (.int (nI (j - i))), some (.int (nI (bI b1))), some (.int 0), c7]) (Nat.le_of_ble_eq_true rfl) rfl ?_
    rw [show t_word (ga D) i j w_quar = false from bI_f (b := t_word (ga D) i j w_quar) (by omega)]
    exact md_ac2 (b2 := false) hR hj hi
  · refine wg_aload_n (d161_53 L xs) rfl ?_
    refine wg_iload_n (d161_54 L xs) rfl ?_
    refine wg_iload_n (d161_55 L xs) rfl ?_
    refine wg_bipush (d161_56 L xs) (x := 113) (by decide) ?_
    refine wg_bipush (d161_58 L xs) (x := 117) (by decide) ?_
    refine wg_bipush (d161_60 L xs) (x := 97) (by decide) ?_
    refine wg_invv (d161_62 L xs) (kd := 7) (mj := 124) (n := 5) rfl (Or.inl rfl) (ys := [.int 97, .int 117, .int 113, .int (nI (c + i)), .int (nI r)]) (r := []) rfl rfl (by decide) rfl rfl (Nat.le_of_ble_eq_true rfl) (md_word (i := i) (x := 113) (y := 117) (z := 97) hR (by omega) (by omega) (by decide) (by decide) (by decide)) ?_
    rintro _ _ ⟨rfl, rfl⟩
    have hw_6387057 := w3_n D i 113 117 97
    refine wn_if_eq (d161_65 L xs) (x := bI (w3 D i 113 117 97)) (by omega) (t := 121) (by decide) (fun h2 => ?_) (fun h2 => ?_)
    · refine wg_iconst (d161_121 L xs) (x := 0) (by decide) ?_
      refine wg_istore (d161_122 L xs) (ls' := [some (.ref 141), some (.int (nI r)), some (.int (nI (c + i))), some (.int (nI (c + j))), some (.int (nI (j - i))), some (.int (nI (bI b1))), some (.int 0), c7]) (Nat.le_of_ble_eq_true rfl) rfl ?_
      rw [show t_word (ga D) i j w_quar = false from bI_f (b := t_word (ga D) i j w_quar) (by omega)]
      exact md_ac2 (b2 := false) hR hj hi
    · refine wg_aload_n (d161_68 L xs) rfl ?_
      refine wg_iload_n (d161_69 L xs) rfl ?_
      refine wg_iload_n (d161_70 L xs) rfl ?_
      refine wg_iconst (d161_71 L xs) (x := 3) (by decide) ?_
      refine wg_iadd (d161_72 L xs) ?_
      refine wg_top (y := (nI (c + i + 3))) (nI_add (c + i) 3) ?_
      refine wg_bipush (d161_73 L xs) (x := 114) (by decide) ?_
      refine wg_bipush (d161_75 L xs) (x := 97) (by decide) ?_
      refine wg_bipush (d161_77 L xs) (x := 110) (by decide) ?_
      refine wg_invv (d161_79 L xs) (kd := 7) (mj := 124) (n := 5) rfl (Or.inl rfl) (ys := [.int 110, .int 97, .int 114, .int (nI (c + i + 3)), .int (nI r)]) (r := []) rfl rfl (by decide) rfl rfl (Nat.le_of_ble_eq_true rfl) (md_word (i := i + 3) (x := 114) (y := 97) (z := 110) hR (by omega) (by omega) (by decide) (by decide) (by decide)) ?_
      rintro _ _ ⟨rfl, rfl⟩
      have hw_7233906 := w3_n D (i + 3) 114 97 110
      simp only [Nat.add_assoc, Nat.reduceAdd] at hw_7233906
      refine wn_if_eq (d161_82 L xs) (x := bI (w3 D (i + 3) 114 97 110)) (by omega) (t := 121) (by decide) (fun h3 => ?_) (fun h3 => ?_)
      · refine wg_iconst (d161_121 L xs) (x := 0) (by decide) ?_
        refine wg_istore (d161_122 L xs) (ls' := [some (.ref 141), some (.int (nI r)), some (.int (nI (c + i))), some (.int (nI (c + j))), some (.int (nI (j - i))), some (.int (nI (bI b1))), some (.int 0), c7]) (Nat.le_of_ble_eq_true rfl) rfl ?_
        rw [show t_word (ga D) i j w_quar = false from bI_f (b := t_word (ga D) i j w_quar) (by omega)]
        exact md_ac2 (b2 := false) hR hj hi
      · refine wg_aload_n (d161_85 L xs) rfl ?_
        refine wg_iload_n (d161_86 L xs) rfl ?_
        refine wg_iload_n (d161_87 L xs) rfl ?_
        refine wg_bipush (d161_88 L xs) (x := 6) (by decide) ?_
        refine wg_iadd (d161_90 L xs) ?_
        refine wg_top (y := (nI (c + i + 6))) (nI_add (c + i) 6) ?_
        refine wg_bipush (d161_91 L xs) (x := 116) (by decide) ?_
        refine wg_bipush (d161_93 L xs) (x := 105) (by decide) ?_
        refine wg_bipush (d161_95 L xs) (x := 110) (by decide) ?_
        refine wg_invv (d161_97 L xs) (kd := 7) (mj := 124) (n := 5) rfl (Or.inl rfl) (ys := [.int 110, .int 105, .int 116, .int (nI (c + i + 6)), .int (nI r)]) (r := []) rfl rfl (by decide) rfl rfl (Nat.le_of_ble_eq_true rfl) (md_word (i := i + 6) (x := 116) (y := 105) (z := 110) hR (by omega) (by omega) (by decide) (by decide) (by decide)) ?_
        rintro _ _ ⟨rfl, rfl⟩
        have hw_7235956 := w3_n D (i + 6) 116 105 110
        simp only [Nat.add_assoc, Nat.reduceAdd] at hw_7235956
        refine wn_if_eq (d161_100 L xs) (x := bI (w3 D (i + 6) 116 105 110)) (by omega) (t := 121) (by decide) (fun h4 => ?_) (fun h4 => ?_)
        · refine wg_iconst (d161_121 L xs) (x := 0) (by decide) ?_
          refine wg_istore (d161_122 L xs) (ls' := [some (.ref 141), some (.int (nI r)), some (.int (nI (c + i))), some (.int (nI (c + j))), some (.int (nI (j - i))), some (.int (nI (bI b1))), some (.int 0), c7]) (Nat.le_of_ble_eq_true rfl) rfl ?_
          rw [show t_word (ga D) i j w_quar = false from bI_f (b := t_word (ga D) i j w_quar) (by omega)]
          exact md_ac2 (b2 := false) hR hj hi
        · refine wg_aload_n (d161_103 L xs) rfl ?_
          refine wg_iload_n (d161_104 L xs) rfl ?_
          refine wg_iload_n (d161_105 L xs) rfl ?_
          refine wg_bipush (d161_106 L xs) (x := 9) (by decide) ?_
          refine wg_iadd (d161_108 L xs) ?_
          refine wg_top (y := (nI (c + i + 9))) (nI_add (c + i) 9) ?_
          refine wg_invv (d161_109 L xs) (kd := 7) (mj := 125) (n := 2) rfl (Or.inl rfl) (ys := [.int (nI (c + i + 9)), .int (nI r)]) (r := []) rfl rfl (by decide) rfl rfl (Nat.le_of_ble_eq_true rfl) (md_at (i := i + 9) hR (by omega) (by omega)) ?_
          rintro _ _ ⟨rfl, rfl⟩
          have hat_i_9 := ga_lt hR (i + 9)
          refine wg_bipush (d161_112 L xs) (x := 101) (by decide) ?_
          refine wn_icmp_ne (d161_114 L xs) (x := ga D (i + 9)) (y := 101) (by omega) (by omega) (t := 121) (by decide) (fun h5 => ?_) (fun h5 => ?_)
          · refine wg_iconst (d161_121 L xs) (x := 0) (by decide) ?_
            refine wg_istore (d161_122 L xs) (ls' := [some (.ref 141), some (.int (nI r)), some (.int (nI (c + i))), some (.int (nI (c + j))), some (.int (nI (j - i))), some (.int (nI (bI b1))), some (.int 0), c7]) (Nat.le_of_ble_eq_true rfl) rfl ?_
            rw [show t_word (ga D) i j w_quar = false from bI_f (b := t_word (ga D) i j w_quar) (by omega)]
            exact md_ac2 (b2 := false) hR hj hi
          · refine wg_iconst (d161_117 L xs) (x := 1) (by decide) ?_
            refine wg_goto (d161_118 L xs) (t := 122) (by decide) ?_
            refine wg_istore (d161_122 L xs) (ls' := [some (.ref 141), some (.int (nI r)), some (.int (nI (c + i))), some (.int (nI (c + j))), some (.int (nI (j - i))), some (.int (nI (bI b1))), some (.int 1), c7]) (Nat.le_of_ble_eq_true rfl) rfl ?_
            rw [show t_word (ga D) i j w_quar = true from bI_t (b := t_word (ga D) i j w_quar) (by omega)]
            exact md_ac2 (b2 := true) hR hj hi
theorem md_action {i j : Nat} (hR : isRec s r c D) (hj : j ≤ D.length) (hi : i ≤ j) : ca L xs (d + 3) 161 [.ref 141, .int (nI r), .int (nI (c + i)), .int (nI (c + j))] s (fun v s' => v = some (.int (aJ (t_act (gl D) i j))) ∧ s = s') := by
  refine wg_call (Nat.le_of_ble_eq_true rfl) ?_
  have hr16 := hR.1
  have hc1 := hR.2.1
  have hcl := hR.2.2.1
  have hwd := wd_none (g := ga D) i j
  have hbt := bI_lt (t_word (ga D) i j w_none)
  have hE : aJ (t_act (gl D) i j) = (if t_word (ga D) i j w_none = true then 1 else if t_word (ga D) i j w_quar = true then 2 else if t_word (ga D) i j w_rej = true then (3 : Int32) else -1) := by
    unfold t_act
    rw [wd_ga hj, wd_ga hj, wd_ga hj]
    split
    · rfl
    · split
      · rfl
      · split <;> rfl
  rw [hE]
  show wp L xs (d + 2) 161 0 [some (.ref 141), some (.int (nI r)), some (.int (nI (c + i))), some (.int (nI (c + j))), none, none, none, none] [] s _
  refine wg_iload_n (d161_0 L xs) rfl ?_
  refine wg_iload_n (d161_1 L xs) rfl ?_
  refine wg_isub (d161_2 L xs) ?_
  refine wg_top (y := (nI (j - i))) (by rw [pk_sub (by omega)]; congr 1; omega) ?_
  refine wg_istore (d161_3 L xs) (ls' := [some (.ref 141), some (.int (nI r)), some (.int (nI (c + i))), some (.int (nI (c + j))), some (.int (nI (j - i))), none, none, none]) (Nat.le_of_ble_eq_true rfl) rfl ?_
  refine wg_iload (d161_5 L xs) rfl ?_
  refine wg_iconst (d161_7 L xs) (x := 4) (by decide) ?_
  refine wn_icmp_ne (d161_8 L xs) (x := j - i) (y := 4) (by omega) (by omega) (t := 43) (by decide) (fun h1 => ?_) (fun h1 => ?_)
  · refine wg_iconst (d161_43 L xs) (x := 0) (by decide) ?_
    refine wg_istore (d161_44 L xs) (ls' := [some (.ref 141), some (.int (nI r)), some (.int (nI (c + i))), some (.int (nI (c + j))), some (.int (nI (j - i))), some (.int 0), none, none]) (Nat.le_of_ble_eq_true rfl) rfl ?_
    rw [show t_word (ga D) i j w_none = false from bI_f (b := t_word (ga D) i j w_none) (by omega)]
    exact md_ac1 (b1 := false) hR hj hi
  · refine wg_aload_n (d161_11 L xs) rfl ?_
    refine wg_iload_n (d161_12 L xs) rfl ?_
    refine wg_iload_n (d161_13 L xs) rfl ?_
    refine wg_bipush (d161_14 L xs) (x := 110) (by decide) ?_
    refine wg_bipush (d161_16 L xs) (x := 111) (by decide) ?_
    refine wg_bipush (d161_18 L xs) (x := 110) (by decide) ?_
    refine wg_invv (d161_20 L xs) (kd := 7) (mj := 124) (n := 5) rfl (Or.inl rfl) (ys := [.int 110, .int 111, .int 110, .int (nI (c + i)), .int (nI r)]) (r := []) rfl rfl (by decide) rfl rfl (Nat.le_of_ble_eq_true rfl) (md_word (i := i) (x := 110) (y := 111) (z := 110) hR (by omega) (by omega) (by decide) (by decide) (by decide)) ?_
    rintro _ _ ⟨rfl, rfl⟩
    have hw_7237486 := w3_n D i 110 111 110
    refine wn_if_eq (d161_23 L xs) (x := bI (w3 D i 110 111 110)) (by omega) (t := 43) (by decide) (fun h2 => ?_) (fun h2 => ?_)
    · refine wg_iconst (d161_43 L xs) (x := 0) (by decide) ?_
      refine wg_istore (d161_44 L xs) (ls' := [some (.ref 141), some (.int (nI r)), some (.int (nI (c + i))), some (.int (nI (c + j))), some (.int (nI (j - i))), some (.int 0), none, none]) (Nat.le_of_ble_eq_true rfl) rfl ?_
      rw [show t_word (ga D) i j w_none = false from bI_f (b := t_word (ga D) i j w_none) (by omega)]
      exact md_ac1 (b1 := false) hR hj hi
    · refine wg_aload_n (d161_26 L xs) rfl ?_
      refine wg_iload_n (d161_27 L xs) rfl ?_
      refine wg_iload_n (d161_28 L xs) rfl ?_
      refine wg_iconst (d161_29 L xs) (x := 3) (by decide) ?_
      refine wg_iadd (d161_30 L xs) ?_
      refine wg_top (y := (nI (c + i + 3))) (nI_add (c + i) 3) ?_
      refine wg_invv (d161_31 L xs) (kd := 7) (mj := 125) (n := 2) rfl (Or.inl rfl) (ys := [.int (nI (c + i + 3)), .int (nI r)]) (r := []) rfl rfl (by decide) rfl rfl (Nat.le_of_ble_eq_true rfl) (md_at (i := i + 3) hR (by omega) (by omega)) ?_
      rintro _ _ ⟨rfl, rfl⟩
      have hat_i_3 := ga_lt hR (i + 3)
      refine wg_bipush (d161_34 L xs) (x := 101) (by decide) ?_
      refine wn_icmp_ne (d161_36 L xs) (x := ga D (i + 3)) (y := 101) (by omega) (by omega) (t := 43) (by decide) (fun h3 => ?_) (fun h3 => ?_)
      · refine wg_iconst (d161_43 L xs) (x := 0) (by decide) ?_
        refine wg_istore (d161_44 L xs) (ls' := [some (.ref 141), some (.int (nI r)), some (.int (nI (c + i))), some (.int (nI (c + j))), some (.int (nI (j - i))), some (.int 0), none, none]) (Nat.le_of_ble_eq_true rfl) rfl ?_
        rw [show t_word (ga D) i j w_none = false from bI_f (b := t_word (ga D) i j w_none) (by omega)]
        exact md_ac1 (b1 := false) hR hj hi
      · refine wg_iconst (d161_39 L xs) (x := 1) (by decide) ?_
        refine wg_goto (d161_40 L xs) (t := 44) (by decide) ?_
        refine wg_istore (d161_44 L xs) (ls' := [some (.ref 141), some (.int (nI r)), some (.int (nI (c + i))), some (.int (nI (c + j))), some (.int (nI (j - i))), some (.int 1), none, none]) (Nat.le_of_ble_eq_true rfl) rfl ?_
        rw [show t_word (ga D) i j w_none = true from bI_t (b := t_word (ga D) i j w_none) (by omega)]
        exact md_ac1 (b1 := true) hR hj hi
end KY
