/-! the reference: the sources of macros -/
theorem d142_0 (L : Nat) (xs : Nat → Int32) : decode (ax_code (mgT L xs) 142) 0 = .ok (.aload_n 0, 1) := by
  show decode prog_11_method_17_code 0 = _
  decide +kernel
theorem d142_1 (L : Nat) (xs : Nat → Int32) : decode (ax_code (mgT L xs) 142) 1 = .ok (.getfield 37, 3) := by
  show decode prog_11_method_17_code 1 = _
  decide +kernel
theorem d142_4 (L : Nat) (xs : Nat → Int32) : decode (ax_code (mgT L xs) 142) 4 = .ok (.aload_n 0, 1) := by
  show decode prog_11_method_17_code 4 = _
  decide +kernel
theorem d142_5 (L : Nat) (xs : Nat → Int32) : decode (ax_code (mgT L xs) 142) 5 = .ok (.getfield 134, 3) := by
  show decode prog_11_method_17_code 5 = _
  decide +kernel
theorem d142_8 (L : Nat) (xs : Nat → Int32) : decode (ax_code (mgT L xs) 142) 8 = .ok (.iload_n 1, 1) := by
  show decode prog_11_method_17_code 8 = _
  decide +kernel
theorem d142_9 (L : Nat) (xs : Nat → Int32) : decode (ax_code (mgT L xs) 142) 9 = .ok (.iastore, 1) := by
  show decode prog_11_method_17_code 9 = _
  decide +kernel
theorem d142_10 (L : Nat) (xs : Nat → Int32) : decode (ax_code (mgT L xs) 142) 10 = .ok (.aload_n 0, 1) := by
  show decode prog_11_method_17_code 10 = _
  decide +kernel
theorem d142_11 (L : Nat) (xs : Nat → Int32) : decode (ax_code (mgT L xs) 142) 11 = .ok (.dup, 1) := by
  show decode prog_11_method_17_code 11 = _
  decide +kernel
theorem d142_12 (L : Nat) (xs : Nat → Int32) : decode (ax_code (mgT L xs) 142) 12 = .ok (.getfield 134, 3) := by
  show decode prog_11_method_17_code 12 = _
  decide +kernel
theorem d142_15 (L : Nat) (xs : Nat → Int32) : decode (ax_code (mgT L xs) 142) 15 = .ok (.iconst 1, 1) := by
  show decode prog_11_method_17_code 15 = _
  decide +kernel
theorem d142_16 (L : Nat) (xs : Nat → Int32) : decode (ax_code (mgT L xs) 142) 16 = .ok (.iadd, 1) := by
  show decode prog_11_method_17_code 16 = _
  decide +kernel
theorem d142_17 (L : Nat) (xs : Nat → Int32) : decode (ax_code (mgT L xs) 142) 17 = .ok (.putfield 134, 3) := by
  show decode prog_11_method_17_code 17 = _
  decide +kernel
theorem d142_20 (L : Nat) (xs : Nat → Int32) : decode (ax_code (mgT L xs) 142) 20 = .ok (.return_, 1) := by
  show decode prog_11_method_17_code 20 = _
  decide +kernel
theorem d143_0 (L : Nat) (xs : Nat → Int32) : decode (ax_code (mgT L xs) 143) 0 = .ok (.aload_n 0, 1) := by
  show decode prog_11_method_19_code 0 = _
  decide +kernel
theorem d143_1 (L : Nat) (xs : Nat → Int32) : decode (ax_code (mgT L xs) 143) 1 = .ok (.iconst 0, 1) := by
  show decode prog_11_method_19_code 1 = _
  decide +kernel
theorem d143_2 (L : Nat) (xs : Nat → Int32) : decode (ax_code (mgT L xs) 143) 2 = .ok (.putfield 137, 3) := by
  show decode prog_11_method_19_code 2 = _
  decide +kernel
theorem d143_5 (L : Nat) (xs : Nat → Int32) : decode (ax_code (mgT L xs) 143) 5 = .ok (.aload_n 0, 1) := by
  show decode prog_11_method_19_code 5 = _
  decide +kernel
theorem d143_6 (L : Nat) (xs : Nat → Int32) : decode (ax_code (mgT L xs) 143) 6 = .ok (.getfield 140, 3) := by
  show decode prog_11_method_19_code 6 = _
  decide +kernel
theorem d143_9 (L : Nat) (xs : Nat → Int32) : decode (ax_code (mgT L xs) 143) 9 = .ok (.iconst 1, 1) := by
  show decode prog_11_method_19_code 9 = _
  decide +kernel
theorem d143_10 (L : Nat) (xs : Nat → Int32) : decode (ax_code (mgT L xs) 143) 10 = .ok (.isub, 1) := by
  show decode prog_11_method_19_code 10 = _
  decide +kernel
theorem d143_11 (L : Nat) (xs : Nat → Int32) : decode (ax_code (mgT L xs) 143) 11 = .ok (.istore_n 2, 1) := by
  show decode prog_11_method_19_code 11 = _
  decide +kernel
theorem d143_12 (L : Nat) (xs : Nat → Int32) : decode (ax_code (mgT L xs) 143) 12 = .ok (.iload_n 1, 1) := by
  show decode prog_11_method_19_code 12 = _
  decide +kernel
theorem d143_13 (L : Nat) (xs : Nat → Int32) : decode (ax_code (mgT L xs) 143) 13 = .ok (.bipush 105, 2) := by
  show decode prog_11_method_19_code 13 = _
  decide +kernel
theorem d143_15 (L : Nat) (xs : Nat → Int32) : decode (ax_code (mgT L xs) 143) 15 = .ok (.if_icmp .ne 56, 3) := by
  show decode prog_11_method_19_code 15 = _
  decide +kernel
theorem d143_18 (L : Nat) (xs : Nat → Int32) : decode (ax_code (mgT L xs) 143) 18 = .ok (.bipush 24, 2) := by
  show decode prog_11_method_19_code 18 = _
  decide +kernel
theorem d143_20 (L : Nat) (xs : Nat → Int32) : decode (ax_code (mgT L xs) 143) 20 = .ok (.istore_n 3, 1) := by
  show decode prog_11_method_19_code 20 = _
  decide +kernel
theorem d143_21 (L : Nat) (xs : Nat → Int32) : decode (ax_code (mgT L xs) 143) 21 = .ok (.iload_n 3, 1) := by
  show decode prog_11_method_19_code 21 = _
  decide +kernel
theorem d143_22 (L : Nat) (xs : Nat → Int32) : decode (ax_code (mgT L xs) 143) 22 = .ok (.ifCond .lt 48, 3) := by
  show decode prog_11_method_19_code 22 = _
  decide +kernel
theorem d143_25 (L : Nat) (xs : Nat → Int32) : decode (ax_code (mgT L xs) 143) 25 = .ok (.aload_n 0, 1) := by
  show decode prog_11_method_19_code 25 = _
  decide +kernel
theorem d143_26 (L : Nat) (xs : Nat → Int32) : decode (ax_code (mgT L xs) 143) 26 = .ok (.aload_n 0, 1) := by
  show decode prog_11_method_19_code 26 = _
  decide +kernel
theorem d143_27 (L : Nat) (xs : Nat → Int32) : decode (ax_code (mgT L xs) 143) 27 = .ok (.getfield 143, 3) := by
  show decode prog_11_method_19_code 27 = _
  decide +kernel
theorem d143_30 (L : Nat) (xs : Nat → Int32) : decode (ax_code (mgT L xs) 143) 30 = .ok (.iload_n 3, 1) := by
  show decode prog_11_method_19_code 30 = _
  decide +kernel
theorem d143_31 (L : Nat) (xs : Nat → Int32) : decode (ax_code (mgT L xs) 143) 31 = .ok (.ishr, 1) := by
  show decode prog_11_method_19_code 31 = _
  decide +kernel
theorem d143_32 (L : Nat) (xs : Nat → Int32) : decode (ax_code (mgT L xs) 143) 32 = .ok (.sipush 255, 3) := by
  show decode prog_11_method_19_code 32 = _
  decide +kernel
theorem d143_35 (L : Nat) (xs : Nat → Int32) : decode (ax_code (mgT L xs) 143) 35 = .ok (.iand, 1) := by
  show decode prog_11_method_19_code 35 = _
  decide +kernel
theorem d143_36 (L : Nat) (xs : Nat → Int32) : decode (ax_code (mgT L xs) 143) 36 = .ok (.invokevirtual 146, 3) := by
  show decode prog_11_method_19_code 36 = _
  decide +kernel
theorem d143_39 (L : Nat) (xs : Nat → Int32) : decode (ax_code (mgT L xs) 143) 39 = .ok (.iload_n 3, 1) := by
  show decode prog_11_method_19_code 39 = _
  decide +kernel
theorem d143_40 (L : Nat) (xs : Nat → Int32) : decode (ax_code (mgT L xs) 143) 40 = .ok (.ifCond .le 24, 3) := by
  show decode prog_11_method_19_code 40 = _
  decide +kernel
theorem d143_43 (L : Nat) (xs : Nat → Int32) : decode (ax_code (mgT L xs) 143) 43 = .ok (.aload_n 0, 1) := by
  show decode prog_11_method_19_code 43 = _
  decide +kernel
theorem d143_44 (L : Nat) (xs : Nat → Int32) : decode (ax_code (mgT L xs) 143) 44 = .ok (.getfield 43, 3) := by
  show decode prog_11_method_19_code 44 = _
  decide +kernel
theorem d143_47 (L : Nat) (xs : Nat → Int32) : decode (ax_code (mgT L xs) 143) 47 = .ok (.aload_n 0, 1) := by
  show decode prog_11_method_19_code 47 = _
  decide +kernel
theorem d143_48 (L : Nat) (xs : Nat → Int32) : decode (ax_code (mgT L xs) 143) 48 = .ok (.getfield 137, 3) := by
  show decode prog_11_method_19_code 48 = _
  decide +kernel
theorem d143_51 (L : Nat) (xs : Nat → Int32) : decode (ax_code (mgT L xs) 143) 51 = .ok (.bipush 46, 2) := by
  show decode prog_11_method_19_code 51 = _
  decide +kernel
theorem d143_53 (L : Nat) (xs : Nat → Int32) : decode (ax_code (mgT L xs) 143) 53 = .ok (.iastore, 1) := by
  show decode prog_11_method_19_code 53 = _
  decide +kernel
theorem d143_54 (L : Nat) (xs : Nat → Int32) : decode (ax_code (mgT L xs) 143) 54 = .ok (.aload_n 0, 1) := by
  show decode prog_11_method_19_code 54 = _
  decide +kernel
theorem d143_55 (L : Nat) (xs : Nat → Int32) : decode (ax_code (mgT L xs) 143) 55 = .ok (.dup, 1) := by
  show decode prog_11_method_19_code 55 = _
  decide +kernel
theorem d143_56 (L : Nat) (xs : Nat → Int32) : decode (ax_code (mgT L xs) 143) 56 = .ok (.getfield 137, 3) := by
  show decode prog_11_method_19_code 56 = _
  decide +kernel
theorem d143_59 (L : Nat) (xs : Nat → Int32) : decode (ax_code (mgT L xs) 143) 59 = .ok (.iconst 1, 1) := by
  show decode prog_11_method_19_code 59 = _
  decide +kernel
theorem d143_60 (L : Nat) (xs : Nat → Int32) : decode (ax_code (mgT L xs) 143) 60 = .ok (.iadd, 1) := by
  show decode prog_11_method_19_code 60 = _
  decide +kernel
theorem d143_61 (L : Nat) (xs : Nat → Int32) : decode (ax_code (mgT L xs) 143) 61 = .ok (.putfield 137, 3) := by
  show decode prog_11_method_19_code 61 = _
  decide +kernel
theorem d143_64 (L : Nat) (xs : Nat → Int32) : decode (ax_code (mgT L xs) 143) 64 = .ok (.iinc 3 (-8), 3) := by
  show decode prog_11_method_19_code 64 = _
  decide +kernel
theorem d143_67 (L : Nat) (xs : Nat → Int32) : decode (ax_code (mgT L xs) 143) 67 = .ok (.goto (-46), 3) := by
  show decode prog_11_method_19_code 67 = _
  decide +kernel
theorem d143_70 (L : Nat) (xs : Nat → Int32) : decode (ax_code (mgT L xs) 143) 70 = .ok (.return_, 1) := by
  show decode prog_11_method_19_code 70 = _
  decide +kernel
theorem d143_71 (L : Nat) (xs : Nat → Int32) : decode (ax_code (mgT L xs) 143) 71 = .ok (.iload_n 1, 1) := by
  show decode prog_11_method_19_code 71 = _
  decide +kernel
theorem d143_72 (L : Nat) (xs : Nat → Int32) : decode (ax_code (mgT L xs) 143) 72 = .ok (.bipush 100, 2) := by
  show decode prog_11_method_19_code 72 = _
  decide +kernel
theorem d143_74 (L : Nat) (xs : Nat → Int32) : decode (ax_code (mgT L xs) 143) 74 = .ok (.if_icmp .ne 12, 3) := by
  show decode prog_11_method_19_code 74 = _
  decide +kernel
theorem d143_77 (L : Nat) (xs : Nat → Int32) : decode (ax_code (mgT L xs) 143) 77 = .ok (.aload_n 0, 1) := by
  show decode prog_11_method_19_code 77 = _
  decide +kernel
theorem d143_78 (L : Nat) (xs : Nat → Int32) : decode (ax_code (mgT L xs) 143) 78 = .ok (.getfield 49, 3) := by
  show decode prog_11_method_19_code 78 = _
  decide +kernel
theorem d143_81 (L : Nat) (xs : Nat → Int32) : decode (ax_code (mgT L xs) 143) 81 = .ok (.iload_n 2, 1) := by
  show decode prog_11_method_19_code 81 = _
  decide +kernel
theorem d143_82 (L : Nat) (xs : Nat → Int32) : decode (ax_code (mgT L xs) 143) 82 = .ok (.iaload, 1) := by
  show decode prog_11_method_19_code 82 = _
  decide +kernel
theorem d143_83 (L : Nat) (xs : Nat → Int32) : decode (ax_code (mgT L xs) 143) 83 = .ok (.goto 7, 3) := by
  show decode prog_11_method_19_code 83 = _
  decide +kernel
theorem d143_86 (L : Nat) (xs : Nat → Int32) : decode (ax_code (mgT L xs) 143) 86 = .ok (.aload_n 0, 1) := by
  show decode prog_11_method_19_code 86 = _
  decide +kernel
theorem d143_87 (L : Nat) (xs : Nat → Int32) : decode (ax_code (mgT L xs) 143) 87 = .ok (.getfield 150, 3) := by
  show decode prog_11_method_19_code 87 = _
  decide +kernel
theorem d143_90 (L : Nat) (xs : Nat → Int32) : decode (ax_code (mgT L xs) 143) 90 = .ok (.istore_n 3, 1) := by
  show decode prog_11_method_19_code 90 = _
  decide +kernel
theorem d143_91 (L : Nat) (xs : Nat → Int32) : decode (ax_code (mgT L xs) 143) 91 = .ok (.iconst 0, 1) := by
  show decode prog_11_method_19_code 91 = _
  decide +kernel
theorem d143_92 (L : Nat) (xs : Nat → Int32) : decode (ax_code (mgT L xs) 143) 92 = .ok (.istore 4, 2) := by
  show decode prog_11_method_19_code 92 = _
  decide +kernel
theorem d143_94 (L : Nat) (xs : Nat → Int32) : decode (ax_code (mgT L xs) 143) 94 = .ok (.iload 4, 2) := by
  show decode prog_11_method_19_code 94 = _
  decide +kernel
theorem d143_96 (L : Nat) (xs : Nat → Int32) : decode (ax_code (mgT L xs) 143) 96 = .ok (.iload_n 3, 1) := by
  show decode prog_11_method_19_code 96 = _
  decide +kernel
theorem d143_97 (L : Nat) (xs : Nat → Int32) : decode (ax_code (mgT L xs) 143) 97 = .ok (.if_icmp .ge 44, 3) := by
  show decode prog_11_method_19_code 97 = _
  decide +kernel
theorem d143_100 (L : Nat) (xs : Nat → Int32) : decode (ax_code (mgT L xs) 143) 100 = .ok (.aload_n 0, 1) := by
  show decode prog_11_method_19_code 100 = _
  decide +kernel
theorem d143_101 (L : Nat) (xs : Nat → Int32) : decode (ax_code (mgT L xs) 143) 101 = .ok (.getfield 43, 3) := by
  show decode prog_11_method_19_code 101 = _
  decide +kernel
theorem d143_104 (L : Nat) (xs : Nat → Int32) : decode (ax_code (mgT L xs) 143) 104 = .ok (.iload 4, 2) := by
  show decode prog_11_method_19_code 104 = _
  decide +kernel
theorem d143_106 (L : Nat) (xs : Nat → Int32) : decode (ax_code (mgT L xs) 143) 106 = .ok (.iload_n 1, 1) := by
  show decode prog_11_method_19_code 106 = _
  decide +kernel
theorem d143_107 (L : Nat) (xs : Nat → Int32) : decode (ax_code (mgT L xs) 143) 107 = .ok (.bipush 100, 2) := by
  show decode prog_11_method_19_code 107 = _
  decide +kernel
theorem d143_109 (L : Nat) (xs : Nat → Int32) : decode (ax_code (mgT L xs) 143) 109 = .ok (.if_icmp .ne 18, 3) := by
  show decode prog_11_method_19_code 109 = _
  decide +kernel
theorem d143_112 (L : Nat) (xs : Nat → Int32) : decode (ax_code (mgT L xs) 143) 112 = .ok (.aload_n 0, 1) := by
  show decode prog_11_method_19_code 112 = _
  decide +kernel
theorem d143_113 (L : Nat) (xs : Nat → Int32) : decode (ax_code (mgT L xs) 143) 113 = .ok (.getfield 46, 3) := by
  show decode prog_11_method_19_code 113 = _
  decide +kernel
theorem d143_116 (L : Nat) (xs : Nat → Int32) : decode (ax_code (mgT L xs) 143) 116 = .ok (.bipush 48, 2) := by
  show decode prog_11_method_19_code 116 = _
  decide +kernel
theorem d143_118 (L : Nat) (xs : Nat → Int32) : decode (ax_code (mgT L xs) 143) 118 = .ok (.iload_n 2, 1) := by
  show decode prog_11_method_19_code 118 = _
  decide +kernel
theorem d143_119 (L : Nat) (xs : Nat → Int32) : decode (ax_code (mgT L xs) 143) 119 = .ok (.imul, 1) := by
  show decode prog_11_method_19_code 119 = _
  decide +kernel
theorem d143_120 (L : Nat) (xs : Nat → Int32) : decode (ax_code (mgT L xs) 143) 120 = .ok (.iload 4, 2) := by
  show decode prog_11_method_19_code 120 = _
  decide +kernel
theorem d143_122 (L : Nat) (xs : Nat → Int32) : decode (ax_code (mgT L xs) 143) 122 = .ok (.iadd, 1) := by
  show decode prog_11_method_19_code 122 = _
  decide +kernel
theorem d143_123 (L : Nat) (xs : Nat → Int32) : decode (ax_code (mgT L xs) 143) 123 = .ok (.iaload, 1) := by
  show decode prog_11_method_19_code 123 = _
  decide +kernel
theorem d143_124 (L : Nat) (xs : Nat → Int32) : decode (ax_code (mgT L xs) 143) 124 = .ok (.goto 10, 3) := by
  show decode prog_11_method_19_code 124 = _
  decide +kernel
theorem d143_127 (L : Nat) (xs : Nat → Int32) : decode (ax_code (mgT L xs) 143) 127 = .ok (.aload_n 0, 1) := by
  show decode prog_11_method_19_code 127 = _
  decide +kernel
theorem d143_128 (L : Nat) (xs : Nat → Int32) : decode (ax_code (mgT L xs) 143) 128 = .ok (.getfield 73, 3) := by
  show decode prog_11_method_19_code 128 = _
  decide +kernel
theorem d143_131 (L : Nat) (xs : Nat → Int32) : decode (ax_code (mgT L xs) 143) 131 = .ok (.iload 4, 2) := by
  show decode prog_11_method_19_code 131 = _
  decide +kernel
theorem d143_133 (L : Nat) (xs : Nat → Int32) : decode (ax_code (mgT L xs) 143) 133 = .ok (.iaload, 1) := by
  show decode prog_11_method_19_code 133 = _
  decide +kernel
theorem d143_134 (L : Nat) (xs : Nat → Int32) : decode (ax_code (mgT L xs) 143) 134 = .ok (.iastore, 1) := by
  show decode prog_11_method_19_code 134 = _
  decide +kernel
theorem d143_135 (L : Nat) (xs : Nat → Int32) : decode (ax_code (mgT L xs) 143) 135 = .ok (.iinc 4 1, 3) := by
  show decode prog_11_method_19_code 135 = _
  decide +kernel
theorem d143_138 (L : Nat) (xs : Nat → Int32) : decode (ax_code (mgT L xs) 143) 138 = .ok (.goto (-44), 3) := by
  show decode prog_11_method_19_code 138 = _
  decide +kernel
theorem d143_141 (L : Nat) (xs : Nat → Int32) : decode (ax_code (mgT L xs) 143) 141 = .ok (.aload_n 0, 1) := by
  show decode prog_11_method_19_code 141 = _
  decide +kernel
theorem d143_142 (L : Nat) (xs : Nat → Int32) : decode (ax_code (mgT L xs) 143) 142 = .ok (.iload_n 3, 1) := by
  show decode prog_11_method_19_code 142 = _
  decide +kernel
theorem d143_143 (L : Nat) (xs : Nat → Int32) : decode (ax_code (mgT L xs) 143) 143 = .ok (.putfield 137, 3) := by
  show decode prog_11_method_19_code 143 = _
  decide +kernel
theorem d143_146 (L : Nat) (xs : Nat → Int32) : decode (ax_code (mgT L xs) 143) 146 = .ok (.return_, 1) := by
  show decode prog_11_method_19_code 146 = _
  decide +kernel
theorem d144_0 (L : Nat) (xs : Nat → Int32) : decode (ax_code (mgT L xs) 144) 0 = .ok (.iload_n 1, 1) := by
  show decode prog_11_method_18_code 0 = _
  decide +kernel
theorem d144_1 (L : Nat) (xs : Nat → Int32) : decode (ax_code (mgT L xs) 144) 1 = .ok (.bipush 99, 2) := by
  show decode prog_11_method_18_code 1 = _
  decide +kernel
theorem d144_3 (L : Nat) (xs : Nat → Int32) : decode (ax_code (mgT L xs) 144) 3 = .ok (.if_icmp .le 29, 3) := by
  show decode prog_11_method_18_code 3 = _
  decide +kernel
theorem d144_6 (L : Nat) (xs : Nat → Int32) : decode (ax_code (mgT L xs) 144) 6 = .ok (.aload_n 0, 1) := by
  show decode prog_11_method_18_code 6 = _
  decide +kernel
theorem d144_7 (L : Nat) (xs : Nat → Int32) : decode (ax_code (mgT L xs) 144) 7 = .ok (.getfield 43, 3) := by
  show decode prog_11_method_18_code 7 = _
  decide +kernel
theorem d144_10 (L : Nat) (xs : Nat → Int32) : decode (ax_code (mgT L xs) 144) 10 = .ok (.aload_n 0, 1) := by
  show decode prog_11_method_18_code 10 = _
  decide +kernel
theorem d144_11 (L : Nat) (xs : Nat → Int32) : decode (ax_code (mgT L xs) 144) 11 = .ok (.getfield 137, 3) := by
  show decode prog_11_method_18_code 11 = _
  decide +kernel
theorem d144_14 (L : Nat) (xs : Nat → Int32) : decode (ax_code (mgT L xs) 144) 14 = .ok (.bipush 48, 2) := by
  show decode prog_11_method_18_code 14 = _
  decide +kernel
theorem d144_16 (L : Nat) (xs : Nat → Int32) : decode (ax_code (mgT L xs) 144) 16 = .ok (.iload_n 1, 1) := by
  show decode prog_11_method_18_code 16 = _
  decide +kernel
theorem d144_17 (L : Nat) (xs : Nat → Int32) : decode (ax_code (mgT L xs) 144) 17 = .ok (.bipush 100, 2) := by
  show decode prog_11_method_18_code 17 = _
  decide +kernel
theorem d144_19 (L : Nat) (xs : Nat → Int32) : decode (ax_code (mgT L xs) 144) 19 = .ok (.idiv, 1) := by
  show decode prog_11_method_18_code 19 = _
  decide +kernel
theorem d144_20 (L : Nat) (xs : Nat → Int32) : decode (ax_code (mgT L xs) 144) 20 = .ok (.iadd, 1) := by
  show decode prog_11_method_18_code 20 = _
  decide +kernel
theorem d144_21 (L : Nat) (xs : Nat → Int32) : decode (ax_code (mgT L xs) 144) 21 = .ok (.iastore, 1) := by
  show decode prog_11_method_18_code 21 = _
  decide +kernel
theorem d144_22 (L : Nat) (xs : Nat → Int32) : decode (ax_code (mgT L xs) 144) 22 = .ok (.aload_n 0, 1) := by
  show decode prog_11_method_18_code 22 = _
  decide +kernel
theorem d144_23 (L : Nat) (xs : Nat → Int32) : decode (ax_code (mgT L xs) 144) 23 = .ok (.dup, 1) := by
  show decode prog_11_method_18_code 23 = _
  decide +kernel
theorem d144_24 (L : Nat) (xs : Nat → Int32) : decode (ax_code (mgT L xs) 144) 24 = .ok (.getfield 137, 3) := by
  show decode prog_11_method_18_code 24 = _
  decide +kernel
theorem d144_27 (L : Nat) (xs : Nat → Int32) : decode (ax_code (mgT L xs) 144) 27 = .ok (.iconst 1, 1) := by
  show decode prog_11_method_18_code 27 = _
  decide +kernel
theorem d144_28 (L : Nat) (xs : Nat → Int32) : decode (ax_code (mgT L xs) 144) 28 = .ok (.iadd, 1) := by
  show decode prog_11_method_18_code 28 = _
  decide +kernel
theorem d144_29 (L : Nat) (xs : Nat → Int32) : decode (ax_code (mgT L xs) 144) 29 = .ok (.putfield 137, 3) := by
  show decode prog_11_method_18_code 29 = _
  decide +kernel
theorem d144_32 (L : Nat) (xs : Nat → Int32) : decode (ax_code (mgT L xs) 144) 32 = .ok (.iload_n 1, 1) := by
  show decode prog_11_method_18_code 32 = _
  decide +kernel
theorem d144_33 (L : Nat) (xs : Nat → Int32) : decode (ax_code (mgT L xs) 144) 33 = .ok (.bipush 9, 2) := by
  show decode prog_11_method_18_code 33 = _
  decide +kernel
theorem d144_35 (L : Nat) (xs : Nat → Int32) : decode (ax_code (mgT L xs) 144) 35 = .ok (.if_icmp .le 32, 3) := by
  show decode prog_11_method_18_code 35 = _
  decide +kernel
theorem d144_38 (L : Nat) (xs : Nat → Int32) : decode (ax_code (mgT L xs) 144) 38 = .ok (.aload_n 0, 1) := by
  show decode prog_11_method_18_code 38 = _
  decide +kernel
theorem d144_39 (L : Nat) (xs : Nat → Int32) : decode (ax_code (mgT L xs) 144) 39 = .ok (.getfield 43, 3) := by
  show decode prog_11_method_18_code 39 = _
  decide +kernel
theorem d144_42 (L : Nat) (xs : Nat → Int32) : decode (ax_code (mgT L xs) 144) 42 = .ok (.aload_n 0, 1) := by
  show decode prog_11_method_18_code 42 = _
  decide +kernel
theorem d144_43 (L : Nat) (xs : Nat → Int32) : decode (ax_code (mgT L xs) 144) 43 = .ok (.getfield 137, 3) := by
  show decode prog_11_method_18_code 43 = _
  decide +kernel
theorem d144_46 (L : Nat) (xs : Nat → Int32) : decode (ax_code (mgT L xs) 144) 46 = .ok (.bipush 48, 2) := by
  show decode prog_11_method_18_code 46 = _
  decide +kernel
theorem d144_48 (L : Nat) (xs : Nat → Int32) : decode (ax_code (mgT L xs) 144) 48 = .ok (.iload_n 1, 1) := by
  show decode prog_11_method_18_code 48 = _
  decide +kernel
theorem d144_49 (L : Nat) (xs : Nat → Int32) : decode (ax_code (mgT L xs) 144) 49 = .ok (.bipush 10, 2) := by
  show decode prog_11_method_18_code 49 = _
  decide +kernel
theorem d144_51 (L : Nat) (xs : Nat → Int32) : decode (ax_code (mgT L xs) 144) 51 = .ok (.idiv, 1) := by
  show decode prog_11_method_18_code 51 = _
  decide +kernel
theorem d144_52 (L : Nat) (xs : Nat → Int32) : decode (ax_code (mgT L xs) 144) 52 = .ok (.bipush 10, 2) := by
  show decode prog_11_method_18_code 52 = _
  decide +kernel
theorem d144_54 (L : Nat) (xs : Nat → Int32) : decode (ax_code (mgT L xs) 144) 54 = .ok (.irem, 1) := by
  show decode prog_11_method_18_code 54 = _
  decide +kernel
theorem d144_55 (L : Nat) (xs : Nat → Int32) : decode (ax_code (mgT L xs) 144) 55 = .ok (.iadd, 1) := by
  show decode prog_11_method_18_code 55 = _
  decide +kernel
theorem d144_56 (L : Nat) (xs : Nat → Int32) : decode (ax_code (mgT L xs) 144) 56 = .ok (.iastore, 1) := by
  show decode prog_11_method_18_code 56 = _
  decide +kernel
theorem d144_57 (L : Nat) (xs : Nat → Int32) : decode (ax_code (mgT L xs) 144) 57 = .ok (.aload_n 0, 1) := by
  show decode prog_11_method_18_code 57 = _
  decide +kernel
theorem d144_58 (L : Nat) (xs : Nat → Int32) : decode (ax_code (mgT L xs) 144) 58 = .ok (.dup, 1) := by
  show decode prog_11_method_18_code 58 = _
  decide +kernel
theorem d144_59 (L : Nat) (xs : Nat → Int32) : decode (ax_code (mgT L xs) 144) 59 = .ok (.getfield 137, 3) := by
  show decode prog_11_method_18_code 59 = _
  decide +kernel
theorem d144_62 (L : Nat) (xs : Nat → Int32) : decode (ax_code (mgT L xs) 144) 62 = .ok (.iconst 1, 1) := by
  show decode prog_11_method_18_code 62 = _
  decide +kernel
theorem d144_63 (L : Nat) (xs : Nat → Int32) : decode (ax_code (mgT L xs) 144) 63 = .ok (.iadd, 1) := by
  show decode prog_11_method_18_code 63 = _
  decide +kernel
theorem d144_64 (L : Nat) (xs : Nat → Int32) : decode (ax_code (mgT L xs) 144) 64 = .ok (.putfield 137, 3) := by
  show decode prog_11_method_18_code 64 = _
  decide +kernel
theorem d144_67 (L : Nat) (xs : Nat → Int32) : decode (ax_code (mgT L xs) 144) 67 = .ok (.aload_n 0, 1) := by
  show decode prog_11_method_18_code 67 = _
  decide +kernel
theorem d144_68 (L : Nat) (xs : Nat → Int32) : decode (ax_code (mgT L xs) 144) 68 = .ok (.getfield 43, 3) := by
  show decode prog_11_method_18_code 68 = _
  decide +kernel
theorem d144_71 (L : Nat) (xs : Nat → Int32) : decode (ax_code (mgT L xs) 144) 71 = .ok (.aload_n 0, 1) := by
  show decode prog_11_method_18_code 71 = _
  decide +kernel
theorem d144_72 (L : Nat) (xs : Nat → Int32) : decode (ax_code (mgT L xs) 144) 72 = .ok (.getfield 137, 3) := by
  show decode prog_11_method_18_code 72 = _
  decide +kernel
theorem d144_75 (L : Nat) (xs : Nat → Int32) : decode (ax_code (mgT L xs) 144) 75 = .ok (.bipush 48, 2) := by
  show decode prog_11_method_18_code 75 = _
  decide +kernel
theorem d144_77 (L : Nat) (xs : Nat → Int32) : decode (ax_code (mgT L xs) 144) 77 = .ok (.iload_n 1, 1) := by
  show decode prog_11_method_18_code 77 = _
  decide +kernel
theorem d144_78 (L : Nat) (xs : Nat → Int32) : decode (ax_code (mgT L xs) 144) 78 = .ok (.bipush 10, 2) := by
  show decode prog_11_method_18_code 78 = _
  decide +kernel
theorem d144_80 (L : Nat) (xs : Nat → Int32) : decode (ax_code (mgT L xs) 144) 80 = .ok (.irem, 1) := by
  show decode prog_11_method_18_code 80 = _
  decide +kernel
theorem d144_81 (L : Nat) (xs : Nat → Int32) : decode (ax_code (mgT L xs) 144) 81 = .ok (.iadd, 1) := by
  show decode prog_11_method_18_code 81 = _
  decide +kernel
theorem d144_82 (L : Nat) (xs : Nat → Int32) : decode (ax_code (mgT L xs) 144) 82 = .ok (.iastore, 1) := by
  show decode prog_11_method_18_code 82 = _
  decide +kernel
theorem d144_83 (L : Nat) (xs : Nat → Int32) : decode (ax_code (mgT L xs) 144) 83 = .ok (.aload_n 0, 1) := by
  show decode prog_11_method_18_code 83 = _
  decide +kernel
theorem d144_84 (L : Nat) (xs : Nat → Int32) : decode (ax_code (mgT L xs) 144) 84 = .ok (.dup, 1) := by
  show decode prog_11_method_18_code 84 = _
  decide +kernel
theorem d144_85 (L : Nat) (xs : Nat → Int32) : decode (ax_code (mgT L xs) 144) 85 = .ok (.getfield 137, 3) := by
  show decode prog_11_method_18_code 85 = _
  decide +kernel
theorem d144_88 (L : Nat) (xs : Nat → Int32) : decode (ax_code (mgT L xs) 144) 88 = .ok (.iconst 1, 1) := by
  show decode prog_11_method_18_code 88 = _
  decide +kernel
theorem d144_89 (L : Nat) (xs : Nat → Int32) : decode (ax_code (mgT L xs) 144) 89 = .ok (.iadd, 1) := by
  show decode prog_11_method_18_code 89 = _
  decide +kernel
theorem d144_90 (L : Nat) (xs : Nat → Int32) : decode (ax_code (mgT L xs) 144) 90 = .ok (.putfield 137, 3) := by
  show decode prog_11_method_18_code 90 = _
  decide +kernel
theorem d144_93 (L : Nat) (xs : Nat → Int32) : decode (ax_code (mgT L xs) 144) 93 = .ok (.return_, 1) := by
  show decode prog_11_method_18_code 93 = _
  decide +kernel
theorem okc1 {c : Nat} (h : c < 128) : okc [c] := fun x hx => by rw [List.mem_singleton.mp hx]; exact h
theorem gl_appl {A B : List Nat} {i : Nat} (h : i < A.length) : gl (A ++ B) i = gl A i := by
  unfold gl; simp [List.getD, List.getElem?_append_left h]
theorem holdA_app {s : mg_s} {a n c k : Nat} {x : Int32} {A : List Nat} (h : holdA s a 0 A) (hn : n = A.length) (hc : c < 128) : holdA (mg_I (mg_A s a n (nI c)) 141 k x) a 0 (A ++ [c]) := by
  subst hn
  refine ⟨okc_app h.1 (okc1 hc), fun i hi => ?_⟩
  rw [List.length_append] at hi
  change i < A.length + 1 at hi
  rw [Nat.zero_add]
  by_cases e : i = A.length
  · subst e; rw [gl_mid]; exact mA_at _ _ _ _
  · rw [gl_appl (by omega)]
    have := h.2 i (by omega)
    rw [Nat.zero_add] at this
    exact (mA_ne _ _ (Or.inr e)).trans this
theorem len_app1 (A : List Nat) (c : Nat) : (A ++ [c]).length = A.length + 1 := by rw [List.length_append]; rfl
theorem oct_s3 (x : Int32) : x >>> ((24 : Int32) &&& 31) &&& 255 = nI (oct x 3) := by rw [show (24 : Int32) = nI (8 * 3) from rfl]; exact (oct_lt x 3).2
theorem oct_s2 (x : Int32) : x >>> ((16 : Int32) &&& 31) &&& 255 = nI (oct x 2) := by rw [show (16 : Int32) = nI (8 * 2) from rfl]; exact (oct_lt x 2).2
theorem oct_s1 (x : Int32) : x >>> ((8 : Int32) &&& 31) &&& 255 = nI (oct x 1) := by rw [show (8 : Int32) = nI (8 * 1) from rfl]; exact (oct_lt x 1).2
theorem oct_s0 (x : Int32) : x >>> ((0 : Int32) &&& 31) &&& 255 = nI (oct x 0) := by rw [show (0 : Int32) = nI (8 * 0) from rfl]; exact (oct_lt x 0).2
section KS
variable {L : Nat} {xs : Nat → Int32} {d : Nat} {s : mg_s} {E : ckE} {A B : List Nat} {Q : Option Value → mg_s → Prop}
theorem md_put {c : Nat} (hc : c < 128) (hB : B.length < 1500) (h17 : s.1 141 17 = nI B.length) (hb : holdA s 151 0 B) : ca L xs (d + 1) 142 [.ref 141, .int (nI c)] s (fun r s' => r = none ∧ mfr s s' [17] [151] ∧ s'.1 141 17 = nI (B ++ [c]).length ∧ holdA s' 151 0 (B ++ [c])) := by
  refine wg_call (Nat.le_of_ble_eq_true rfl) ?_
  show wp L xs d 142 0 [some (.ref 141), some (.int (nI c))] [] s _
  refine wg_aload_n (d142_0 L xs) rfl ?_
  refine wg_get (d142_1 L xs) (kd := 1) (cj := 9) (k0 := 18) rfl (Or.inl rfl) (by decide) rfl rfl ?_
  refine wg_aload_n (d142_4 L xs) rfl ?_
  refine wg_get (d142_5 L xs) (kd := 1) (cj := 9) (k0 := 17) rfl (Or.inl rfl) (by decide) rfl rfl ?_
  refine wg_top (y := (nI B.length)) h17 ?_
  refine wg_iload_n (d142_8 L xs) rfl ?_
  refine wg_iast (d142_9 L xs) (n := 1500) (by decide) rfl (vp_in_nI (n := B.length) (by omega) (by omega)) rfl ?_
  rw [nI_nat (n := B.length) (by omega)]
  refine wg_aload_n (d142_10 L xs) rfl ?_
  refine wg_dup (d142_11 L xs) rfl ?_
  refine wg_get (d142_12 L xs) (kd := 1) (cj := 9) (k0 := 17) rfl (Or.inl rfl) (by decide) rfl rfl ?_
  refine wg_top (y := (nI B.length)) h17 ?_
  refine wg_iconst (d142_15 L xs) (x := 1) (by decide) ?_
  refine wg_iadd (d142_16 L xs) ?_
  refine wg_top (y := (nI (B.length + 1))) (nI_add B.length 1) ?_
  refine wg_puti (d142_17 L xs) (cj := 9) (k0 := 17) rfl (by decide) rfl (Nat.le_of_ble_eq_true rfl) rfl rfl rfl ?_
  exact wg_vret (d142_20 L xs) rfl ⟨rfl, (mfr_A s (by decide)).trans (mfr_I _ (by decide)), by rw [len_app1]; rfl, holdA_app hb rfl hc⟩
theorem md_srcn {v : Nat} (hv : v < 256) (hA : A.length ≤ 60) (h22 : s.1 141 22 = nI A.length) (hb : holdA s 153 0 A) : ca L xs (d + 1) 144 [.ref 141, .int (nI v)] s (fun r s' => r = none ∧ mfr s s' [22] [153] ∧ s'.1 141 22 = nI (A ++ f_byte v).length ∧ holdA s' 153 0 (A ++ f_byte v)) := by
  refine wg_call (Nat.le_of_ble_eq_true rfl) ?_
  show wp L xs d 144 0 [some (.ref 141), some (.int (nI v))] [] s _
  refine wg_iload_n (d144_0 L xs) rfl ?_
  refine wg_bipush (d144_1 L xs) (x := 99) (by decide) ?_
  refine wn_icmp_le (d144_3 L xs) (x := v) (y := 99) (by omega) (by omega) (t := 32) (by decide) (fun h1 => ?_) (fun h1 => ?_)
  · refine wg_iload_n (d144_32 L xs) rfl ?_
    refine wg_bipush (d144_33 L xs) (x := 9) (by decide) ?_
    refine wn_icmp_le (d144_35 L xs) (x := v) (y := 9) (by omega) (by omega) (t := 67) (by decide) (fun h2 => ?_) (fun h2 => ?_)
    · refine wg_aload_n (d144_67 L xs) rfl ?_
      refine wg_get (d144_68 L xs) (kd := 1) (cj := 9) (k0 := 21) rfl (Or.inl rfl) (by decide) rfl rfl ?_
      refine wg_aload_n (d144_71 L xs) rfl ?_
      refine wg_get (d144_72 L xs) (kd := 1) (cj := 9) (k0 := 22) rfl (Or.inl rfl) (by decide) rfl rfl ?_
      refine wg_top (y := (nI A.length)) h22 ?_
      refine wg_bipush (d144_75 L xs) (x := 48) (by decide) ?_
      refine wg_iload_n (d144_77 L xs) rfl ?_
      refine wg_bipush (d144_78 L xs) (x := 10) (by decide) ?_
      refine wg_irem (d144_80 L xs) (by decide) ?_
      refine wg_top (y := (nI (v % 10))) (rm_10 v hv) ?_
      refine wg_iadd (d144_81 L xs) ?_
      refine wg_top (y := (nI (48 + (v % 10)))) (nI_add 48 (v % 10)) ?_
      refine wg_iast (d144_82 L xs) (n := 64) (by decide) rfl (vp_in_nI (n := A.length) (by omega) (by omega)) rfl ?_
      rw [nI_nat (n := A.length) (by omega)]
      refine wg_aload_n (d144_83 L xs) rfl ?_
      refine wg_dup (d144_84 L xs) rfl ?_
      refine wg_get (d144_85 L xs) (kd := 1) (cj := 9) (k0 := 22) rfl (Or.inl rfl) (by decide) rfl rfl ?_
      refine wg_top (y := (nI A.length)) h22 ?_
      refine wg_iconst (d144_88 L xs) (x := 1) (by decide) ?_
      refine wg_iadd (d144_89 L xs) ?_
      refine wg_top (y := (nI (A.length + 1))) (nI_add A.length 1) ?_
      refine wg_puti (d144_90 L xs) (cj := 9) (k0 := 22) rfl (by decide) rfl (Nat.le_of_ble_eq_true rfl) rfl rfl rfl ?_
      exact wg_vret (d144_93 L xs) rfl ⟨rfl, ((mfr_A s (by decide)).trans (mfr_I _ (by decide))), by unfold f_byte; rw [if_neg (show ¬ 100 ≤ v by omega), if_neg (show ¬ 10 ≤ v by omega)]; rw [List.length_append]; rfl, by unfold f_byte; rw [if_neg (show ¬ 100 ≤ v by omega), if_neg (show ¬ 10 ≤ v by omega)]; have h := (holdA_app (c := 48 + v % 10) (k := 22) (x := nI (A.length + 1)) hb (by rfl) (by omega)); exact h⟩
    · refine wg_aload_n (d144_38 L xs) rfl ?_
      refine wg_get (d144_39 L xs) (kd := 1) (cj := 9) (k0 := 21) rfl (Or.inl rfl) (by decide) rfl rfl ?_
      refine wg_aload_n (d144_42 L xs) rfl ?_
      refine wg_get (d144_43 L xs) (kd := 1) (cj := 9) (k0 := 22) rfl (Or.inl rfl) (by decide) rfl rfl ?_
      refine wg_top (y := (nI A.length)) h22 ?_
      refine wg_bipush (d144_46 L xs) (x := 48) (by decide) ?_
      refine wg_iload_n (d144_48 L xs) rfl ?_
      refine wg_bipush (d144_49 L xs) (x := 10) (by decide) ?_
      refine wg_idiv (d144_51 L xs) (by decide) ?_
      refine wg_top (y := (nI (v / 10))) (dv_10 v hv) ?_
      refine wg_bipush (d144_52 L xs) (x := 10) (by decide) ?_
      refine wg_irem (d144_54 L xs) (by decide) ?_
      refine wg_top (y := (nI (v / 10 % 10))) (rm_10 (v / 10) (by omega)) ?_
      refine wg_iadd (d144_55 L xs) ?_
      refine wg_top (y := (nI (48 + (v / 10 % 10)))) (nI_add 48 (v / 10 % 10)) ?_
      refine wg_iast (d144_56 L xs) (n := 64) (by decide) rfl (vp_in_nI (n := A.length) (by omega) (by omega)) rfl ?_
      rw [nI_nat (n := A.length) (by omega)]
      refine wg_aload_n (d144_57 L xs) rfl ?_
      refine wg_dup (d144_58 L xs) rfl ?_
      refine wg_get (d144_59 L xs) (kd := 1) (cj := 9) (k0 := 22) rfl (Or.inl rfl) (by decide) rfl rfl ?_
      refine wg_top (y := (nI A.length)) h22 ?_
      refine wg_iconst (d144_62 L xs) (x := 1) (by decide) ?_
      refine wg_iadd (d144_63 L xs) ?_
      refine wg_top (y := (nI (A.length + 1))) (nI_add A.length 1) ?_
      refine wg_puti (d144_64 L xs) (cj := 9) (k0 := 22) rfl (by decide) rfl (Nat.le_of_ble_eq_true rfl) rfl rfl rfl ?_
      refine wg_aload_n (d144_67 L xs) rfl ?_
      refine wg_get (d144_68 L xs) (kd := 1) (cj := 9) (k0 := 21) rfl (Or.inl rfl) (by decide) rfl rfl ?_
      refine wg_aload_n (d144_71 L xs) rfl ?_
      refine wg_get (d144_72 L xs) (kd := 1) (cj := 9) (k0 := 22) rfl (Or.inl rfl) (by decide) rfl rfl ?_
      refine wg_top (y := (nI (A.length + 1))) rfl ?_
      refine wg_bipush (d144_75 L xs) (x := 48) (by decide) ?_
      refine wg_iload_n (d144_77 L xs) rfl ?_
      refine wg_bipush (d144_78 L xs) (x := 10) (by decide) ?_
      refine wg_irem (d144_80 L xs) (by decide) ?_
      refine wg_top (y := (nI (v % 10))) (rm_10 v hv) ?_
      refine wg_iadd (d144_81 L xs) ?_
      refine wg_top (y := (nI (48 + (v % 10)))) (nI_add 48 (v % 10)) ?_
      refine wg_iast (d144_82 L xs) (n := 64) (by decide) rfl (vp_in_nI (n := A.length + 1) (by omega) (by omega)) rfl ?_
      rw [nI_nat (n := A.length + 1) (by omega)]
      refine wg_aload_n (d144_83 L xs) rfl ?_
      refine wg_dup (d144_84 L xs) rfl ?_
      refine wg_get (d144_85 L xs) (kd := 1) (cj := 9) (k0 := 22) rfl (Or.inl rfl) (by decide) rfl rfl ?_
      refine wg_top (y := (nI (A.length + 1))) rfl ?_
      refine wg_iconst (d144_88 L xs) (x := 1) (by decide) ?_
      refine wg_iadd (d144_89 L xs) ?_
      refine wg_top (y := (nI (A.length + 2))) (nI_add (A.length + 1) 1) ?_
      refine wg_puti (d144_90 L xs) (cj := 9) (k0 := 22) rfl (by decide) rfl (Nat.le_of_ble_eq_true rfl) rfl rfl rfl ?_
      exact wg_vret (d144_93 L xs) rfl ⟨rfl, ((((mfr_A s (by decide)).trans (mfr_I _ (by decide))).trans (mfr_A _ (by decide))).trans (mfr_I _ (by decide))), by unfold f_byte; rw [if_neg (show ¬ 100 ≤ v by omega), if_pos (show 10 ≤ v by omega)]; rw [List.length_append]; rfl, by unfold f_byte; rw [if_neg (show ¬ 100 ≤ v by omega), if_pos (show 10 ≤ v by omega)]; have h := (holdA_app (c := 48 + v % 10) (k := 22) (x := nI (A.length + 2)) (holdA_app (c := 48 + v / 10 % 10) (k := 22) (x := nI (A.length + 1)) hb (by rfl) (by omega)) (by rw [len_app1]) (by omega)); simp only [List.append_assoc] at h; exact h⟩
  · refine wg_aload_n (d144_6 L xs) rfl ?_
    refine wg_get (d144_7 L xs) (kd := 1) (cj := 9) (k0 := 21) rfl (Or.inl rfl) (by decide) rfl rfl ?_
    refine wg_aload_n (d144_10 L xs) rfl ?_
    refine wg_get (d144_11 L xs) (kd := 1) (cj := 9) (k0 := 22) rfl (Or.inl rfl) (by decide) rfl rfl ?_
    refine wg_top (y := (nI A.length)) h22 ?_
    refine wg_bipush (d144_14 L xs) (x := 48) (by decide) ?_
    refine wg_iload_n (d144_16 L xs) rfl ?_
    refine wg_bipush (d144_17 L xs) (x := 100) (by decide) ?_
    refine wg_idiv (d144_19 L xs) (by decide) ?_
    refine wg_top (y := (nI (v / 100))) (dv_100 v hv) ?_
    refine wg_iadd (d144_20 L xs) ?_
    refine wg_top (y := (nI (48 + (v / 100)))) (nI_add 48 (v / 100)) ?_
    refine wg_iast (d144_21 L xs) (n := 64) (by decide) rfl (vp_in_nI (n := A.length) (by omega) (by omega)) rfl ?_
    rw [nI_nat (n := A.length) (by omega)]
    refine wg_aload_n (d144_22 L xs) rfl ?_
    refine wg_dup (d144_23 L xs) rfl ?_
    refine wg_get (d144_24 L xs) (kd := 1) (cj := 9) (k0 := 22) rfl (Or.inl rfl) (by decide) rfl rfl ?_
    refine wg_top (y := (nI A.length)) h22 ?_
    refine wg_iconst (d144_27 L xs) (x := 1) (by decide) ?_
    refine wg_iadd (d144_28 L xs) ?_
    refine wg_top (y := (nI (A.length + 1))) (nI_add A.length 1) ?_
    refine wg_puti (d144_29 L xs) (cj := 9) (k0 := 22) rfl (by decide) rfl (Nat.le_of_ble_eq_true rfl) rfl rfl rfl ?_
    refine wg_iload_n (d144_32 L xs) rfl ?_
    refine wg_bipush (d144_33 L xs) (x := 9) (by decide) ?_
    refine wn_icmp_le (d144_35 L xs) (x := v) (y := 9) (by omega) (by omega) (t := 67) (by decide) (fun h3 => ?_) (fun h3 => ?_)
    · refine wg_aload_n (d144_67 L xs) rfl ?_
      refine wg_get (d144_68 L xs) (kd := 1) (cj := 9) (k0 := 21) rfl (Or.inl rfl) (by decide) rfl rfl ?_
      refine wg_aload_n (d144_71 L xs) rfl ?_
      refine wg_get (d144_72 L xs) (kd := 1) (cj := 9) (k0 := 22) rfl (Or.inl rfl) (by decide) rfl rfl ?_
      refine wg_top (y := (nI (A.length + 1))) rfl ?_
      refine wg_bipush (d144_75 L xs) (x := 48) (by decide) ?_
      refine wg_iload_n (d144_77 L xs) rfl ?_
      refine wg_bipush (d144_78 L xs) (x := 10) (by decide) ?_
      refine wg_irem (d144_80 L xs) (by decide) ?_
      refine wg_top (y := (nI (v % 10))) (rm_10 v hv) ?_
      refine wg_iadd (d144_81 L xs) ?_
      refine wg_top (y := (nI (48 + (v % 10)))) (nI_add 48 (v % 10)) ?_
      refine wg_iast (d144_82 L xs) (n := 64) (by decide) rfl (vp_in_nI (n := A.length + 1) (by omega) (by omega)) rfl ?_
      rw [nI_nat (n := A.length + 1) (by omega)]
      refine wg_aload_n (d144_83 L xs) rfl ?_
      refine wg_dup (d144_84 L xs) rfl ?_
      refine wg_get (d144_85 L xs) (kd := 1) (cj := 9) (k0 := 22) rfl (Or.inl rfl) (by decide) rfl rfl ?_
      refine wg_top (y := (nI (A.length + 1))) rfl ?_
      refine wg_iconst (d144_88 L xs) (x := 1) (by decide) ?_
      refine wg_iadd (d144_89 L xs) ?_
      refine wg_top (y := (nI (A.length + 2))) (nI_add (A.length + 1) 1) ?_
      refine wg_puti (d144_90 L xs) (cj := 9) (k0 := 22) rfl (by decide) rfl (Nat.le_of_ble_eq_true rfl) rfl rfl rfl ?_
      exact wg_vret (d144_93 L xs) rfl (by exfalso; omega)
    · refine wg_aload_n (d144_38 L xs) rfl ?_
      refine wg_get (d144_39 L xs) (kd := 1) (cj := 9) (k0 := 21) rfl (Or.inl rfl) (by decide) rfl rfl ?_
      refine wg_aload_n (d144_42 L xs) rfl ?_
      refine wg_get (d144_43 L xs) (kd := 1) (cj := 9) (k0 := 22) rfl (Or.inl rfl) (by decide) rfl rfl ?_
      refine wg_top (y := (nI (A.length + 1))) rfl ?_
      refine wg_bipush (d144_46 L xs) (x := 48) (by decide) ?_
      refine wg_iload_n (d144_48 L xs) rfl ?_
      refine wg_bipush (d144_49 L xs) (x := 10) (by decide) ?_
      refine wg_idiv (d144_51 L xs) (by decide) ?_
      refine wg_top (y := (nI (v / 10))) (dv_10 v hv) ?_
      refine wg_bipush (d144_52 L xs) (x := 10) (by decide) ?_
      refine wg_irem (d144_54 L xs) (by decide) ?_
      refine wg_top (y := (nI (v / 10 % 10))) (rm_10 (v / 10) (by omega)) ?_
      refine wg_iadd (d144_55 L xs) ?_
      refine wg_top (y := (nI (48 + (v / 10 % 10)))) (nI_add 48 (v / 10 % 10)) ?_
      refine wg_iast (d144_56 L xs) (n := 64) (by decide) rfl (vp_in_nI (n := A.length + 1) (by omega) (by omega)) rfl ?_
      rw [nI_nat (n := A.length + 1) (by omega)]
      refine wg_aload_n (d144_57 L xs) rfl ?_
      refine wg_dup (d144_58 L xs) rfl ?_
      refine wg_get (d144_59 L xs) (kd := 1) (cj := 9) (k0 := 22) rfl (Or.inl rfl) (by decide) rfl rfl ?_
      refine wg_top (y := (nI (A.length + 1))) rfl ?_
      refine wg_iconst (d144_62 L xs) (x := 1) (by decide) ?_
      refine wg_iadd (d144_63 L xs) ?_
      refine wg_top (y := (nI (A.length + 2))) (nI_add (A.length + 1) 1) ?_
      refine wg_puti (d144_64 L xs) (cj := 9) (k0 := 22) rfl (by decide) rfl (Nat.le_of_ble_eq_true rfl) rfl rfl rfl ?_
      refine wg_aload_n (d144_67 L xs) rfl ?_
      refine wg_get (d144_68 L xs) (kd := 1) (cj := 9) (k0 := 21) rfl (Or.inl rfl) (by decide) rfl rfl ?_
      refine wg_aload_n (d144_71 L xs) rfl ?_
      refine wg_get (d144_72 L xs) (kd := 1) (cj := 9) (k0 := 22) rfl (Or.inl rfl) (by decide) rfl rfl ?_
      refine wg_top (y := (nI (A.length + 2))) rfl ?_
      refine wg_bipush (d144_75 L xs) (x := 48) (by decide) ?_
      refine wg_iload_n (d144_77 L xs) rfl ?_
      refine wg_bipush (d144_78 L xs) (x := 10) (by decide) ?_
      refine wg_irem (d144_80 L xs) (by decide) ?_
      refine wg_top (y := (nI (v % 10))) (rm_10 v hv) ?_
      refine wg_iadd (d144_81 L xs) ?_
      refine wg_top (y := (nI (48 + (v % 10)))) (nI_add 48 (v % 10)) ?_
      refine wg_iast (d144_82 L xs) (n := 64) (by decide) rfl (vp_in_nI (n := A.length + 2) (by omega) (by omega)) rfl ?_
      rw [nI_nat (n := A.length + 2) (by omega)]
      refine wg_aload_n (d144_83 L xs) rfl ?_
      refine wg_dup (d144_84 L xs) rfl ?_
      refine wg_get (d144_85 L xs) (kd := 1) (cj := 9) (k0 := 22) rfl (Or.inl rfl) (by decide) rfl rfl ?_
      refine wg_top (y := (nI (A.length + 2))) rfl ?_
      refine wg_iconst (d144_88 L xs) (x := 1) (by decide) ?_
      refine wg_iadd (d144_89 L xs) ?_
      refine wg_top (y := (nI (A.length + 3))) (nI_add (A.length + 2) 1) ?_
      refine wg_puti (d144_90 L xs) (cj := 9) (k0 := 22) rfl (by decide) rfl (Nat.le_of_ble_eq_true rfl) rfl rfl rfl ?_
      exact wg_vret (d144_93 L xs) rfl ⟨rfl, ((((((mfr_A s (by decide)).trans (mfr_I _ (by decide))).trans (mfr_A _ (by decide))).trans (mfr_I _ (by decide))).trans (mfr_A _ (by decide))).trans (mfr_I _ (by decide))), by unfold f_byte; rw [if_pos (show 100 ≤ v by omega)]; rw [List.length_append]; rfl, by unfold f_byte; rw [if_pos (show 100 ≤ v by omega)]; have h := (holdA_app (c := 48 + v % 10) (k := 22) (x := nI (A.length + 3)) (holdA_app (c := 48 + v / 10 % 10) (k := 22) (x := nI (A.length + 2)) (holdA_app (c := 48 + v / 100) (k := 22) (x := nI (A.length + 1)) hb (by rfl) (by omega)) (by rw [len_app1]) (by omega)) (by rw [len_app1, len_app1]) (by omega)); simp only [List.append_assoc] at h; exact h⟩
theorem md_fd_l {l : List Nat} {f : Nat} (hf : f < 13) (hcap : l.length ≤ 48) : ∀ (q k : Nat) (s : mg_s), k + q = l.length → holdA s 154 (48 * f) l → (∀ j, j < k → s.2.1 153 (0 + j) = nI (gl l j)) → (∀ s', mfr s s' [] [153] → holdA s' 153 0 l → (∀ j, j < 0 ∨ 0 + l.length ≤ j → s'.2.1 153 j = s.2.1 153 j) → wp L xs d 143 141 [some (.ref 141), some (.int 100), some (.int (nI f)), some (.int (nI l.length)), some (.int (nI l.length))] [] s' Q) → wp L xs d 143 94 [some (.ref 141), some (.int 100), some (.int (nI f)), some (.int (nI l.length)), some (.int (nI k))] [] s Q := by
  intro q
  induction q with
  | zero =>
    intro k s hk hsrc hdst kk
    have hk0 : k = l.length := by omega
    subst hk0
    refine wg_iload (d143_94 L xs) rfl ?_
    refine wg_iload_n (d143_96 L xs) rfl ?_
    refine wn_icmp_ge (d143_97 L xs) (x := l.length) (y := l.length) (by omega) (by omega) (t := 141) (by decide) (fun h1 => ?_) (fun h1 => by omega)
    exact kk s (mfr.rf s _ _) ⟨hsrc.1, hdst⟩ (fun _ _ => rfl)
  | succ q ih =>
    intro k s hk hsrc hdst kk
    have hgk := gl_lt hsrc.1 k
    refine wg_iload (d143_94 L xs) rfl ?_
    refine wg_iload_n (d143_96 L xs) rfl ?_
    refine wn_icmp_ge (d143_97 L xs) (x := k) (y := l.length) (by omega) (by omega) (t := 141) (by decide) (fun h1 => by omega) (fun h1 => ?_)
    refine wg_aload_n (d143_100 L xs) rfl ?_
    refine wg_get (d143_101 L xs) (kd := 1) (cj := 9) (k0 := 21) rfl (Or.inl rfl) (by decide) rfl rfl ?_
    refine wg_iload (d143_104 L xs) rfl ?_
    refine wg_iload_n (d143_106 L xs) rfl ?_
    refine wg_bipush (d143_107 L xs) (x := 100) (by decide) ?_
    refine wg_icmp_ne (d143_109 L xs) (t := 127) (by decide) (fun hp => absurd hp (by decide)) (fun _ => ?_)
    refine wg_aload_n (d143_112 L xs) rfl ?_
    refine wg_get (d143_113 L xs) (kd := 1) (cj := 9) (k0 := 24) rfl (Or.inl rfl) (by decide) rfl rfl ?_
    refine wg_bipush (d143_116 L xs) (x := 48) (by decide) ?_
    refine wg_iload_n (d143_118 L xs) rfl ?_
    refine wg_imul (d143_119 L xs) ?_
    refine wg_top (y := (nI (48 * f))) (pk_mul 48 f) ?_
    refine wg_iload (d143_120 L xs) rfl ?_
    refine wg_iadd (d143_122 L xs) ?_
    refine wg_top (y := (nI ((48 * f) + k))) (nI_add (48 * f) k) ?_
    refine wg_iald (d143_123 L xs) (n := 624) (by decide) rfl (vp_in_nI (n := (48 * f) + k) (by omega) (by omega)) ?_
    refine wg_top (y := (nI (gl l k))) (by rw [nI_nat (n := (48 * f) + k) (by omega)]; exact ((congrArg (s.2.1 154) (show (48 * f) + k = 48 * f + k by omega)).trans (hsrc.2 k (by omega)))) ?_
    refine wg_goto (d143_124 L xs) (t := 134) (by decide) ?_
    refine wg_iast (d143_134 L xs) (n := 64) (by decide) rfl (vp_in_nI (n := k) (by omega) (by omega)) rfl ?_
    rw [nI_nat (n := k) (by omega)]
    refine wg_iinc (d143_135 L xs) (y := (nI (k + 1))) (ls' := [some (.ref 141), some (.int 100), some (.int (nI f)), some (.int (nI l.length)), some (.int (nI (k + 1)))]) rfl (nI_add k 1) rfl ?_
    refine wg_goto (d143_138 L xs) (t := 94) (by decide) ?_
    refine ih (k + 1) _ (by omega) (holdA_A hsrc (by decide)) (fun j hj => ?_) (fun s' m1 m2 m3 => kk s' ((mfr_A s (by decide)).trans m1) m2 (fun j hj => (m3 j hj).trans (mA_ne _ _ (Or.inr (by omega)))))
    by_cases e : j = k
    · subst e; exact (congrArg ((mg_A s 153 j (nI (gl l j))).2.1 153) (show 0 + j = j by omega)).trans (mA_at _ _ _ _)
    · exact (mA_ne _ _ (Or.inr (by omega))).trans (hdst j (by omega))
theorem md_fo_l {l : List Nat} {f : Nat} (hcap : l.length ≤ 48) : ∀ (q k : Nat) (s : mg_s), k + q = l.length → holdA s 163 0 l → (∀ j, j < k → s.2.1 153 (0 + j) = nI (gl l j)) → (∀ s', mfr s s' [] [153] → holdA s' 153 0 l → (∀ j, j < 0 ∨ 0 + l.length ≤ j → s'.2.1 153 j = s.2.1 153 j) → wp L xs d 143 141 [some (.ref 141), some (.int 111), some (.int (nI f)), some (.int (nI l.length)), some (.int (nI l.length))] [] s' Q) → wp L xs d 143 94 [some (.ref 141), some (.int 111), some (.int (nI f)), some (.int (nI l.length)), some (.int (nI k))] [] s Q := by
  intro q
  induction q with
  | zero =>
    intro k s hk hsrc hdst kk
    have hk0 : k = l.length := by omega
    subst hk0
    refine wg_iload (d143_94 L xs) rfl ?_
    refine wg_iload_n (d143_96 L xs) rfl ?_
    refine wn_icmp_ge (d143_97 L xs) (x := l.length) (y := l.length) (by omega) (by omega) (t := 141) (by decide) (fun h1 => ?_) (fun h1 => by omega)
    exact kk s (mfr.rf s _ _) ⟨hsrc.1, hdst⟩ (fun _ _ => rfl)
  | succ q ih =>
    intro k s hk hsrc hdst kk
    have hgk := gl_lt hsrc.1 k
    refine wg_iload (d143_94 L xs) rfl ?_
    refine wg_iload_n (d143_96 L xs) rfl ?_
    refine wn_icmp_ge (d143_97 L xs) (x := k) (y := l.length) (by omega) (by omega) (t := 141) (by decide) (fun h1 => by omega) (fun h1 => ?_)
    refine wg_aload_n (d143_100 L xs) rfl ?_
    refine wg_get (d143_101 L xs) (kd := 1) (cj := 9) (k0 := 21) rfl (Or.inl rfl) (by decide) rfl rfl ?_
    refine wg_iload (d143_104 L xs) rfl ?_
    refine wg_iload_n (d143_106 L xs) rfl ?_
    refine wg_bipush (d143_107 L xs) (x := 100) (by decide) ?_
    refine wg_icmp_ne (d143_109 L xs) (t := 127) (by decide) (fun _ => ?_) (fun hn => absurd (by decide) hn)
    refine wg_aload_n (d143_127 L xs) rfl ?_
    refine wg_get (d143_128 L xs) (kd := 1) (cj := 9) (k0 := 42) rfl (Or.inl rfl) (by decide) rfl rfl ?_
    refine wg_iload (d143_131 L xs) rfl ?_
    refine wg_iald (d143_133 L xs) (n := 48) (by decide) rfl (vp_in_nI (n := k) (by omega) (by omega)) ?_
    refine wg_top (y := (nI (gl l k))) (by rw [nI_nat (n := k) (by omega)]; exact ((congrArg (s.2.1 163) (show k = 0 + k by omega)).trans (hsrc.2 k (by omega)))) ?_
    refine wg_iast (d143_134 L xs) (n := 64) (by decide) rfl (vp_in_nI (n := k) (by omega) (by omega)) rfl ?_
    rw [nI_nat (n := k) (by omega)]
    refine wg_iinc (d143_135 L xs) (y := (nI (k + 1))) (ls' := [some (.ref 141), some (.int 111), some (.int (nI f)), some (.int (nI l.length)), some (.int (nI (k + 1)))]) rfl (nI_add k 1) rfl ?_
    refine wg_goto (d143_138 L xs) (t := 94) (by decide) ?_
    refine ih (k + 1) _ (by omega) (holdA_A hsrc (by decide)) (fun j hj => ?_) (fun s' m1 m2 m3 => kk s' ((mfr_A s (by decide)).trans m1) m2 (fun j hj => (m3 j hj).trans (mA_ne _ _ (Or.inr (by omega)))))
    by_cases e : j = k
    · subst e; exact (congrArg ((mg_A s 153 j (nI (gl l j))).2.1 153) (show 0 + j = j by omega)).trans (mA_at _ _ _ _)
    · exact (mA_ne _ _ (Or.inr (by omega))).trans (hdst j (by omega))
theorem md_fetchd {l : List Nat} {f : Nat} (hf : f < 13) (hcap : l.length ≤ 48) (h23 : s.1 141 23 = nI (f + 1)) (h55 : s.2.1 155 f = nI l.length) (hl : holdA s 154 (48 * f) l) : ca L xs (d + 1) 143 [.ref 141, .int 100] s (fun r s' => r = none ∧ mfr s s' [22] [153] ∧ s'.1 141 22 = nI l.length ∧ holdA s' 153 0 l) := by
  refine wg_call (Nat.le_of_ble_eq_true rfl) ?_
  show wp L xs d 143 0 [some (.ref 141), some (.int 100), none, none, none] [] s _
  refine wg_aload_n (d143_0 L xs) rfl ?_
  refine wg_iconst (d143_1 L xs) (x := 0) (by decide) ?_
  refine wg_puti (d143_2 L xs) (cj := 9) (k0 := 22) rfl (by decide) rfl (Nat.le_of_ble_eq_true rfl) rfl rfl rfl ?_
  refine wg_aload_n (d143_5 L xs) rfl ?_
  refine wg_get (d143_6 L xs) (kd := 1) (cj := 9) (k0 := 23) rfl (Or.inl rfl) (by decide) rfl rfl ?_
  refine wg_top (y := (nI (f + 1))) h23 ?_
  refine wg_iconst (d143_9 L xs) (x := 1) (by decide) ?_
  refine wg_isub (d143_10 L xs) ?_
  refine wg_top (y := (nI f)) (pk_sub (a := f + 1) (b := 1) (by omega)) ?_
  refine wg_istore_n (d143_11 L xs) (ls' := [some (.ref 141), some (.int 100), some (.int (nI f)), none, none]) (Nat.le_of_ble_eq_true rfl) rfl ?_
  refine wg_iload_n (d143_12 L xs) rfl ?_
  refine wg_bipush (d143_13 L xs) (x := 105) (by decide) ?_
  refine wg_icmp_ne (d143_15 L xs) (t := 71) (by decide) (fun _ => ?_) (fun hn => absurd (by decide) hn)
  refine wg_iload_n (d143_71 L xs) rfl ?_
  refine wg_bipush (d143_72 L xs) (x := 100) (by decide) ?_
  refine wg_icmp_ne (d143_74 L xs) (t := 86) (by decide) (fun hp => absurd hp (by decide)) (fun _ => ?_)
  refine wg_aload_n (d143_77 L xs) rfl ?_
  refine wg_get (d143_78 L xs) (kd := 1) (cj := 9) (k0 := 25) rfl (Or.inl rfl) (by decide) rfl rfl ?_
  refine wg_iload_n (d143_81 L xs) rfl ?_
  refine wg_iald (d143_82 L xs) (n := 13) (by decide) rfl (vp_in_nI (n := f) (by omega) (by omega)) ?_
  refine wg_top (y := (nI l.length)) (by rw [nI_nat (n := f) (by omega)]; exact h55) ?_
  refine wg_goto (d143_83 L xs) (t := 90) (by decide) ?_
  refine wg_istore_n (d143_90 L xs) (ls' := [some (.ref 141), some (.int 100), some (.int (nI f)), some (.int (nI l.length)), none]) (Nat.le_of_ble_eq_true rfl) rfl ?_
  refine wg_iconst (d143_91 L xs) (x := 0) (by decide) ?_
  refine wg_istore (d143_92 L xs) (ls' := [some (.ref 141), some (.int 100), some (.int (nI f)), some (.int (nI l.length)), some (.int 0)]) (Nat.le_of_ble_eq_true rfl) rfl ?_
  refine md_fd_l hf hcap l.length 0 _ (by omega) (holdA_of hl rfl) (fun j hj => absurd hj (by omega)) (fun s' m1 m2 m3 => ?_)
  refine wg_aload_n (d143_141 L xs) rfl ?_
  refine wg_iload_n (d143_142 L xs) rfl ?_
  refine wg_puti (d143_143 L xs) (cj := 9) (k0 := 22) rfl (by decide) rfl (Nat.le_of_ble_eq_true rfl) rfl rfl rfl ?_
  exact wg_vret (d143_146 L xs) rfl ⟨rfl, ((mfr_I s (by decide)).trans (m1.more (by decide) (by decide))).trans (mfr_I _ (by decide)), rfl, holdA_of m2 rfl⟩
theorem md_fetcho {l : List Nat} {f : Nat} (hf : f < 13) (hcap : l.length ≤ 48) (h23 : s.1 141 23 = nI (f + 1)) (h41 : s.1 141 41 = nI l.length) (hl : holdA s 163 0 l) : ca L xs (d + 1) 143 [.ref 141, .int 111] s (fun r s' => r = none ∧ mfr s s' [22] [153] ∧ s'.1 141 22 = nI l.length ∧ holdA s' 153 0 l) := by
  refine wg_call (Nat.le_of_ble_eq_true rfl) ?_
  show wp L xs d 143 0 [some (.ref 141), some (.int 111), none, none, none] [] s _
  refine wg_aload_n (d143_0 L xs) rfl ?_
  refine wg_iconst (d143_1 L xs) (x := 0) (by decide) ?_
  refine wg_puti (d143_2 L xs) (cj := 9) (k0 := 22) rfl (by decide) rfl (Nat.le_of_ble_eq_true rfl) rfl rfl rfl ?_
  refine wg_aload_n (d143_5 L xs) rfl ?_
  refine wg_get (d143_6 L xs) (kd := 1) (cj := 9) (k0 := 23) rfl (Or.inl rfl) (by decide) rfl rfl ?_
  refine wg_top (y := (nI (f + 1))) h23 ?_
  refine wg_iconst (d143_9 L xs) (x := 1) (by decide) ?_
  refine wg_isub (d143_10 L xs) ?_
  refine wg_top (y := (nI f)) (pk_sub (a := f + 1) (b := 1) (by omega)) ?_
  refine wg_istore_n (d143_11 L xs) (ls' := [some (.ref 141), some (.int 111), some (.int (nI f)), none, none]) (Nat.le_of_ble_eq_true rfl) rfl ?_
  refine wg_iload_n (d143_12 L xs) rfl ?_
  refine wg_bipush (d143_13 L xs) (x := 105) (by decide) ?_
  refine wg_icmp_ne (d143_15 L xs) (t := 71) (by decide) (fun _ => ?_) (fun hn => absurd (by decide) hn)
  refine wg_iload_n (d143_71 L xs) rfl ?_
  refine wg_bipush (d143_72 L xs) (x := 100) (by decide) ?_
  refine wg_icmp_ne (d143_74 L xs) (t := 86) (by decide) (fun _ => ?_) (fun hn => absurd (by decide) hn)
  refine wg_aload_n (d143_86 L xs) rfl ?_
  refine wg_get (d143_87 L xs) (kd := 1) (cj := 9) (k0 := 41) rfl (Or.inl rfl) (by decide) rfl rfl ?_
  refine wg_top (y := (nI l.length)) h41 ?_
  refine wg_istore_n (d143_90 L xs) (ls' := [some (.ref 141), some (.int 111), some (.int (nI f)), some (.int (nI l.length)), none]) (Nat.le_of_ble_eq_true rfl) rfl ?_
  refine wg_iconst (d143_91 L xs) (x := 0) (by decide) ?_
  refine wg_istore (d143_92 L xs) (ls' := [some (.ref 141), some (.int 111), some (.int (nI f)), some (.int (nI l.length)), some (.int 0)]) (Nat.le_of_ble_eq_true rfl) rfl ?_
  refine md_fo_l hcap l.length 0 _ (by omega) (holdA_of hl rfl) (fun j hj => absurd hj (by omega)) (fun s' m1 m2 m3 => ?_)
  refine wg_aload_n (d143_141 L xs) rfl ?_
  refine wg_iload_n (d143_142 L xs) rfl ?_
  refine wg_puti (d143_143 L xs) (cj := 9) (k0 := 22) rfl (by decide) rfl (Nat.le_of_ble_eq_true rfl) rfl rfl rfl ?_
  exact wg_vret (d143_146 L xs) rfl ⟨rfl, ((mfr_I s (by decide)).trans (m1.more (by decide) (by decide))).trans (mfr_I _ (by decide)), rfl, holdA_of m2 rfl⟩
theorem md_fi_3 {adr : Int32} {f : Nat} {c4 : Option Value} (hA : A.length ≤ 50) (h22 : s.1 141 22 = nI A.length) (bh : holdA s 153 0 A) (h35 : s.1 141 35 = adr) (kk : ∀ s', mfr s s' [22] [153] → s'.1 141 22 = nI ((A ++ f_byte (oct adr 3)) ++ [46]).length → holdA s' 153 0 ((A ++ f_byte (oct adr 3)) ++ [46]) → wp L xs (d + 1) 143 21 [some (.ref 141), some (.int 105), some (.int (nI f)), some (.int 16), c4] [] s' Q) : wp L xs (d + 1) 143 21 [some (.ref 141), some (.int 105), some (.int (nI f)), some (.int 24), c4] [] s Q := by
  refine wg_iload_n (d143_21 L xs) rfl ?_
  refine wg_if_lt (d143_22 L xs) (t := 70) (by decide) (fun hp => absurd hp (by decide)) (fun _ => ?_)
  refine wg_aload_n (d143_25 L xs) rfl ?_
  refine wg_aload_n (d143_26 L xs) rfl ?_
  refine wg_get (d143_27 L xs) (kd := 1) (cj := 9) (k0 := 35) rfl (Or.inl rfl) (by decide) rfl rfl ?_
  refine wg_top (y := adr) h35 ?_
  refine wg_iload_n (d143_30 L xs) rfl ?_
  refine wg_ishr (d143_31 L xs) ?_
  refine wg_sipush (d143_32 L xs) (x := 255) (by decide) ?_
  refine wg_iand (d143_35 L xs) ?_
  refine wg_top (y := (nI (oct adr 3))) (oct_s3 adr) ?_
  refine wg_invv (d143_36 L xs) (kd := 7) (mj := 144) (n := 1) rfl (Or.inl rfl) (ys := [.int (nI (oct adr 3))]) (r := []) rfl rfl (by decide) rfl rfl (Nat.le_of_ble_eq_true rfl) (md_srcn (A := A) (v := oct adr 3) (oct_lt adr 3).1 (by omega) h22 bh) ?_
  rintro _ s1 ⟨rfl, m1, b22, bh1⟩
  have hCl : (A ++ f_byte (oct adr 3)).length ≤ A.length + 3 := by have := (f_byte_len (oct adr 3)).1; rw [List.length_append]; omega
  generalize hC : A ++ f_byte (oct adr 3) = C at *
  refine wg_iload_n (d143_39 L xs) rfl ?_
  refine wg_if_le (d143_40 L xs) (t := 64) (by decide) (fun hp => absurd hp (by decide)) (fun _ => ?_)
  refine wg_aload_n (d143_43 L xs) rfl ?_
  refine wg_get (d143_44 L xs) (kd := 1) (cj := 9) (k0 := 21) rfl (Or.inl rfl) (by decide) rfl rfl ?_
  refine wg_aload_n (d143_47 L xs) rfl ?_
  refine wg_get (d143_48 L xs) (kd := 1) (cj := 9) (k0 := 22) rfl (Or.inl rfl) (by decide) rfl rfl ?_
  refine wg_top (y := (nI C.length)) b22 ?_
  refine wg_bipush (d143_51 L xs) (x := 46) (by decide) ?_
  refine wg_iast (d143_53 L xs) (n := 64) (by decide) rfl (vp_in_nI (n := C.length) (by omega) (by omega)) rfl ?_
  rw [nI_nat (n := C.length) (by omega)]
  refine wg_aload_n (d143_54 L xs) rfl ?_
  refine wg_dup (d143_55 L xs) rfl ?_
  refine wg_get (d143_56 L xs) (kd := 1) (cj := 9) (k0 := 22) rfl (Or.inl rfl) (by decide) rfl rfl ?_
  refine wg_top (y := (nI C.length)) b22 ?_
  refine wg_iconst (d143_59 L xs) (x := 1) (by decide) ?_
  refine wg_iadd (d143_60 L xs) ?_
  refine wg_top (y := (nI (C.length + 1))) (nI_add C.length 1) ?_
  refine wg_puti (d143_61 L xs) (cj := 9) (k0 := 22) rfl (by decide) rfl (Nat.le_of_ble_eq_true rfl) rfl rfl rfl ?_
  refine wg_iinc (d143_64 L xs) (y := 16) (ls' := [some (.ref 141), some (.int 105), some (.int (nI f)), some (.int 16), c4]) rfl (by decide) rfl ?_
  refine wg_goto (d143_67 L xs) (t := 21) (by decide) ?_
  exact kk _ (m1.trans ((mfr_A _ (by decide)).trans (mfr_I _ (by decide)))) (by rw [len_app1]; rfl) (holdA_app (c := 46) bh1 rfl (by decide))
theorem md_fi_2 {adr : Int32} {f : Nat} {c4 : Option Value} (hA : A.length ≤ 50) (h22 : s.1 141 22 = nI A.length) (bh : holdA s 153 0 A) (h35 : s.1 141 35 = adr) (kk : ∀ s', mfr s s' [22] [153] → s'.1 141 22 = nI ((A ++ f_byte (oct adr 2)) ++ [46]).length → holdA s' 153 0 ((A ++ f_byte (oct adr 2)) ++ [46]) → wp L xs (d + 1) 143 21 [some (.ref 141), some (.int 105), some (.int (nI f)), some (.int 8), c4] [] s' Q) : wp L xs (d + 1) 143 21 [some (.ref 141), some (.int 105), some (.int (nI f)), some (.int 16), c4] [] s Q := by
  refine wg_iload_n (d143_21 L xs) rfl ?_
  refine wg_if_lt (d143_22 L xs) (t := 70) (by decide) (fun hp => absurd hp (by decide)) (fun _ => ?_)
  refine wg_aload_n (d143_25 L xs) rfl ?_
  refine wg_aload_n (d143_26 L xs) rfl ?_
  refine wg_get (d143_27 L xs) (kd := 1) (cj := 9) (k0 := 35) rfl (Or.inl rfl) (by decide) rfl rfl ?_
  refine wg_top (y := adr) h35 ?_
  refine wg_iload_n (d143_30 L xs) rfl ?_
  refine wg_ishr (d143_31 L xs) ?_
  refine wg_sipush (d143_32 L xs) (x := 255) (by decide) ?_
  refine wg_iand (d143_35 L xs) ?_
  refine wg_top (y := (nI (oct adr 2))) (oct_s2 adr) ?_
  refine wg_invv (d143_36 L xs) (kd := 7) (mj := 144) (n := 1) rfl (Or.inl rfl) (ys := [.int (nI (oct adr 2))]) (r := []) rfl rfl (by decide) rfl rfl (Nat.le_of_ble_eq_true rfl) (md_srcn (A := A) (v := oct adr 2) (oct_lt adr 2).1 (by omega) h22 bh) ?_
  rintro _ s1 ⟨rfl, m1, b22, bh1⟩
  have hCl : (A ++ f_byte (oct adr 2)).length ≤ A.length + 3 := by have := (f_byte_len (oct adr 2)).1; rw [List.length_append]; omega
  generalize hC : A ++ f_byte (oct adr 2) = C at *
  refine wg_iload_n (d143_39 L xs) rfl ?_
  refine wg_if_le (d143_40 L xs) (t := 64) (by decide) (fun hp => absurd hp (by decide)) (fun _ => ?_)
  refine wg_aload_n (d143_43 L xs) rfl ?_
  refine wg_get (d143_44 L xs) (kd := 1) (cj := 9) (k0 := 21) rfl (Or.inl rfl) (by decide) rfl rfl ?_
  refine wg_aload_n (d143_47 L xs) rfl ?_
  refine wg_get (d143_48 L xs) (kd := 1) (cj := 9) (k0 := 22) rfl (Or.inl rfl) (by decide) rfl rfl ?_
  refine wg_top (y := (nI C.length)) b22 ?_
  refine wg_bipush (d143_51 L xs) (x := 46) (by decide) ?_
  refine wg_iast (d143_53 L xs) (n := 64) (by decide) rfl (vp_in_nI (n := C.length) (by omega) (by omega)) rfl ?_
  rw [nI_nat (n := C.length) (by omega)]
  refine wg_aload_n (d143_54 L xs) rfl ?_
  refine wg_dup (d143_55 L xs) rfl ?_
  refine wg_get (d143_56 L xs) (kd := 1) (cj := 9) (k0 := 22) rfl (Or.inl rfl) (by decide) rfl rfl ?_
  refine wg_top (y := (nI C.length)) b22 ?_
  refine wg_iconst (d143_59 L xs) (x := 1) (by decide) ?_
  refine wg_iadd (d143_60 L xs) ?_
  refine wg_top (y := (nI (C.length + 1))) (nI_add C.length 1) ?_
  refine wg_puti (d143_61 L xs) (cj := 9) (k0 := 22) rfl (by decide) rfl (Nat.le_of_ble_eq_true rfl) rfl rfl rfl ?_
  refine wg_iinc (d143_64 L xs) (y := 8) (ls' := [some (.ref 141), some (.int 105), some (.int (nI f)), some (.int 8), c4]) rfl (by decide) rfl ?_
  refine wg_goto (d143_67 L xs) (t := 21) (by decide) ?_
  exact kk _ (m1.trans ((mfr_A _ (by decide)).trans (mfr_I _ (by decide)))) (by rw [len_app1]; rfl) (holdA_app (c := 46) bh1 rfl (by decide))
theorem md_fi_1 {adr : Int32} {f : Nat} {c4 : Option Value} (hA : A.length ≤ 50) (h22 : s.1 141 22 = nI A.length) (bh : holdA s 153 0 A) (h35 : s.1 141 35 = adr) (kk : ∀ s', mfr s s' [22] [153] → s'.1 141 22 = nI ((A ++ f_byte (oct adr 1)) ++ [46]).length → holdA s' 153 0 ((A ++ f_byte (oct adr 1)) ++ [46]) → wp L xs (d + 1) 143 21 [some (.ref 141), some (.int 105), some (.int (nI f)), some (.int 0), c4] [] s' Q) : wp L xs (d + 1) 143 21 [some (.ref 141), some (.int 105), some (.int (nI f)), some (.int 8), c4] [] s Q := by
  refine wg_iload_n (d143_21 L xs) rfl ?_
  refine wg_if_lt (d143_22 L xs) (t := 70) (by decide) (fun hp => absurd hp (by decide)) (fun _ => ?_)
  refine wg_aload_n (d143_25 L xs) rfl ?_
  refine wg_aload_n (d143_26 L xs) rfl ?_
  refine wg_get (d143_27 L xs) (kd := 1) (cj := 9) (k0 := 35) rfl (Or.inl rfl) (by decide) rfl rfl ?_
  refine wg_top (y := adr) h35 ?_
  refine wg_iload_n (d143_30 L xs) rfl ?_
  refine wg_ishr (d143_31 L xs) ?_
  refine wg_sipush (d143_32 L xs) (x := 255) (by decide) ?_
  refine wg_iand (d143_35 L xs) ?_
  refine wg_top (y := (nI (oct adr 1))) (oct_s1 adr) ?_
  refine wg_invv (d143_36 L xs) (kd := 7) (mj := 144) (n := 1) rfl (Or.inl rfl) (ys := [.int (nI (oct adr 1))]) (r := []) rfl rfl (by decide) rfl rfl (Nat.le_of_ble_eq_true rfl) (md_srcn (A := A) (v := oct adr 1) (oct_lt adr 1).1 (by omega) h22 bh) ?_
  rintro _ s1 ⟨rfl, m1, b22, bh1⟩
  have hCl : (A ++ f_byte (oct adr 1)).length ≤ A.length + 3 := by have := (f_byte_len (oct adr 1)).1; rw [List.length_append]; omega
  generalize hC : A ++ f_byte (oct adr 1) = C at *
  refine wg_iload_n (d143_39 L xs) rfl ?_
  refine wg_if_le (d143_40 L xs) (t := 64) (by decide) (fun hp => absurd hp (by decide)) (fun _ => ?_)
  refine wg_aload_n (d143_43 L xs) rfl ?_
  refine wg_get (d143_44 L xs) (kd := 1) (cj := 9) (k0 := 21) rfl (Or.inl rfl) (by decide) rfl rfl ?_
  refine wg_aload_n (d143_47 L xs) rfl ?_
  refine wg_get (d143_48 L xs) (kd := 1) (cj := 9) (k0 := 22) rfl (Or.inl rfl) (by decide) rfl rfl ?_
  refine wg_top (y := (nI C.length)) b22 ?_
  refine wg_bipush (d143_51 L xs) (x := 46) (by decide) ?_
  refine wg_iast (d143_53 L xs) (n := 64) (by decide) rfl (vp_in_nI (n := C.length) (by omega) (by omega)) rfl ?_
  rw [nI_nat (n := C.length) (by omega)]
  refine wg_aload_n (d143_54 L xs) rfl ?_
  refine wg_dup (d143_55 L xs) rfl ?_
  refine wg_get (d143_56 L xs) (kd := 1) (cj := 9) (k0 := 22) rfl (Or.inl rfl) (by decide) rfl rfl ?_
  refine wg_top (y := (nI C.length)) b22 ?_
  refine wg_iconst (d143_59 L xs) (x := 1) (by decide) ?_
  refine wg_iadd (d143_60 L xs) ?_
  refine wg_top (y := (nI (C.length + 1))) (nI_add C.length 1) ?_
  refine wg_puti (d143_61 L xs) (cj := 9) (k0 := 22) rfl (by decide) rfl (Nat.le_of_ble_eq_true rfl) rfl rfl rfl ?_
  refine wg_iinc (d143_64 L xs) (y := 0) (ls' := [some (.ref 141), some (.int 105), some (.int (nI f)), some (.int 0), c4]) rfl (by decide) rfl ?_
  refine wg_goto (d143_67 L xs) (t := 21) (by decide) ?_
  exact kk _ (m1.trans ((mfr_A _ (by decide)).trans (mfr_I _ (by decide)))) (by rw [len_app1]; rfl) (holdA_app (c := 46) bh1 rfl (by decide))
theorem md_fi_0 {adr : Int32} {f : Nat} {c4 : Option Value} (hA : A.length ≤ 50) (h22 : s.1 141 22 = nI A.length) (bh : holdA s 153 0 A) (h35 : s.1 141 35 = adr) (kk : ∀ s', mfr s s' [22] [153] → s'.1 141 22 = nI (A ++ f_byte (oct adr 0)).length → holdA s' 153 0 (A ++ f_byte (oct adr 0)) → Q none s') : wp L xs (d + 1) 143 21 [some (.ref 141), some (.int 105), some (.int (nI f)), some (.int 0), c4] [] s Q := by
  refine wg_iload_n (d143_21 L xs) rfl ?_
  refine wg_if_lt (d143_22 L xs) (t := 70) (by decide) (fun hp => absurd hp (by decide)) (fun _ => ?_)
  refine wg_aload_n (d143_25 L xs) rfl ?_
  refine wg_aload_n (d143_26 L xs) rfl ?_
  refine wg_get (d143_27 L xs) (kd := 1) (cj := 9) (k0 := 35) rfl (Or.inl rfl) (by decide) rfl rfl ?_
  refine wg_top (y := adr) h35 ?_
  refine wg_iload_n (d143_30 L xs) rfl ?_
  refine wg_ishr (d143_31 L xs) ?_
  refine wg_sipush (d143_32 L xs) (x := 255) (by decide) ?_
  refine wg_iand (d143_35 L xs) ?_
  refine wg_top (y := (nI (oct adr 0))) (oct_s0 adr) ?_
  refine wg_invv (d143_36 L xs) (kd := 7) (mj := 144) (n := 1) rfl (Or.inl rfl) (ys := [.int (nI (oct adr 0))]) (r := []) rfl rfl (by decide) rfl rfl (Nat.le_of_ble_eq_true rfl) (md_srcn (A := A) (v := oct adr 0) (oct_lt adr 0).1 (by omega) h22 bh) ?_
  rintro _ s1 ⟨rfl, m1, b22, bh1⟩
  have hCl : (A ++ f_byte (oct adr 0)).length ≤ A.length + 3 := by have := (f_byte_len (oct adr 0)).1; rw [List.length_append]; omega
  generalize hC : A ++ f_byte (oct adr 0) = C at *
  refine wg_iload_n (d143_39 L xs) rfl ?_
  refine wg_if_le (d143_40 L xs) (t := 64) (by decide) (fun _ => ?_) (fun hn => absurd (by decide) hn)
  refine wg_iinc (d143_64 L xs) (y := (-8)) (ls' := [some (.ref 141), some (.int 105), some (.int (nI f)), some (.int (-8)), c4]) rfl (by decide) rfl ?_
  refine wg_goto (d143_67 L xs) (t := 21) (by decide) ?_
  refine wg_iload_n (d143_21 L xs) rfl ?_
  refine wg_if_lt (d143_22 L xs) (t := 70) (by decide) (fun _ => ?_) (fun hn => absurd (by decide) hn)
  exact wg_vret (d143_70 L xs) rfl (kk s1 m1 b22 bh1)
theorem md_fetchi {adr : Int32} {f : Nat} (hf : f < 13) (h23 : s.1 141 23 = nI (f + 1)) (h35 : s.1 141 35 = adr) : ca L xs (d + 2) 143 [.ref 141, .int 105] s (fun r s' => r = none ∧ mfr s s' [22] [153] ∧ s'.1 141 22 = nI (f_adr adr).length ∧ holdA s' 153 0 (f_adr adr)) := by
  refine wg_call (Nat.le_of_ble_eq_true rfl) ?_
  show wp L xs (d + 1) 143 0 [some (.ref 141), some (.int 105), none, none, none] [] s _
  refine wg_aload_n (d143_0 L xs) rfl ?_
  refine wg_iconst (d143_1 L xs) (x := 0) (by decide) ?_
  refine wg_puti (d143_2 L xs) (cj := 9) (k0 := 22) rfl (by decide) rfl (Nat.le_of_ble_eq_true rfl) rfl rfl rfl ?_
  refine wg_aload_n (d143_5 L xs) rfl ?_
  refine wg_get (d143_6 L xs) (kd := 1) (cj := 9) (k0 := 23) rfl (Or.inl rfl) (by decide) rfl rfl ?_
  refine wg_top (y := (nI (f + 1))) h23 ?_
  refine wg_iconst (d143_9 L xs) (x := 1) (by decide) ?_
  refine wg_isub (d143_10 L xs) ?_
  refine wg_top (y := (nI f)) (pk_sub (a := f + 1) (b := 1) (by omega)) ?_
  refine wg_istore_n (d143_11 L xs) (ls' := [some (.ref 141), some (.int 105), some (.int (nI f)), none, none]) (Nat.le_of_ble_eq_true rfl) rfl ?_
  refine wg_iload_n (d143_12 L xs) rfl ?_
  refine wg_bipush (d143_13 L xs) (x := 105) (by decide) ?_
  refine wg_icmp_ne (d143_15 L xs) (t := 71) (by decide) (fun hp => absurd hp (by decide)) (fun _ => ?_)
  refine wg_bipush (d143_18 L xs) (x := 24) (by decide) ?_
  refine wg_istore_n (d143_20 L xs) (ls' := [some (.ref 141), some (.int 105), some (.int (nI f)), some (.int 24), none]) (Nat.le_of_ble_eq_true rfl) rfl ?_
  have hfl := fun k => (f_byte_len (oct adr k)).1
  have hf3 := hfl 3
  have hf2 := hfl 2
  have hf1 := hfl 1
  refine md_fi_3 (A := []) (by show 0 ≤ 50; omega) rfl ⟨fun x hx => absurd hx (by intro q; cases q), fun i hi => absurd hi (by show ¬ i < 0; omega)⟩ h35 (fun s1 m1 b1 h1 => ?_)
  refine md_fi_2 (by rw [len_app1, List.length_append]; show 0 + _ + 1 ≤ 50; omega) b1 h1 ((m1.2.1 35 (by decide)).trans h35) (fun s2 m2 b2 h2 => ?_)
  refine md_fi_1 (by rw [len_app1, List.length_append, len_app1, List.length_append]; show 0 + _ + 1 + _ + 1 ≤ 50; omega) b2 h2 ((m2.2.1 35 (by decide)).trans ((m1.2.1 35 (by decide)).trans h35)) (fun s3 m3 b3 h3 => ?_)
  refine md_fi_0 (by rw [len_app1, List.length_append, len_app1, List.length_append, len_app1, List.length_append]; show 0 + _ + 1 + _ + 1 + _ + 1 ≤ 50; omega) b3 h3 ((m3.2.1 35 (by decide)).trans ((m2.2.1 35 (by decide)).trans ((m1.2.1 35 (by decide)).trans h35))) (fun s4 m4 b4 h4 => ?_)
  exact ⟨rfl, ((((mfr_I s (by decide)).trans m1).trans m2).trans m3).trans m4, b4, h4⟩
end KS
