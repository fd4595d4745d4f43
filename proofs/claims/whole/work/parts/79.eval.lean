/-! the checker: a record gone through, a domain evaluated -/
theorem d51_0 (L : Nat) (xs : Nat → Int32) : decode (ax_code (mgT L xs) 51) 0 = .ok (.aload_n 0, 1) := by
  show decode prog_2_method_11_code 0 = _
  decide +kernel
theorem d51_1 (L : Nat) (xs : Nat → Int32) : decode (ax_code (mgT L xs) 51) 1 = .ok (.dup, 1) := by
  show decode prog_2_method_11_code 1 = _
  decide +kernel
theorem d51_2 (L : Nat) (xs : Nat → Int32) : decode (ax_code (mgT L xs) 51) 2 = .ok (.getfield 47, 3) := by
  show decode prog_2_method_11_code 2 = _
  decide +kernel
theorem d51_5 (L : Nat) (xs : Nat → Int32) : decode (ax_code (mgT L xs) 51) 5 = .ok (.iconst 1, 1) := by
  show decode prog_2_method_11_code 5 = _
  decide +kernel
theorem d51_6 (L : Nat) (xs : Nat → Int32) : decode (ax_code (mgT L xs) 51) 6 = .ok (.iadd, 1) := by
  show decode prog_2_method_11_code 6 = _
  decide +kernel
theorem d51_7 (L : Nat) (xs : Nat → Int32) : decode (ax_code (mgT L xs) 51) 7 = .ok (.putfield 47, 3) := by
  show decode prog_2_method_11_code 7 = _
  decide +kernel
theorem d51_10 (L : Nat) (xs : Nat → Int32) : decode (ax_code (mgT L xs) 51) 10 = .ok (.aload_n 0, 1) := by
  show decode prog_2_method_11_code 10 = _
  decide +kernel
theorem d51_11 (L : Nat) (xs : Nat → Int32) : decode (ax_code (mgT L xs) 51) 11 = .ok (.getfield 13, 3) := by
  show decode prog_2_method_11_code 11 = _
  decide +kernel
theorem d51_14 (L : Nat) (xs : Nat → Int32) : decode (ax_code (mgT L xs) 51) 14 = .ok (.iload_n 1, 1) := by
  show decode prog_2_method_11_code 14 = _
  decide +kernel
theorem d51_15 (L : Nat) (xs : Nat → Int32) : decode (ax_code (mgT L xs) 51) 15 = .ok (.aaload, 1) := by
  show decode prog_2_method_11_code 15 = _
  decide +kernel
theorem d51_16 (L : Nat) (xs : Nat → Int32) : decode (ax_code (mgT L xs) 51) 16 = .ok (.getfield 50, 3) := by
  show decode prog_2_method_11_code 16 = _
  decide +kernel
theorem d51_19 (L : Nat) (xs : Nat → Int32) : decode (ax_code (mgT L xs) 51) 19 = .ok (.astore_n 2, 1) := by
  show decode prog_2_method_11_code 19 = _
  decide +kernel
theorem d51_20 (L : Nat) (xs : Nat → Int32) : decode (ax_code (mgT L xs) 51) 20 = .ok (.aload_n 2, 1) := by
  show decode prog_2_method_11_code 20 = _
  decide +kernel
theorem d51_21 (L : Nat) (xs : Nat → Int32) : decode (ax_code (mgT L xs) 51) 21 = .ok (.iconst 1, 1) := by
  show decode prog_2_method_11_code 21 = _
  decide +kernel
theorem d51_22 (L : Nat) (xs : Nat → Int32) : decode (ax_code (mgT L xs) 51) 22 = .ok (.invokevirtual 83, 3) := by
  show decode prog_2_method_11_code 22 = _
  decide +kernel
theorem d51_25 (L : Nat) (xs : Nat → Int32) : decode (ax_code (mgT L xs) 51) 25 = .ok (.ifCond .ne 5, 3) := by
  show decode prog_2_method_11_code 25 = _
  decide +kernel
theorem d51_28 (L : Nat) (xs : Nat → Int32) : decode (ax_code (mgT L xs) 51) 28 = .ok (.iconst 0, 1) := by
  show decode prog_2_method_11_code 28 = _
  decide +kernel
theorem d51_29 (L : Nat) (xs : Nat → Int32) : decode (ax_code (mgT L xs) 51) 29 = .ok (.ireturn, 1) := by
  show decode prog_2_method_11_code 29 = _
  decide +kernel
theorem d51_30 (L : Nat) (xs : Nat → Int32) : decode (ax_code (mgT L xs) 51) 30 = .ok (.aload_n 0, 1) := by
  show decode prog_2_method_11_code 30 = _
  decide +kernel
theorem d51_31 (L : Nat) (xs : Nat → Int32) : decode (ax_code (mgT L xs) 51) 31 = .ok (.getfield 33, 3) := by
  show decode prog_2_method_11_code 31 = _
  decide +kernel
theorem d51_34 (L : Nat) (xs : Nat → Int32) : decode (ax_code (mgT L xs) 51) 34 = .ok (.aload_n 2, 1) := by
  show decode prog_2_method_11_code 34 = _
  decide +kernel
theorem d51_35 (L : Nat) (xs : Nat → Int32) : decode (ax_code (mgT L xs) 51) 35 = .ok (.iconst 2, 1) := by
  show decode prog_2_method_11_code 35 = _
  decide +kernel
theorem d51_36 (L : Nat) (xs : Nat → Int32) : decode (ax_code (mgT L xs) 51) 36 = .ok (.invokevirtual 87, 3) := by
  show decode prog_2_method_11_code 36 = _
  decide +kernel
theorem d51_39 (L : Nat) (xs : Nat → Int32) : decode (ax_code (mgT L xs) 51) 39 = .ok (.iconst (-1), 1) := by
  show decode prog_2_method_11_code 39 = _
  decide +kernel
theorem d51_40 (L : Nat) (xs : Nat → Int32) : decode (ax_code (mgT L xs) 51) 40 = .ok (.if_icmp .ne 5, 3) := by
  show decode prog_2_method_11_code 40 = _
  decide +kernel
theorem d51_43 (L : Nat) (xs : Nat → Int32) : decode (ax_code (mgT L xs) 51) 43 = .ok (.iconst 5, 1) := by
  show decode prog_2_method_11_code 43 = _
  decide +kernel
theorem d51_44 (L : Nat) (xs : Nat → Int32) : decode (ax_code (mgT L xs) 51) 44 = .ok (.ireturn, 1) := by
  show decode prog_2_method_11_code 44 = _
  decide +kernel
theorem d51_45 (L : Nat) (xs : Nat → Int32) : decode (ax_code (mgT L xs) 51) 45 = .ok (.aconst_null, 1) := by
  show decode prog_2_method_11_code 45 = _
  decide +kernel
theorem d51_46 (L : Nat) (xs : Nat → Int32) : decode (ax_code (mgT L xs) 51) 46 = .ok (.astore_n 3, 1) := by
  show decode prog_2_method_11_code 46 = _
  decide +kernel
theorem d51_47 (L : Nat) (xs : Nat → Int32) : decode (ax_code (mgT L xs) 51) 47 = .ok (.iconst 0, 1) := by
  show decode prog_2_method_11_code 47 = _
  decide +kernel
theorem d51_48 (L : Nat) (xs : Nat → Int32) : decode (ax_code (mgT L xs) 51) 48 = .ok (.istore 4, 2) := by
  show decode prog_2_method_11_code 48 = _
  decide +kernel
theorem d51_50 (L : Nat) (xs : Nat → Int32) : decode (ax_code (mgT L xs) 51) 50 = .ok (.iload 4, 2) := by
  show decode prog_2_method_11_code 50 = _
  decide +kernel
theorem d51_52 (L : Nat) (xs : Nat → Int32) : decode (ax_code (mgT L xs) 51) 52 = .ok (.aload_n 0, 1) := by
  show decode prog_2_method_11_code 52 = _
  decide +kernel
theorem d51_53 (L : Nat) (xs : Nat → Int32) : decode (ax_code (mgT L xs) 51) 53 = .ok (.getfield 33, 3) := by
  show decode prog_2_method_11_code 53 = _
  decide +kernel
theorem d51_56 (L : Nat) (xs : Nat → Int32) : decode (ax_code (mgT L xs) 51) 56 = .ok (.invokevirtual 91, 3) := by
  show decode prog_2_method_11_code 56 = _
  decide +kernel
theorem d51_59 (L : Nat) (xs : Nat → Int32) : decode (ax_code (mgT L xs) 51) 59 = .ok (.if_icmp .ge 56, 3) := by
  show decode prog_2_method_11_code 59 = _
  decide +kernel
theorem d51_62 (L : Nat) (xs : Nat → Int32) : decode (ax_code (mgT L xs) 51) 62 = .ok (.aload_n 0, 1) := by
  show decode prog_2_method_11_code 62 = _
  decide +kernel
theorem d51_63 (L : Nat) (xs : Nat → Int32) : decode (ax_code (mgT L xs) 51) 63 = .ok (.getfield 33, 3) := by
  show decode prog_2_method_11_code 63 = _
  decide +kernel
theorem d51_66 (L : Nat) (xs : Nat → Int32) : decode (ax_code (mgT L xs) 51) 66 = .ok (.iload 4, 2) := by
  show decode prog_2_method_11_code 66 = _
  decide +kernel
theorem d51_68 (L : Nat) (xs : Nat → Int32) : decode (ax_code (mgT L xs) 51) 68 = .ok (.invokevirtual 94, 3) := by
  show decode prog_2_method_11_code 68 = _
  decide +kernel
theorem d51_71 (L : Nat) (xs : Nat → Int32) : decode (ax_code (mgT L xs) 51) 71 = .ok (.astore 5, 2) := by
  show decode prog_2_method_11_code 71 = _
  decide +kernel
theorem d51_73 (L : Nat) (xs : Nat → Int32) : decode (ax_code (mgT L xs) 51) 73 = .ok (.aload 5, 2) := by
  show decode prog_2_method_11_code 73 = _
  decide +kernel
theorem d51_75 (L : Nat) (xs : Nat → Int32) : decode (ax_code (mgT L xs) 51) 75 = .ok (.ifnull 34, 3) := by
  show decode prog_2_method_11_code 75 = _
  decide +kernel
theorem d51_78 (L : Nat) (xs : Nat → Int32) : decode (ax_code (mgT L xs) 51) 78 = .ok (.aload 5, 2) := by
  show decode prog_2_method_11_code 78 = _
  decide +kernel
theorem d51_80 (L : Nat) (xs : Nat → Int32) : decode (ax_code (mgT L xs) 51) 80 = .ok (.iconst 2, 1) := by
  show decode prog_2_method_11_code 80 = _
  decide +kernel
theorem d51_81 (L : Nat) (xs : Nat → Int32) : decode (ax_code (mgT L xs) 51) 81 = .ok (.aload_n 2, 1) := by
  show decode prog_2_method_11_code 81 = _
  decide +kernel
theorem d51_82 (L : Nat) (xs : Nat → Int32) : decode (ax_code (mgT L xs) 51) 82 = .ok (.invokevirtual 98, 3) := by
  show decode prog_2_method_11_code 82 = _
  decide +kernel
theorem d51_85 (L : Nat) (xs : Nat → Int32) : decode (ax_code (mgT L xs) 51) 85 = .ok (.ifCond .eq 24, 3) := by
  show decode prog_2_method_11_code 85 = _
  decide +kernel
theorem d51_88 (L : Nat) (xs : Nat → Int32) : decode (ax_code (mgT L xs) 51) 88 = .ok (.aload 5, 2) := by
  show decode prog_2_method_11_code 88 = _
  decide +kernel
theorem d51_90 (L : Nat) (xs : Nat → Int32) : decode (ax_code (mgT L xs) 51) 90 = .ok (.getfield 104, 3) := by
  show decode prog_2_method_11_code 90 = _
  decide +kernel
theorem d51_93 (L : Nat) (xs : Nat → Int32) : decode (ax_code (mgT L xs) 51) 93 = .ok (.invokestatic 107, 3) := by
  show decode prog_2_method_11_code 93 = _
  decide +kernel
theorem d51_96 (L : Nat) (xs : Nat → Int32) : decode (ax_code (mgT L xs) 51) 96 = .ok (.ifCond .eq 13, 3) := by
  show decode prog_2_method_11_code 96 = _
  decide +kernel
theorem d51_99 (L : Nat) (xs : Nat → Int32) : decode (ax_code (mgT L xs) 51) 99 = .ok (.aload_n 3, 1) := by
  show decode prog_2_method_11_code 99 = _
  decide +kernel
theorem d51_100 (L : Nat) (xs : Nat → Int32) : decode (ax_code (mgT L xs) 51) 100 = .ok (.ifnull 6, 3) := by
  show decode prog_2_method_11_code 100 = _
  decide +kernel
theorem d51_103 (L : Nat) (xs : Nat → Int32) : decode (ax_code (mgT L xs) 51) 103 = .ok (.bipush 6, 2) := by
  show decode prog_2_method_11_code 103 = _
  decide +kernel
theorem d51_105 (L : Nat) (xs : Nat → Int32) : decode (ax_code (mgT L xs) 51) 105 = .ok (.ireturn, 1) := by
  show decode prog_2_method_11_code 105 = _
  decide +kernel
theorem d51_106 (L : Nat) (xs : Nat → Int32) : decode (ax_code (mgT L xs) 51) 106 = .ok (.aload 5, 2) := by
  show decode prog_2_method_11_code 106 = _
  decide +kernel
theorem d51_108 (L : Nat) (xs : Nat → Int32) : decode (ax_code (mgT L xs) 51) 108 = .ok (.astore_n 3, 1) := by
  show decode prog_2_method_11_code 108 = _
  decide +kernel
theorem d51_109 (L : Nat) (xs : Nat → Int32) : decode (ax_code (mgT L xs) 51) 109 = .ok (.iinc 4 1, 3) := by
  show decode prog_2_method_11_code 109 = _
  decide +kernel
theorem d51_112 (L : Nat) (xs : Nat → Int32) : decode (ax_code (mgT L xs) 51) 112 = .ok (.goto (-62), 3) := by
  show decode prog_2_method_11_code 112 = _
  decide +kernel
theorem d51_115 (L : Nat) (xs : Nat → Int32) : decode (ax_code (mgT L xs) 51) 115 = .ok (.aload_n 3, 1) := by
  show decode prog_2_method_11_code 115 = _
  decide +kernel
theorem d51_116 (L : Nat) (xs : Nat → Int32) : decode (ax_code (mgT L xs) 51) 116 = .ok (.ifnonnull 5, 3) := by
  show decode prog_2_method_11_code 116 = _
  decide +kernel
theorem d51_119 (L : Nat) (xs : Nat → Int32) : decode (ax_code (mgT L xs) 51) 119 = .ok (.iconst 0, 1) := by
  show decode prog_2_method_11_code 119 = _
  decide +kernel
theorem d51_120 (L : Nat) (xs : Nat → Int32) : decode (ax_code (mgT L xs) 51) 120 = .ok (.ireturn, 1) := by
  show decode prog_2_method_11_code 120 = _
  decide +kernel
theorem d51_121 (L : Nat) (xs : Nat → Int32) : decode (ax_code (mgT L xs) 51) 121 = .ok (.aload_n 3, 1) := by
  show decode prog_2_method_11_code 121 = _
  decide +kernel
theorem d51_122 (L : Nat) (xs : Nat → Int32) : decode (ax_code (mgT L xs) 51) 122 = .ok (.getfield 104, 3) := by
  show decode prog_2_method_11_code 122 = _
  decide +kernel
theorem d51_125 (L : Nat) (xs : Nat → Int32) : decode (ax_code (mgT L xs) 51) 125 = .ok (.aload_n 0, 1) := by
  show decode prog_2_method_11_code 125 = _
  decide +kernel
theorem d51_126 (L : Nat) (xs : Nat → Int32) : decode (ax_code (mgT L xs) 51) 126 = .ok (.getfield 13, 3) := by
  show decode prog_2_method_11_code 126 = _
  decide +kernel
theorem d51_129 (L : Nat) (xs : Nat → Int32) : decode (ax_code (mgT L xs) 51) 129 = .ok (.iload_n 1, 1) := by
  show decode prog_2_method_11_code 129 = _
  decide +kernel
theorem d51_130 (L : Nat) (xs : Nat → Int32) : decode (ax_code (mgT L xs) 51) 130 = .ok (.aaload, 1) := by
  show decode prog_2_method_11_code 130 = _
  decide +kernel
theorem d51_131 (L : Nat) (xs : Nat → Int32) : decode (ax_code (mgT L xs) 51) 131 = .ok (.getfield 111, 3) := by
  show decode prog_2_method_11_code 131 = _
  decide +kernel
theorem d51_134 (L : Nat) (xs : Nat → Int32) : decode (ax_code (mgT L xs) 51) 134 = .ok (.invokestatic 115, 3) := by
  show decode prog_2_method_11_code 134 = _
  decide +kernel
theorem d51_137 (L : Nat) (xs : Nat → Int32) : decode (ax_code (mgT L xs) 51) 137 = .ok (.ifCond .ne 6, 3) := by
  show decode prog_2_method_11_code 137 = _
  decide +kernel
theorem d51_140 (L : Nat) (xs : Nat → Int32) : decode (ax_code (mgT L xs) 51) 140 = .ok (.bipush 6, 2) := by
  show decode prog_2_method_11_code 140 = _
  decide +kernel
theorem d51_142 (L : Nat) (xs : Nat → Int32) : decode (ax_code (mgT L xs) 51) 142 = .ok (.ireturn, 1) := by
  show decode prog_2_method_11_code 142 = _
  decide +kernel
theorem d51_143 (L : Nat) (xs : Nat → Int32) : decode (ax_code (mgT L xs) 51) 143 = .ok (.aload_n 0, 1) := by
  show decode prog_2_method_11_code 143 = _
  decide +kernel
theorem d51_144 (L : Nat) (xs : Nat → Int32) : decode (ax_code (mgT L xs) 51) 144 = .ok (.aload_n 3, 1) := by
  show decode prog_2_method_11_code 144 = _
  decide +kernel
theorem d51_145 (L : Nat) (xs : Nat → Int32) : decode (ax_code (mgT L xs) 51) 145 = .ok (.getfield 104, 3) := by
  show decode prog_2_method_11_code 145 = _
  decide +kernel
theorem d51_148 (L : Nat) (xs : Nat → Int32) : decode (ax_code (mgT L xs) 51) 148 = .ok (.iload_n 1, 1) := by
  show decode prog_2_method_11_code 148 = _
  decide +kernel
theorem d51_149 (L : Nat) (xs : Nat → Int32) : decode (ax_code (mgT L xs) 51) 149 = .ok (.invokevirtual 119, 3) := by
  show decode prog_2_method_11_code 149 = _
  decide +kernel
theorem d51_152 (L : Nat) (xs : Nat → Int32) : decode (ax_code (mgT L xs) 51) 152 = .ok (.ireturn, 1) := by
  show decode prog_2_method_11_code 152 = _
  decide +kernel
theorem d70_0 (L : Nat) (xs : Nat → Int32) : decode (ax_code (mgT L xs) 70) 0 = .ok (.aload_n 0, 1) := by
  show decode prog_2_method_14_code 0 = _
  decide +kernel
theorem d70_1 (L : Nat) (xs : Nat → Int32) : decode (ax_code (mgT L xs) 70) 1 = .ok (.getfield 13, 3) := by
  show decode prog_2_method_14_code 1 = _
  decide +kernel
theorem d70_4 (L : Nat) (xs : Nat → Int32) : decode (ax_code (mgT L xs) 70) 4 = .ok (.iload_n 2, 1) := by
  show decode prog_2_method_14_code 4 = _
  decide +kernel
theorem d70_5 (L : Nat) (xs : Nat → Int32) : decode (ax_code (mgT L xs) 70) 5 = .ok (.aaload, 1) := by
  show decode prog_2_method_14_code 5 = _
  decide +kernel
theorem d70_6 (L : Nat) (xs : Nat → Int32) : decode (ax_code (mgT L xs) 70) 6 = .ok (.getfield 111, 3) := by
  show decode prog_2_method_14_code 6 = _
  decide +kernel
theorem d70_9 (L : Nat) (xs : Nat → Int32) : decode (ax_code (mgT L xs) 70) 9 = .ok (.astore_n 3, 1) := by
  show decode prog_2_method_14_code 9 = _
  decide +kernel
theorem d70_10 (L : Nat) (xs : Nat → Int32) : decode (ax_code (mgT L xs) 70) 10 = .ok (.iconst 0, 1) := by
  show decode prog_2_method_14_code 10 = _
  decide +kernel
theorem d70_11 (L : Nat) (xs : Nat → Int32) : decode (ax_code (mgT L xs) 70) 11 = .ok (.istore 4, 2) := by
  show decode prog_2_method_14_code 11 = _
  decide +kernel
theorem d70_13 (L : Nat) (xs : Nat → Int32) : decode (ax_code (mgT L xs) 70) 13 = .ok (.iconst 0, 1) := by
  show decode prog_2_method_14_code 13 = _
  decide +kernel
theorem d70_14 (L : Nat) (xs : Nat → Int32) : decode (ax_code (mgT L xs) 70) 14 = .ok (.istore 5, 2) := by
  show decode prog_2_method_14_code 14 = _
  decide +kernel
theorem d70_16 (L : Nat) (xs : Nat → Int32) : decode (ax_code (mgT L xs) 70) 16 = .ok (.iconst 0, 1) := by
  show decode prog_2_method_14_code 16 = _
  decide +kernel
theorem d70_17 (L : Nat) (xs : Nat → Int32) : decode (ax_code (mgT L xs) 70) 17 = .ok (.istore 6, 2) := by
  show decode prog_2_method_14_code 17 = _
  decide +kernel
theorem d70_19 (L : Nat) (xs : Nat → Int32) : decode (ax_code (mgT L xs) 70) 19 = .ok (.ldc 122, 2) := by
  show decode prog_2_method_14_code 19 = _
  decide +kernel
theorem d70_21 (L : Nat) (xs : Nat → Int32) : decode (ax_code (mgT L xs) 70) 21 = .ok (.invokevirtual 124, 3) := by
  show decode prog_2_method_14_code 21 = _
  decide +kernel
theorem d70_24 (L : Nat) (xs : Nat → Int32) : decode (ax_code (mgT L xs) 70) 24 = .ok (.istore 7, 2) := by
  show decode prog_2_method_14_code 24 = _
  decide +kernel
theorem d70_26 (L : Nat) (xs : Nat → Int32) : decode (ax_code (mgT L xs) 70) 26 = .ok (.iload 7, 2) := by
  show decode prog_2_method_14_code 26 = _
  decide +kernel
theorem d70_28 (L : Nat) (xs : Nat → Int32) : decode (ax_code (mgT L xs) 70) 28 = .ok (.istore 8, 2) := by
  show decode prog_2_method_14_code 28 = _
  decide +kernel
theorem d70_30 (L : Nat) (xs : Nat → Int32) : decode (ax_code (mgT L xs) 70) 30 = .ok (.iload 8, 2) := by
  show decode prog_2_method_14_code 30 = _
  decide +kernel
theorem d70_32 (L : Nat) (xs : Nat → Int32) : decode (ax_code (mgT L xs) 70) 32 = .ok (.aload_n 1, 1) := by
  show decode prog_2_method_14_code 32 = _
  decide +kernel
theorem d70_33 (L : Nat) (xs : Nat → Int32) : decode (ax_code (mgT L xs) 70) 33 = .ok (.invokevirtual 70, 3) := by
  show decode prog_2_method_14_code 33 = _
  decide +kernel
theorem d70_36 (L : Nat) (xs : Nat → Int32) : decode (ax_code (mgT L xs) 70) 36 = .ok (.if_icmp .gt 133, 3) := by
  show decode prog_2_method_14_code 36 = _
  decide +kernel
theorem d70_39 (L : Nat) (xs : Nat → Int32) : decode (ax_code (mgT L xs) 70) 39 = .ok (.iload 8, 2) := by
  show decode prog_2_method_14_code 39 = _
  decide +kernel
theorem d70_41 (L : Nat) (xs : Nat → Int32) : decode (ax_code (mgT L xs) 70) 41 = .ok (.aload_n 1, 1) := by
  show decode prog_2_method_14_code 41 = _
  decide +kernel
theorem d70_42 (L : Nat) (xs : Nat → Int32) : decode (ax_code (mgT L xs) 70) 42 = .ok (.invokevirtual 70, 3) := by
  show decode prog_2_method_14_code 42 = _
  decide +kernel
theorem d70_45 (L : Nat) (xs : Nat → Int32) : decode (ax_code (mgT L xs) 70) 45 = .ok (.if_icmp .eq 14, 3) := by
  show decode prog_2_method_14_code 45 = _
  decide +kernel
theorem d70_48 (L : Nat) (xs : Nat → Int32) : decode (ax_code (mgT L xs) 70) 48 = .ok (.aload_n 1, 1) := by
  show decode prog_2_method_14_code 48 = _
  decide +kernel
theorem d70_49 (L : Nat) (xs : Nat → Int32) : decode (ax_code (mgT L xs) 70) 49 = .ok (.iload 8, 2) := by
  show decode prog_2_method_14_code 49 = _
  decide +kernel
theorem d70_51 (L : Nat) (xs : Nat → Int32) : decode (ax_code (mgT L xs) 70) 51 = .ok (.invokevirtual 139, 3) := by
  show decode prog_2_method_14_code 51 = _
  decide +kernel
theorem d70_54 (L : Nat) (xs : Nat → Int32) : decode (ax_code (mgT L xs) 70) 54 = .ok (.bipush 32, 2) := by
  show decode prog_2_method_14_code 54 = _
  decide +kernel
theorem d70_56 (L : Nat) (xs : Nat → Int32) : decode (ax_code (mgT L xs) 70) 56 = .ok (.if_icmp .ne 107, 3) := by
  show decode prog_2_method_14_code 56 = _
  decide +kernel
theorem d70_59 (L : Nat) (xs : Nat → Int32) : decode (ax_code (mgT L xs) 70) 59 = .ok (.iload 7, 2) := by
  show decode prog_2_method_14_code 59 = _
  decide +kernel
theorem d70_61 (L : Nat) (xs : Nat → Int32) : decode (ax_code (mgT L xs) 70) 61 = .ok (.iload 8, 2) := by
  show decode prog_2_method_14_code 61 = _
  decide +kernel
theorem d70_63 (L : Nat) (xs : Nat → Int32) : decode (ax_code (mgT L xs) 70) 63 = .ok (.if_icmp .ge 94, 3) := by
  show decode prog_2_method_14_code 63 = _
  decide +kernel
theorem d70_66 (L : Nat) (xs : Nat → Int32) : decode (ax_code (mgT L xs) 70) 66 = .ok (.aload_n 3, 1) := by
  show decode prog_2_method_14_code 66 = _
  decide +kernel
theorem d70_67 (L : Nat) (xs : Nat → Int32) : decode (ax_code (mgT L xs) 70) 67 = .ok (.aload_n 1, 1) := by
  show decode prog_2_method_14_code 67 = _
  decide +kernel
theorem d70_68 (L : Nat) (xs : Nat → Int32) : decode (ax_code (mgT L xs) 70) 68 = .ok (.iload 7, 2) := by
  show decode prog_2_method_14_code 68 = _
  decide +kernel
theorem d70_70 (L : Nat) (xs : Nat → Int32) : decode (ax_code (mgT L xs) 70) 70 = .ok (.iload 8, 2) := by
  show decode prog_2_method_14_code 70 = _
  decide +kernel
theorem d70_72 (L : Nat) (xs : Nat → Int32) : decode (ax_code (mgT L xs) 70) 72 = .ok (.invokevirtual 142, 3) := by
  show decode prog_2_method_14_code 72 = _
  decide +kernel
theorem d70_75 (L : Nat) (xs : Nat → Int32) : decode (ax_code (mgT L xs) 70) 75 = .ok (.ifCond .eq 82, 3) := by
  show decode prog_2_method_14_code 75 = _
  decide +kernel
theorem d70_78 (L : Nat) (xs : Nat → Int32) : decode (ax_code (mgT L xs) 70) 78 = .ok (.aload_n 3, 1) := by
  show decode prog_2_method_14_code 78 = _
  decide +kernel
theorem d70_79 (L : Nat) (xs : Nat → Int32) : decode (ax_code (mgT L xs) 70) 79 = .ok (.invokevirtual 151, 3) := by
  show decode prog_2_method_14_code 79 = _
  decide +kernel
theorem d70_82 (L : Nat) (xs : Nat → Int32) : decode (ax_code (mgT L xs) 70) 82 = .ok (.ifCond .eq 54, 3) := by
  show decode prog_2_method_14_code 82 = _
  decide +kernel
theorem d70_85 (L : Nat) (xs : Nat → Int32) : decode (ax_code (mgT L xs) 70) 85 = .ok (.aload_n 0, 1) := by
  show decode prog_2_method_14_code 85 = _
  decide +kernel
theorem d70_86 (L : Nat) (xs : Nat → Int32) : decode (ax_code (mgT L xs) 70) 86 = .ok (.aload_n 1, 1) := by
  show decode prog_2_method_14_code 86 = _
  decide +kernel
theorem d70_87 (L : Nat) (xs : Nat → Int32) : decode (ax_code (mgT L xs) 70) 87 = .ok (.aload_n 3, 1) := by
  show decode prog_2_method_14_code 87 = _
  decide +kernel
theorem d70_88 (L : Nat) (xs : Nat → Int32) : decode (ax_code (mgT L xs) 70) 88 = .ok (.iload_n 2, 1) := by
  show decode prog_2_method_14_code 88 = _
  decide +kernel
theorem d70_89 (L : Nat) (xs : Nat → Int32) : decode (ax_code (mgT L xs) 70) 89 = .ok (.invokevirtual 155, 3) := by
  show decode prog_2_method_14_code 89 = _
  decide +kernel
theorem d70_92 (L : Nat) (xs : Nat → Int32) : decode (ax_code (mgT L xs) 70) 92 = .ok (.istore 9, 2) := by
  show decode prog_2_method_14_code 92 = _
  decide +kernel
theorem d70_94 (L : Nat) (xs : Nat → Int32) : decode (ax_code (mgT L xs) 70) 94 = .ok (.iload 9, 2) := by
  show decode prog_2_method_14_code 94 = _
  decide +kernel
theorem d70_96 (L : Nat) (xs : Nat → Int32) : decode (ax_code (mgT L xs) 70) 96 = .ok (.iconst 1, 1) := by
  show decode prog_2_method_14_code 96 = _
  decide +kernel
theorem d70_97 (L : Nat) (xs : Nat → Int32) : decode (ax_code (mgT L xs) 70) 97 = .ok (.if_icmp .ne 25, 3) := by
  show decode prog_2_method_14_code 97 = _
  decide +kernel
theorem d70_100 (L : Nat) (xs : Nat → Int32) : decode (ax_code (mgT L xs) 70) 100 = .ok (.aload_n 0, 1) := by
  show decode prog_2_method_14_code 100 = _
  decide +kernel
theorem d70_101 (L : Nat) (xs : Nat → Int32) : decode (ax_code (mgT L xs) 70) 101 = .ok (.iload_n 2, 1) := by
  show decode prog_2_method_14_code 101 = _
  decide +kernel
theorem d70_102 (L : Nat) (xs : Nat → Int32) : decode (ax_code (mgT L xs) 70) 102 = .ok (.ifCond .ne 8, 3) := by
  show decode prog_2_method_14_code 102 = _
  decide +kernel
theorem d70_105 (L : Nat) (xs : Nat → Int32) : decode (ax_code (mgT L xs) 70) 105 = .ok (.iload 4, 2) := by
  show decode prog_2_method_14_code 105 = _
  decide +kernel
theorem d70_107 (L : Nat) (xs : Nat → Int32) : decode (ax_code (mgT L xs) 70) 107 = .ok (.goto 7, 3) := by
  show decode prog_2_method_14_code 107 = _
  decide +kernel
theorem d70_110 (L : Nat) (xs : Nat → Int32) : decode (ax_code (mgT L xs) 70) 110 = .ok (.aload_n 0, 1) := by
  show decode prog_2_method_14_code 110 = _
  decide +kernel
theorem d70_111 (L : Nat) (xs : Nat → Int32) : decode (ax_code (mgT L xs) 70) 111 = .ok (.getfield 44, 3) := by
  show decode prog_2_method_14_code 111 = _
  decide +kernel
theorem d70_114 (L : Nat) (xs : Nat → Int32) : decode (ax_code (mgT L xs) 70) 114 = .ok (.putfield 44, 3) := by
  show decode prog_2_method_14_code 114 = _
  decide +kernel
theorem d70_117 (L : Nat) (xs : Nat → Int32) : decode (ax_code (mgT L xs) 70) 117 = .ok (.aload_n 3, 1) := by
  show decode prog_2_method_14_code 117 = _
  decide +kernel
theorem d70_118 (L : Nat) (xs : Nat → Int32) : decode (ax_code (mgT L xs) 70) 118 = .ok (.getfield 159, 3) := by
  show decode prog_2_method_14_code 118 = _
  decide +kernel
theorem d70_121 (L : Nat) (xs : Nat → Int32) : decode (ax_code (mgT L xs) 70) 121 = .ok (.ireturn, 1) := by
  show decode prog_2_method_14_code 121 = _
  decide +kernel
theorem d70_122 (L : Nat) (xs : Nat → Int32) : decode (ax_code (mgT L xs) 70) 122 = .ok (.iload 9, 2) := by
  show decode prog_2_method_14_code 122 = _
  decide +kernel
theorem d70_124 (L : Nat) (xs : Nat → Int32) : decode (ax_code (mgT L xs) 70) 124 = .ok (.ifCond .eq 6, 3) := by
  show decode prog_2_method_14_code 124 = _
  decide +kernel
theorem d70_127 (L : Nat) (xs : Nat → Int32) : decode (ax_code (mgT L xs) 70) 127 = .ok (.iload 9, 2) := by
  show decode prog_2_method_14_code 127 = _
  decide +kernel
theorem d70_129 (L : Nat) (xs : Nat → Int32) : decode (ax_code (mgT L xs) 70) 129 = .ok (.ireturn, 1) := by
  show decode prog_2_method_14_code 129 = _
  decide +kernel
theorem d70_130 (L : Nat) (xs : Nat → Int32) : decode (ax_code (mgT L xs) 70) 130 = .ok (.iinc 4 1, 3) := by
  show decode prog_2_method_14_code 130 = _
  decide +kernel
theorem d70_133 (L : Nat) (xs : Nat → Int32) : decode (ax_code (mgT L xs) 70) 133 = .ok (.goto 24, 3) := by
  show decode prog_2_method_14_code 133 = _
  decide +kernel
theorem d70_136 (L : Nat) (xs : Nat → Int32) : decode (ax_code (mgT L xs) 70) 136 = .ok (.aload_n 3, 1) := by
  show decode prog_2_method_14_code 136 = _
  decide +kernel
theorem d70_137 (L : Nat) (xs : Nat → Int32) : decode (ax_code (mgT L xs) 70) 137 = .ok (.getfield 148, 3) := by
  show decode prog_2_method_14_code 137 = _
  decide +kernel
theorem d70_140 (L : Nat) (xs : Nat → Int32) : decode (ax_code (mgT L xs) 70) 140 = .ok (.bipush 6, 2) := by
  show decode prog_2_method_14_code 140 = _
  decide +kernel
theorem d70_142 (L : Nat) (xs : Nat → Int32) : decode (ax_code (mgT L xs) 70) 142 = .ok (.if_icmp .ne 15, 3) := by
  show decode prog_2_method_14_code 142 = _
  decide +kernel
theorem d70_145 (L : Nat) (xs : Nat → Int32) : decode (ax_code (mgT L xs) 70) 145 = .ok (.aload_n 3, 1) := by
  show decode prog_2_method_14_code 145 = _
  decide +kernel
theorem d70_146 (L : Nat) (xs : Nat → Int32) : decode (ax_code (mgT L xs) 70) 146 = .ok (.getfield 160, 3) := by
  show decode prog_2_method_14_code 146 = _
  decide +kernel
theorem d70_149 (L : Nat) (xs : Nat → Int32) : decode (ax_code (mgT L xs) 70) 149 = .ok (.istore 5, 2) := by
  show decode prog_2_method_14_code 149 = _
  decide +kernel
theorem d70_151 (L : Nat) (xs : Nat → Int32) : decode (ax_code (mgT L xs) 70) 151 = .ok (.aload_n 3, 1) := by
  show decode prog_2_method_14_code 151 = _
  decide +kernel
theorem d70_152 (L : Nat) (xs : Nat → Int32) : decode (ax_code (mgT L xs) 70) 152 = .ok (.getfield 163, 3) := by
  show decode prog_2_method_14_code 152 = _
  decide +kernel
theorem d70_155 (L : Nat) (xs : Nat → Int32) : decode (ax_code (mgT L xs) 70) 155 = .ok (.istore 6, 2) := by
  show decode prog_2_method_14_code 155 = _
  decide +kernel
theorem d70_157 (L : Nat) (xs : Nat → Int32) : decode (ax_code (mgT L xs) 70) 157 = .ok (.iload 8, 2) := by
  show decode prog_2_method_14_code 157 = _
  decide +kernel
theorem d70_159 (L : Nat) (xs : Nat → Int32) : decode (ax_code (mgT L xs) 70) 159 = .ok (.iconst 1, 1) := by
  show decode prog_2_method_14_code 159 = _
  decide +kernel
theorem d70_160 (L : Nat) (xs : Nat → Int32) : decode (ax_code (mgT L xs) 70) 160 = .ok (.iadd, 1) := by
  show decode prog_2_method_14_code 160 = _
  decide +kernel
theorem d70_161 (L : Nat) (xs : Nat → Int32) : decode (ax_code (mgT L xs) 70) 161 = .ok (.istore 7, 2) := by
  show decode prog_2_method_14_code 161 = _
  decide +kernel
theorem d70_163 (L : Nat) (xs : Nat → Int32) : decode (ax_code (mgT L xs) 70) 163 = .ok (.iinc 8 1, 3) := by
  show decode prog_2_method_14_code 163 = _
  decide +kernel
theorem d70_166 (L : Nat) (xs : Nat → Int32) : decode (ax_code (mgT L xs) 70) 166 = .ok (.goto (-136), 3) := by
  show decode prog_2_method_14_code 166 = _
  decide +kernel
theorem d70_169 (L : Nat) (xs : Nat → Int32) : decode (ax_code (mgT L xs) 70) 169 = .ok (.iload 5, 2) := by
  show decode prog_2_method_14_code 169 = _
  decide +kernel
theorem d70_171 (L : Nat) (xs : Nat → Int32) : decode (ax_code (mgT L xs) 70) 171 = .ok (.iload 6, 2) := by
  show decode prog_2_method_14_code 171 = _
  decide +kernel
theorem d70_173 (L : Nat) (xs : Nat → Int32) : decode (ax_code (mgT L xs) 70) 173 = .ok (.if_icmp .ge 16, 3) := by
  show decode prog_2_method_14_code 173 = _
  decide +kernel
theorem d70_176 (L : Nat) (xs : Nat → Int32) : decode (ax_code (mgT L xs) 70) 176 = .ok (.aload_n 0, 1) := by
  show decode prog_2_method_14_code 176 = _
  decide +kernel
theorem d70_177 (L : Nat) (xs : Nat → Int32) : decode (ax_code (mgT L xs) 70) 177 = .ok (.aload_n 1, 1) := by
  show decode prog_2_method_14_code 177 = _
  decide +kernel
theorem d70_178 (L : Nat) (xs : Nat → Int32) : decode (ax_code (mgT L xs) 70) 178 = .ok (.iload 5, 2) := by
  show decode prog_2_method_14_code 178 = _
  decide +kernel
theorem d70_180 (L : Nat) (xs : Nat → Int32) : decode (ax_code (mgT L xs) 70) 180 = .ok (.iload 6, 2) := by
  show decode prog_2_method_14_code 180 = _
  decide +kernel
theorem d70_182 (L : Nat) (xs : Nat → Int32) : decode (ax_code (mgT L xs) 70) 182 = .ok (.iload_n 2, 1) := by
  show decode prog_2_method_14_code 182 = _
  decide +kernel
theorem d70_183 (L : Nat) (xs : Nat → Int32) : decode (ax_code (mgT L xs) 70) 183 = .ok (.invokevirtual 166, 3) := by
  show decode prog_2_method_14_code 183 = _
  decide +kernel
theorem d70_186 (L : Nat) (xs : Nat → Int32) : decode (ax_code (mgT L xs) 70) 186 = .ok (.goto 4, 3) := by
  show decode prog_2_method_14_code 186 = _
  decide +kernel
theorem d70_189 (L : Nat) (xs : Nat → Int32) : decode (ax_code (mgT L xs) 70) 189 = .ok (.iconst 1, 1) := by
  show decode prog_2_method_14_code 189 = _
  decide +kernel
theorem d70_190 (L : Nat) (xs : Nat → Int32) : decode (ax_code (mgT L xs) 70) 190 = .ok (.ireturn, 1) := by
  show decode prog_2_method_14_code 190 = _
  decide +kernel
section CG
variable {L : Nat} {xs : Nat → Int32} {d a b : Nat} {p : Nat → Nat} {E : ckE} {l m dom : List Nat} {inn : List Nat → ckS → Nat × ckS}
theorem ck_gt_l {dep lv : Nat} (hdep : dep < 11) (hv : lv = 93 + 4 * dep) (hI : okI inn) (HI : ckIn L xs (d + 21) p E dep (97 + 4 * dep) inn) (Ha : isT a) (ha7 : 7 ≤ a) (ha8 : a + 1 < 87) : ∀ (m st i n rf rt : Nat) (c9 : Option Value) (σ : ckS) (s : mg_s), i + m = l.length + 1 → st ≤ i → rf < 2 ^ 28 → rt < 2 ^ 28 → (rf < rt → t_tgt (gl l) rf rt = true) → ckC s p E → isCk s σ → okS σ → hold s a l → hold s (lv + 1) dom → wp L xs (d + 22) 70 30 [some (.ref 87), some (.ref a), some (.int (nI dep)), some (.ref (lv + 3)), some (.int (nI n)), some (.int (nI rf)), some (.int (nI rt)), some (.int (nI st)), some (.int (nI i)), c9] [] s (ckP s (96 + 4 * dep) (x_gt E inn dep l dom m st i n rf rt σ)) := by
  have HL : isL lv := by rw [hv]; exact isL_all _ hdep
  have hlm := tx_m Ha
  intro m
  induction m with
  | zero =>
    intro st i n rf rt c9 σ s hm hst hrf hrt hT C K hσ hl hd
    have hll := hl.1.2
    rw [x_gt]
    refine wg_iload (d70_30 L xs) rfl ?_
    refine wg_aload_n (d70_32 L xs) rfl ?_
    refine wg_invv (d70_33 L xs) (kd := 7) (mj := 15) (n := 0) rfl (Or.inl rfl) (ys := []) (r := [.int (nI i)]) rfl rfl Ha.1 (tx_c Ha) rfl (Nat.le_of_ble_eq_true rfl) (ts_size Ha hl) ?_
    rintro _ _ ⟨rfl, rfl⟩
    refine wn_icmp_gt (d70_36 L xs) (x := i) (y := l.length) (by omega) (by omega) (t := 169) (by decide) (fun h1 => ?_) (fun h1 => by omega)
    refine wg_iload (d70_169 L xs) rfl ?_
    refine wg_iload (d70_171 L xs) rfl ?_
    refine wn_icmp_ge (d70_173 L xs) (x := rf) (y := rt) (by omega) (by omega) (t := 189) (by decide) (fun h2 => ?_) (fun h2 => ?_)
    · refine wg_iconst (d70_189 L xs) (x := 1) (by decide) ?_
      exact wg_iret (d70_190 L xs) rfl rfl (by rw [x_rd, if_neg (by omega)]; exact ⟨rfl, K, ckf.rf _ _⟩)
    · refine wg_aload_n (d70_176 L xs) rfl ?_
      refine wg_aload_n (d70_177 L xs) rfl ?_
      refine wg_iload (d70_178 L xs) rfl ?_
      refine wg_iload (d70_180 L xs) rfl ?_
      refine wg_iload_n (d70_182 L xs) rfl ?_
      refine wg_invv (d70_183 L xs) (kd := 7) (mj := 84) (n := 4) rfl (Or.inl rfl) (ys := [.int (nI dep), .int (nI rt), .int (nI rf), .ref a]) (r := []) rfl rfl (by decide) rfl rfl (Nat.le_of_ble_eq_true rfl) (ck_rd hdep hv HI C K hσ Ha ha7 ha8 hl hd (by omega) (by omega) (hT (by omega))) ?_
      rintro _ s9 ⟨rfl, K9, f9⟩
      refine wg_goto (d70_186 L xs) (t := 190) (by decide) ?_
      exact wg_iret (d70_190 L xs) rfl rfl ⟨rfl, K9, f9.less (by omega)⟩
  | succ m ih =>
    intro st i n rf rt c9 σ s hm hst hrf hrt hT C K hσ hl hd
    have hll := hl.1.2
    have hg := gl_lt hl.2.1 i
    rw [x_gt]
    refine wg_iload (d70_30 L xs) rfl ?_
    refine wg_aload_n (d70_32 L xs) rfl ?_
    refine wg_invv (d70_33 L xs) (kd := 7) (mj := 15) (n := 0) rfl (Or.inl rfl) (ys := []) (r := [.int (nI i)]) rfl rfl Ha.1 (tx_c Ha) rfl (Nat.le_of_ble_eq_true rfl) (ts_size Ha hl) ?_
    rintro _ _ ⟨rfl, rfl⟩
    refine wn_icmp_gt (d70_36 L xs) (x := i) (y := l.length) (by omega) (by omega) (t := 169) (by decide) (fun h1 => by omega) (fun h1 => ?_)
    refine wg_iload (d70_39 L xs) rfl ?_
    refine wg_aload_n (d70_41 L xs) rfl ?_
    refine wg_invv (d70_42 L xs) (kd := 7) (mj := 15) (n := 0) rfl (Or.inl rfl) (ys := []) (r := [.int (nI i)]) rfl rfl Ha.1 (tx_c Ha) rfl (Nat.le_of_ble_eq_true rfl) (ts_size Ha hl) ?_
    rintro _ _ ⟨rfl, rfl⟩
    refine wn_icmp_eq (d70_45 L xs) (x := i) (y := l.length) (by omega) (by omega) (t := 59) (by decide) (fun h2 => ?_) (fun h2 => ?_)
    · refine wg_iload (d70_59 L xs) rfl ?_
      refine wg_iload (d70_61 L xs) rfl ?_
      refine wn_icmp_ge (d70_63 L xs) (x := st) (y := i) (by omega) (by omega) (t := 157) (by decide) (fun h3 => ?_) (fun h3 => ?_)
      · refine wg_iload (d70_157 L xs) rfl ?_
        refine wg_iconst (d70_159 L xs) (x := 1) (by decide) ?_
        refine wg_iadd (d70_160 L xs) ?_
        refine wg_top (y := (nI (i + 1))) (nI_add i 1) ?_
        refine wg_istore (d70_161 L xs) (ls' := [some (.ref 87), some (.ref a), some (.int (nI dep)), some (.ref (lv + 3)), some (.int (nI n)), some (.int (nI rf)), some (.int (nI rt)), some (.int (nI (i + 1))), some (.int (nI i)), c9]) (Nat.le_of_ble_eq_true rfl) rfl ?_
        refine wg_iinc (d70_163 L xs) (y := (nI (i + 1))) (ls' := [some (.ref 87), some (.ref a), some (.int (nI dep)), some (.ref (lv + 3)), some (.int (nI n)), some (.int (nI rf)), some (.int (nI rt)), some (.int (nI (i + 1))), some (.int (nI (i + 1))), c9]) rfl (nI_add i 1) rfl ?_
        refine wg_goto (d70_166 L xs) (t := 30) (by decide) ?_
        rw [if_pos (by omega), if_neg (by omega)]; exact ih (i + 1) (i + 1) n rf rt c9 σ s (by omega) (Nat.le_refl _) hrf hrt hT C K hσ hl hd
      · rw [if_pos (by omega), if_pos (by omega)]
        cases hq : t_term (gl l) st i with
        | none =>
          show wp L xs (d + 22) 70 66 [some (.ref 87), some (.ref a), some (.int (nI dep)), some (.ref (lv + 3)), some (.int (nI n)), some (.int (nI rf)), some (.int (nI rt)), some (.int (nI st)), some (.int (nI i)), c9] [] s (ckP s (96 + 4 * dep) (x_gt E inn dep l dom m (i + 1) (i + 1) n rf rt σ))
          refine wg_aload_n (d70_66 L xs) rfl ?_
          refine wg_aload_n (d70_67 L xs) rfl ?_
          refine wg_iload (d70_68 L xs) rfl ?_
          refine wg_iload (d70_70 L xs) rfl ?_
          refine wg_invv (d70_72 L xs) (kd := 7) (mj := 59) (n := 3) rfl (Or.inl rfl) (ys := [.int (nI i), .int (nI st), .ref a]) (r := []) rfl rfl (lf_t HL).1 (tm_c (lf_t HL)) rfl (Nat.le_of_ble_eq_true rfl) (by have h := tm_read (L := L) (xs := xs) (d := d + 16) (fr := st) (to := i) Ha hl (lf_t HL) (by omega) (by omega) (by omega); rw [hq] at h; exact h) ?_
          rintro _ _ ⟨rfl, ⟨f, rfl⟩, ht⟩
          refine wg_top (y := 0) rfl ?_
          have f1 : ckf s (mg_M s (lv + 3) f) (96 + 4 * dep) := ckf_M (by omega) (by omega) (by omega)
          have C1 := ckC_of C f1 (by omega)
          have K1 := isCk_M (f := f) K (show ¬ lv + 3 = 5 by omega) (show ¬ lv + 3 = 87 by omega)
          have hl1 : hold (mg_M s (lv + 3) f) a l := hold_M hl (by omega)
          have hd1 : hold (mg_M s (lv + 3) f) (lv + 1) dom := hold_M hd (by omega)
          refine wg_if_eq (d70_75 L xs) (t := 157) (by decide) (fun _ => ?_) (fun hn => absurd (by decide) hn)
          refine wg_iload (d70_157 L xs) rfl ?_
          refine wg_iconst (d70_159 L xs) (x := 1) (by decide) ?_
          refine wg_iadd (d70_160 L xs) ?_
          refine wg_top (y := (nI (i + 1))) (nI_add i 1) ?_
          refine wg_istore (d70_161 L xs) (ls' := [some (.ref 87), some (.ref a), some (.int (nI dep)), some (.ref (lv + 3)), some (.int (nI n)), some (.int (nI rf)), some (.int (nI rt)), some (.int (nI (i + 1))), some (.int (nI i)), c9]) (Nat.le_of_ble_eq_true rfl) rfl ?_
          refine wg_iinc (d70_163 L xs) (y := (nI (i + 1))) (ls' := [some (.ref 87), some (.ref a), some (.int (nI dep)), some (.ref (lv + 3)), some (.int (nI n)), some (.int (nI rf)), some (.int (nI rt)), some (.int (nI (i + 1))), some (.int (nI (i + 1))), c9]) rfl (nI_add i 1) rfl ?_
          refine wg_goto (d70_166 L xs) (t := 30) (by decide) ?_
          exact wp_mono (ih (i + 1) (i + 1) n rf rt _ σ (mg_M s (lv + 3) f) (by omega) (Nat.le_refl _) hrf hrt hT C1 K1 hσ hl1 hd1) (fun v s' h => ⟨h.1, h.2.1, f1.trans h.2.2⟩)
        | some t =>
          have hok := t_term_ok (by omega) hq
          have hok1 := hok.1
          have hbm := bI_lt (decide (t.1 < 6))
          show wp L xs (d + 22) 70 66 [some (.ref 87), some (.ref a), some (.int (nI dep)), some (.ref (lv + 3)), some (.int (nI n)), some (.int (nI rf)), some (.int (nI rt)), some (.int (nI st)), some (.int (nI i)), c9] [] s (ckP s (96 + 4 * dep) (if t.1 < 6 then (if (x_ma E inn l dom t σ).1 = 1 then (t.2.1, st_mt (x_ma E inn l dom t σ).2 dep n) else if (x_ma E inn l dom t σ).1 = 0 then x_gt E inn dep l dom m (i + 1) (i + 1) (n + 1) rf rt (x_ma E inn l dom t σ).2 else x_ma E inn l dom t σ) else if t.1 = 6 then x_gt E inn dep l dom m (i + 1) (i + 1) n t.2.2.1 t.2.2.2.1 σ else x_gt E inn dep l dom m (i + 1) (i + 1) n rf rt σ))
          refine wg_aload_n (d70_66 L xs) rfl ?_
          refine wg_aload_n (d70_67 L xs) rfl ?_
          refine wg_iload (d70_68 L xs) rfl ?_
          refine wg_iload (d70_70 L xs) rfl ?_
          refine wg_invv (d70_72 L xs) (kd := 7) (mj := 59) (n := 3) rfl (Or.inl rfl) (ys := [.int (nI i), .int (nI st), .ref a]) (r := []) rfl rfl (lf_t HL).1 (tm_c (lf_t HL)) rfl (Nat.le_of_ble_eq_true rfl) (by have h := tm_read (L := L) (xs := xs) (d := d + 16) (fr := st) (to := i) Ha hl (lf_t HL) (by omega) (by omega) (by omega); rw [hq] at h; exact h) ?_
          rintro _ _ ⟨rfl, ⟨f, rfl⟩, ht⟩
          refine wg_top (y := 1) rfl ?_
          have f1 : ckf s (mg_M s (lv + 3) f) (96 + 4 * dep) := ckf_M (by omega) (by omega) (by omega)
          have C1 := ckC_of C f1 (by omega)
          have K1 := isCk_M (f := f) K (show ¬ lv + 3 = 5 by omega) (show ¬ lv + 3 = 87 by omega)
          have hl1 : hold (mg_M s (lv + 3) f) a l := hold_M hl (by omega)
          have hd1 : hold (mg_M s (lv + 3) f) (lv + 1) dom := hold_M hd (by omega)
          have tm := ht t rfl
          refine wg_if_eq (d70_75 L xs) (t := 157) (by decide) (fun hp => absurd hp (by decide)) (fun _ => ?_)
          refine wg_aload_n (d70_78 L xs) rfl ?_
          refine wg_invv (d70_79 L xs) (kd := 7) (mj := 71) (n := 0) rfl (Or.inl rfl) (ys := []) (r := []) rfl rfl (lf_t HL).1 (tm_c (lf_t HL)) rfl (Nat.le_of_ble_eq_true rfl) (tm_ismech (lf_t HL) tm.1 hok.1) ?_
          rintro _ _ ⟨rfl, rfl⟩
          refine wn_if_eq (d70_82 L xs) (x := bI (decide (t.1 < 6))) (by omega) (t := 136) (by decide) (fun h2 => ?_) (fun h2 => ?_)
          · have hk7 : ¬ t.1 < 6 := of_decide_eq_false (bI_f (b := decide (t.1 < 6)) (by omega))
            refine wg_aload_n (d70_136 L xs) rfl ?_
            refine wg_get (d70_137 L xs) (kd := 2) (cj := 4) (k0 := 0) rfl (Or.inr rfl) (lf_t HL).1 (tm_c (lf_t HL)) rfl ?_
            refine wg_top (y := (nI t.1)) tm.1 ?_
            refine wg_bipush (d70_140 L xs) (x := 6) (by decide) ?_
            refine wn_icmp_ne (d70_142 L xs) (x := t.1) (y := 6) (by omega) (by omega) (t := 157) (by decide) (fun h3 => ?_) (fun h3 => ?_)
            · refine wg_iload (d70_157 L xs) rfl ?_
              refine wg_iconst (d70_159 L xs) (x := 1) (by decide) ?_
              refine wg_iadd (d70_160 L xs) ?_
              refine wg_top (y := (nI (i + 1))) (nI_add i 1) ?_
              refine wg_istore (d70_161 L xs) (ls' := [some (.ref 87), some (.ref a), some (.int (nI dep)), some (.ref (lv + 3)), some (.int (nI n)), some (.int (nI rf)), some (.int (nI rt)), some (.int (nI (i + 1))), some (.int (nI i)), c9]) (Nat.le_of_ble_eq_true rfl) rfl ?_
              refine wg_iinc (d70_163 L xs) (y := (nI (i + 1))) (ls' := [some (.ref 87), some (.ref a), some (.int (nI dep)), some (.ref (lv + 3)), some (.int (nI n)), some (.int (nI rf)), some (.int (nI rt)), some (.int (nI (i + 1))), some (.int (nI (i + 1))), c9]) rfl (nI_add i 1) rfl ?_
              refine wg_goto (d70_166 L xs) (t := 30) (by decide) ?_
              rw [if_neg hk7, if_neg (by omega)]; exact wp_mono (ih (i + 1) (i + 1) n rf rt _ σ (mg_M s (lv + 3) f) (by omega) (Nat.le_refl _) hrf hrt hT C1 K1 hσ hl1 hd1) (fun v s' h => ⟨h.1, h.2.1, f1.trans h.2.2⟩)
            · refine wg_aload_n (d70_145 L xs) rfl ?_
              refine wg_get (d70_146 L xs) (kd := 2) (cj := 4) (k0 := 2) rfl (Or.inr rfl) (lf_t HL).1 (tm_c (lf_t HL)) rfl ?_
              refine wg_top (y := (nI t.2.2.1)) tm.2.2.1 ?_
              refine wg_istore (d70_149 L xs) (ls' := [some (.ref 87), some (.ref a), some (.int (nI dep)), some (.ref (lv + 3)), some (.int (nI n)), some (.int (nI t.2.2.1)), some (.int (nI rt)), some (.int (nI st)), some (.int (nI i)), c9]) (Nat.le_of_ble_eq_true rfl) rfl ?_
              refine wg_aload_n (d70_151 L xs) rfl ?_
              refine wg_get (d70_152 L xs) (kd := 2) (cj := 4) (k0 := 3) rfl (Or.inr rfl) (lf_t HL).1 (tm_c (lf_t HL)) rfl ?_
              refine wg_top (y := (nI t.2.2.2.1)) tm.2.2.2.1 ?_
              refine wg_istore (d70_155 L xs) (ls' := [some (.ref 87), some (.ref a), some (.int (nI dep)), some (.ref (lv + 3)), some (.int (nI n)), some (.int (nI t.2.2.1)), some (.int (nI t.2.2.2.1)), some (.int (nI st)), some (.int (nI i)), c9]) (Nat.le_of_ble_eq_true rfl) rfl ?_
              refine wg_iload (d70_157 L xs) rfl ?_
              refine wg_iconst (d70_159 L xs) (x := 1) (by decide) ?_
              refine wg_iadd (d70_160 L xs) ?_
              refine wg_top (y := (nI (i + 1))) (nI_add i 1) ?_
              refine wg_istore (d70_161 L xs) (ls' := [some (.ref 87), some (.ref a), some (.int (nI dep)), some (.ref (lv + 3)), some (.int (nI n)), some (.int (nI t.2.2.1)), some (.int (nI t.2.2.2.1)), some (.int (nI (i + 1))), some (.int (nI i)), c9]) (Nat.le_of_ble_eq_true rfl) rfl ?_
              refine wg_iinc (d70_163 L xs) (y := (nI (i + 1))) (ls' := [some (.ref 87), some (.ref a), some (.int (nI dep)), some (.ref (lv + 3)), some (.int (nI n)), some (.int (nI t.2.2.1)), some (.int (nI t.2.2.2.1)), some (.int (nI (i + 1))), some (.int (nI (i + 1))), c9]) rfl (nI_add i 1) rfl ?_
              refine wg_goto (d70_166 L xs) (t := 30) (by decide) ?_
              rw [if_neg hk7, if_pos (by omega)]; exact wp_mono (ih (i + 1) (i + 1) n t.2.2.1 t.2.2.2.1 _ σ (mg_M s (lv + 3) f) (by omega) (Nat.le_refl _) (by have := hok.2.1; omega) (by have := hok.2.2.1; omega) (hok.2.2.2.2.2.1 (by omega)) C1 K1 hσ hl1 hd1) (fun v s' h => ⟨h.1, h.2.1, f1.trans h.2.2⟩)
          · have hk6 : t.1 < 6 := of_decide_eq_true (bI_t (b := decide (t.1 < 6)) (by omega))
            refine wg_aload_n (d70_85 L xs) rfl ?_
            refine wg_aload_n (d70_86 L xs) rfl ?_
            refine wg_aload_n (d70_87 L xs) rfl ?_
            refine wg_iload_n (d70_88 L xs) rfl ?_
            refine wg_invv (d70_89 L xs) (kd := 7) (mj := 72) (n := 3) rfl (Or.inl rfl) (ys := [.int (nI dep), .ref (lv + 3), .ref a]) (r := []) rfl rfl (by decide) rfl rfl (Nat.le_of_ble_eq_true rfl) (ck_ma hdep hv hI HI C1 K1 hσ Ha ha7 ha8 hl1 hd1 tm (by omega) (by omega) hq hk6) ?_
            rintro _ s2 ⟨rfl, K2, f2⟩
            have hr := ok_ma (E := E) (D := l) (dom := dom) (t := t) hI hσ
            have hr1 := hr.1
            have f3 := f1.trans (f2.less (c := 96 + 4 * dep) (by omega))
            have tm2 : isTerm s2 (lv + 3) t := isTerm_of tm (f2.1 (lv + 3) (by omega) (by omega) (by omega) (by omega))
            rw [if_pos hk6]
            refine wg_istore (d70_92 L xs) (ls' := [some (.ref 87), some (.ref a), some (.int (nI dep)), some (.ref (lv + 3)), some (.int (nI n)), some (.int (nI rf)), some (.int (nI rt)), some (.int (nI st)), some (.int (nI i)), some (.int (nI ((x_ma E inn l dom t σ).1)))]) (Nat.le_of_ble_eq_true rfl) rfl ?_
            refine wg_iload (d70_94 L xs) rfl ?_
            refine wg_iconst (d70_96 L xs) (x := 1) (by decide) ?_
            refine wn_icmp_ne (d70_97 L xs) (x := (x_ma E inn l dom t σ).1) (y := 1) (by omega) (by omega) (t := 122) (by decide) (fun h4 => ?_) (fun h4 => ?_)
            · refine wg_iload (d70_122 L xs) rfl ?_
              refine wn_if_eq (d70_124 L xs) (x := (x_ma E inn l dom t σ).1) (by omega) (t := 130) (by decide) (fun h5 => ?_) (fun h5 => ?_)
              · refine wg_iinc (d70_130 L xs) (y := (nI (n + 1))) (ls' := [some (.ref 87), some (.ref a), some (.int (nI dep)), some (.ref (lv + 3)), some (.int (nI (n + 1))), some (.int (nI rf)), some (.int (nI rt)), some (.int (nI st)), some (.int (nI i)), some (.int (nI ((x_ma E inn l dom t σ).1)))]) rfl (nI_add n 1) rfl ?_
                refine wg_goto (d70_133 L xs) (t := 157) (by decide) ?_
                refine wg_iload (d70_157 L xs) rfl ?_
                refine wg_iconst (d70_159 L xs) (x := 1) (by decide) ?_
                refine wg_iadd (d70_160 L xs) ?_
                refine wg_top (y := (nI (i + 1))) (nI_add i 1) ?_
                refine wg_istore (d70_161 L xs) (ls' := [some (.ref 87), some (.ref a), some (.int (nI dep)), some (.ref (lv + 3)), some (.int (nI (n + 1))), some (.int (nI rf)), some (.int (nI rt)), some (.int (nI (i + 1))), some (.int (nI i)), some (.int (nI ((x_ma E inn l dom t σ).1)))]) (Nat.le_of_ble_eq_true rfl) rfl ?_
                refine wg_iinc (d70_163 L xs) (y := (nI (i + 1))) (ls' := [some (.ref 87), some (.ref a), some (.int (nI dep)), some (.ref (lv + 3)), some (.int (nI (n + 1))), some (.int (nI rf)), some (.int (nI rt)), some (.int (nI (i + 1))), some (.int (nI (i + 1))), some (.int (nI ((x_ma E inn l dom t σ).1)))]) rfl (nI_add i 1) rfl ?_
                refine wg_goto (d70_166 L xs) (t := 30) (by decide) ?_
                rw [if_neg (by omega), if_pos (by omega)]; exact wp_mono (ih (i + 1) (i + 1) (n + 1) rf rt _ _ s2 (by omega) (Nat.le_refl _) hrf hrt hT (ckC_of C f3 (by omega)) K2 (okR_S hr (by omega)) (f3.hold hl (by omega) (by omega) (by omega) (by omega)) (f3.hold hd (by omega) (by omega) (by omega) (by omega))) (fun v s' h => ⟨h.1, h.2.1, f3.trans h.2.2⟩)
              · refine wg_iload (d70_127 L xs) rfl ?_
                exact wg_iret (d70_129 L xs) rfl rfl (by rw [if_neg (by omega), if_neg (by omega)]; exact ⟨rfl, K2, f3⟩)
            · refine wg_aload_n (d70_100 L xs) rfl ?_
              refine wg_iload_n (d70_101 L xs) rfl ?_
              refine wn_if_ne (d70_102 L xs) (x := dep) (by omega) (t := 110) (by decide) (fun h6 => ?_) (fun h6 => ?_)
              · refine wg_aload_n (d70_110 L xs) rfl ?_
                refine wg_get (d70_111 L xs) (kd := 1) (cj := 6) (k0 := 8) rfl (Or.inl rfl) (by decide) rfl rfl ?_
                refine wg_top (y := ((x_ma E inn l dom t σ).2.2.2.1)) K2.2.2.1 ?_
                refine wg_puti (d70_114 L xs) (cj := 6) (k0 := 8) rfl (by decide) rfl (Nat.le_of_ble_eq_true rfl) rfl rfl rfl ?_
                refine wg_aload_n (d70_117 L xs) rfl ?_
                refine wg_get (d70_118 L xs) (kd := 2) (cj := 4) (k0 := 1) rfl (Or.inr rfl) (lf_t HL).1 (tm_c (lf_t HL)) rfl ?_
                refine wg_top (y := (nI t.2.1)) ((isTerm_of (s1 := (mg_I s2 87 8 ((x_ma E inn l dom t σ).2.2.2.1))) tm2 (mg_I_oth (by omega))).2.1 hk6) ?_
                exact wg_iret (d70_121 L xs) rfl rfl (by rw [if_pos (by omega)]; exact ⟨rfl, isCk_mt K2 (by rw [if_neg (show ¬ dep = 0 by omega)]), f3.trans (ckf_I (by decide))⟩)
              · refine wg_iload (d70_105 L xs) rfl ?_
                refine wg_goto (d70_107 L xs) (t := 114) (by decide) ?_
                refine wg_puti (d70_114 L xs) (cj := 6) (k0 := 8) rfl (by decide) rfl (Nat.le_of_ble_eq_true rfl) rfl rfl rfl ?_
                refine wg_aload_n (d70_117 L xs) rfl ?_
                refine wg_get (d70_118 L xs) (kd := 2) (cj := 4) (k0 := 1) rfl (Or.inr rfl) (lf_t HL).1 (tm_c (lf_t HL)) rfl ?_
                refine wg_top (y := (nI t.2.1)) ((isTerm_of (s1 := (mg_I s2 87 8 (nI n))) tm2 (mg_I_oth (by omega))).2.1 hk6) ?_
                exact wg_iret (d70_121 L xs) rfl rfl (by rw [if_pos (by omega)]; exact ⟨rfl, isCk_mt K2 (by rw [if_pos (show dep = 0 by omega)]), f3.trans (ckf_I (by decide))⟩)
    · refine wg_aload_n (d70_48 L xs) rfl ?_
      refine wg_iload (d70_49 L xs) rfl ?_
      refine wg_invv (d70_51 L xs) (kd := 7) (mj := 31) (n := 1) rfl (Or.inl rfl) (ys := [.int (nI i)]) (r := []) rfl rfl Ha.1 (tx_c Ha) rfl (Nat.le_of_ble_eq_true rfl) (ts_at Ha hl (by omega)) ?_
      rintro _ _ ⟨rfl, rfl⟩
      refine wg_bipush (d70_54 L xs) (x := 32) (by decide) ?_
      refine wn_icmp_ne (d70_56 L xs) (x := gl l i) (y := 32) (by omega) (by omega) (t := 163) (by decide) (fun h4 => ?_) (fun h4 => ?_)
      · refine wg_iinc (d70_163 L xs) (y := (nI (i + 1))) (ls' := [some (.ref 87), some (.ref a), some (.int (nI dep)), some (.ref (lv + 3)), some (.int (nI n)), some (.int (nI rf)), some (.int (nI rt)), some (.int (nI st)), some (.int (nI (i + 1))), c9]) rfl (nI_add i 1) rfl ?_
        refine wg_goto (d70_166 L xs) (t := 30) (by decide) ?_
        rw [if_neg (by omega)]; exact ih st (i + 1) n rf rt c9 σ s (by omega) (by omega) hrf hrt hT C K hσ hl hd
      · refine wg_iload (d70_59 L xs) rfl ?_
        refine wg_iload (d70_61 L xs) rfl ?_
        refine wn_icmp_ge (d70_63 L xs) (x := st) (y := i) (by omega) (by omega) (t := 157) (by decide) (fun h5 => ?_) (fun h5 => ?_)
        · refine wg_iload (d70_157 L xs) rfl ?_
          refine wg_iconst (d70_159 L xs) (x := 1) (by decide) ?_
          refine wg_iadd (d70_160 L xs) ?_
          refine wg_top (y := (nI (i + 1))) (nI_add i 1) ?_
          refine wg_istore (d70_161 L xs) (ls' := [some (.ref 87), some (.ref a), some (.int (nI dep)), some (.ref (lv + 3)), some (.int (nI n)), some (.int (nI rf)), some (.int (nI rt)), some (.int (nI (i + 1))), some (.int (nI i)), c9]) (Nat.le_of_ble_eq_true rfl) rfl ?_
          refine wg_iinc (d70_163 L xs) (y := (nI (i + 1))) (ls' := [some (.ref 87), some (.ref a), some (.int (nI dep)), some (.ref (lv + 3)), some (.int (nI n)), some (.int (nI rf)), some (.int (nI rt)), some (.int (nI (i + 1))), some (.int (nI (i + 1))), c9]) rfl (nI_add i 1) rfl ?_
          refine wg_goto (d70_166 L xs) (t := 30) (by decide) ?_
          rw [if_pos (by omega), if_neg (by omega)]; exact ih (i + 1) (i + 1) n rf rt c9 σ s (by omega) (Nat.le_refl _) hrf hrt hT C K hσ hl hd
        · rw [if_pos (by omega), if_pos (by omega)]
          cases hq : t_term (gl l) st i with
          | none =>
            show wp L xs (d + 22) 70 66 [some (.ref 87), some (.ref a), some (.int (nI dep)), some (.ref (lv + 3)), some (.int (nI n)), some (.int (nI rf)), some (.int (nI rt)), some (.int (nI st)), some (.int (nI i)), c9] [] s (ckP s (96 + 4 * dep) (x_gt E inn dep l dom m (i + 1) (i + 1) n rf rt σ))
            refine wg_aload_n (d70_66 L xs) rfl ?_
            refine wg_aload_n (d70_67 L xs) rfl ?_
            refine wg_iload (d70_68 L xs) rfl ?_
            refine wg_iload (d70_70 L xs) rfl ?_
            refine wg_invv (d70_72 L xs) (kd := 7) (mj := 59) (n := 3) rfl (Or.inl rfl) (ys := [.int (nI i), .int (nI st), .ref a]) (r := []) rfl rfl (lf_t HL).1 (tm_c (lf_t HL)) rfl (Nat.le_of_ble_eq_true rfl) (by have h := tm_read (L := L) (xs := xs) (d := d + 16) (fr := st) (to := i) Ha hl (lf_t HL) (by omega) (by omega) (by omega); rw [hq] at h; exact h) ?_
            rintro _ _ ⟨rfl, ⟨f, rfl⟩, ht⟩
            refine wg_top (y := 0) rfl ?_
            have f1 : ckf s (mg_M s (lv + 3) f) (96 + 4 * dep) := ckf_M (by omega) (by omega) (by omega)
            have C1 := ckC_of C f1 (by omega)
            have K1 := isCk_M (f := f) K (show ¬ lv + 3 = 5 by omega) (show ¬ lv + 3 = 87 by omega)
            have hl1 : hold (mg_M s (lv + 3) f) a l := hold_M hl (by omega)
            have hd1 : hold (mg_M s (lv + 3) f) (lv + 1) dom := hold_M hd (by omega)
            refine wg_if_eq (d70_75 L xs) (t := 157) (by decide) (fun _ => ?_) (fun hn => absurd (by decide) hn)
            refine wg_iload (d70_157 L xs) rfl ?_
            refine wg_iconst (d70_159 L xs) (x := 1) (by decide) ?_
            refine wg_iadd (d70_160 L xs) ?_
            refine wg_top (y := (nI (i + 1))) (nI_add i 1) ?_
            refine wg_istore (d70_161 L xs) (ls' := [some (.ref 87), some (.ref a), some (.int (nI dep)), some (.ref (lv + 3)), some (.int (nI n)), some (.int (nI rf)), some (.int (nI rt)), some (.int (nI (i + 1))), some (.int (nI i)), c9]) (Nat.le_of_ble_eq_true rfl) rfl ?_
            refine wg_iinc (d70_163 L xs) (y := (nI (i + 1))) (ls' := [some (.ref 87), some (.ref a), some (.int (nI dep)), some (.ref (lv + 3)), some (.int (nI n)), some (.int (nI rf)), some (.int (nI rt)), some (.int (nI (i + 1))), some (.int (nI (i + 1))), c9]) rfl (nI_add i 1) rfl ?_
            refine wg_goto (d70_166 L xs) (t := 30) (by decide) ?_
            exact wp_mono (ih (i + 1) (i + 1) n rf rt _ σ (mg_M s (lv + 3) f) (by omega) (Nat.le_refl _) hrf hrt hT C1 K1 hσ hl1 hd1) (fun v s' h => ⟨h.1, h.2.1, f1.trans h.2.2⟩)
          | some t =>
            have hok := t_term_ok (by omega) hq
            have hok1 := hok.1
            have hbm := bI_lt (decide (t.1 < 6))
            show wp L xs (d + 22) 70 66 [some (.ref 87), some (.ref a), some (.int (nI dep)), some (.ref (lv + 3)), some (.int (nI n)), some (.int (nI rf)), some (.int (nI rt)), some (.int (nI st)), some (.int (nI i)), c9] [] s (ckP s (96 + 4 * dep) (if t.1 < 6 then (if (x_ma E inn l dom t σ).1 = 1 then (t.2.1, st_mt (x_ma E inn l dom t σ).2 dep n) else if (x_ma E inn l dom t σ).1 = 0 then x_gt E inn dep l dom m (i + 1) (i + 1) (n + 1) rf rt (x_ma E inn l dom t σ).2 else x_ma E inn l dom t σ) else if t.1 = 6 then x_gt E inn dep l dom m (i + 1) (i + 1) n t.2.2.1 t.2.2.2.1 σ else x_gt E inn dep l dom m (i + 1) (i + 1) n rf rt σ))
            refine wg_aload_n (d70_66 L xs) rfl ?_
            refine wg_aload_n (d70_67 L xs) rfl ?_
            refine wg_iload (d70_68 L xs) rfl ?_
            refine wg_iload (d70_70 L xs) rfl ?_
            refine wg_invv (d70_72 L xs) (kd := 7) (mj := 59) (n := 3) rfl (Or.inl rfl) (ys := [.int (nI i), .int (nI st), .ref a]) (r := []) rfl rfl (lf_t HL).1 (tm_c (lf_t HL)) rfl (Nat.le_of_ble_eq_true rfl) (by have h := tm_read (L := L) (xs := xs) (d := d + 16) (fr := st) (to := i) Ha hl (lf_t HL) (by omega) (by omega) (by omega); rw [hq] at h; exact h) ?_
            rintro _ _ ⟨rfl, ⟨f, rfl⟩, ht⟩
            refine wg_top (y := 1) rfl ?_
            have f1 : ckf s (mg_M s (lv + 3) f) (96 + 4 * dep) := ckf_M (by omega) (by omega) (by omega)
            have C1 := ckC_of C f1 (by omega)
            have K1 := isCk_M (f := f) K (show ¬ lv + 3 = 5 by omega) (show ¬ lv + 3 = 87 by omega)
            have hl1 : hold (mg_M s (lv + 3) f) a l := hold_M hl (by omega)
            have hd1 : hold (mg_M s (lv + 3) f) (lv + 1) dom := hold_M hd (by omega)
            have tm := ht t rfl
            refine wg_if_eq (d70_75 L xs) (t := 157) (by decide) (fun hp => absurd hp (by decide)) (fun _ => ?_)
            refine wg_aload_n (d70_78 L xs) rfl ?_
            refine wg_invv (d70_79 L xs) (kd := 7) (mj := 71) (n := 0) rfl (Or.inl rfl) (ys := []) (r := []) rfl rfl (lf_t HL).1 (tm_c (lf_t HL)) rfl (Nat.le_of_ble_eq_true rfl) (tm_ismech (lf_t HL) tm.1 hok.1) ?_
            rintro _ _ ⟨rfl, rfl⟩
            refine wn_if_eq (d70_82 L xs) (x := bI (decide (t.1 < 6))) (by omega) (t := 136) (by decide) (fun h2 => ?_) (fun h2 => ?_)
            · have hk7 : ¬ t.1 < 6 := of_decide_eq_false (bI_f (b := decide (t.1 < 6)) (by omega))
              refine wg_aload_n (d70_136 L xs) rfl ?_
              refine wg_get (d70_137 L xs) (kd := 2) (cj := 4) (k0 := 0) rfl (Or.inr rfl) (lf_t HL).1 (tm_c (lf_t HL)) rfl ?_
              refine wg_top (y := (nI t.1)) tm.1 ?_
              refine wg_bipush (d70_140 L xs) (x := 6) (by decide) ?_
              refine wn_icmp_ne (d70_142 L xs) (x := t.1) (y := 6) (by omega) (by omega) (t := 157) (by decide) (fun h3 => ?_) (fun h3 => ?_)
              · refine wg_iload (d70_157 L xs) rfl ?_
                refine wg_iconst (d70_159 L xs) (x := 1) (by decide) ?_
                refine wg_iadd (d70_160 L xs) ?_
                refine wg_top (y := (nI (i + 1))) (nI_add i 1) ?_
                refine wg_istore (d70_161 L xs) (ls' := [some (.ref 87), some (.ref a), some (.int (nI dep)), some (.ref (lv + 3)), some (.int (nI n)), some (.int (nI rf)), some (.int (nI rt)), some (.int (nI (i + 1))), some (.int (nI i)), c9]) (Nat.le_of_ble_eq_true rfl) rfl ?_
                refine wg_iinc (d70_163 L xs) (y := (nI (i + 1))) (ls' := [some (.ref 87), some (.ref a), some (.int (nI dep)), some (.ref (lv + 3)), some (.int (nI n)), some (.int (nI rf)), some (.int (nI rt)), some (.int (nI (i + 1))), some (.int (nI (i + 1))), c9]) rfl (nI_add i 1) rfl ?_
                refine wg_goto (d70_166 L xs) (t := 30) (by decide) ?_
                rw [if_neg hk7, if_neg (by omega)]; exact wp_mono (ih (i + 1) (i + 1) n rf rt _ σ (mg_M s (lv + 3) f) (by omega) (Nat.le_refl _) hrf hrt hT C1 K1 hσ hl1 hd1) (fun v s' h => ⟨h.1, h.2.1, f1.trans h.2.2⟩)
              · refine wg_aload_n (d70_145 L xs) rfl ?_
                refine wg_get (d70_146 L xs) (kd := 2) (cj := 4) (k0 := 2) rfl (Or.inr rfl) (lf_t HL).1 (tm_c (lf_t HL)) rfl ?_
                refine wg_top (y := (nI t.2.2.1)) tm.2.2.1 ?_
                refine wg_istore (d70_149 L xs) (ls' := [some (.ref 87), some (.ref a), some (.int (nI dep)), some (.ref (lv + 3)), some (.int (nI n)), some (.int (nI t.2.2.1)), some (.int (nI rt)), some (.int (nI st)), some (.int (nI i)), c9]) (Nat.le_of_ble_eq_true rfl) rfl ?_
                refine wg_aload_n (d70_151 L xs) rfl ?_
                refine wg_get (d70_152 L xs) (kd := 2) (cj := 4) (k0 := 3) rfl (Or.inr rfl) (lf_t HL).1 (tm_c (lf_t HL)) rfl ?_
                refine wg_top (y := (nI t.2.2.2.1)) tm.2.2.2.1 ?_
                refine wg_istore (d70_155 L xs) (ls' := [some (.ref 87), some (.ref a), some (.int (nI dep)), some (.ref (lv + 3)), some (.int (nI n)), some (.int (nI t.2.2.1)), some (.int (nI t.2.2.2.1)), some (.int (nI st)), some (.int (nI i)), c9]) (Nat.le_of_ble_eq_true rfl) rfl ?_
                refine wg_iload (d70_157 L xs) rfl ?_
                refine wg_iconst (d70_159 L xs) (x := 1) (by decide) ?_
                refine wg_iadd (d70_160 L xs) ?_
                refine wg_top (y := (nI (i + 1))) (nI_add i 1) ?_
                refine wg_istore (d70_161 L xs) (ls' := [some (.ref 87), some (.ref a), some (.int (nI dep)), some (.ref (lv + 3)), some (.int (nI n)), some (.int (nI t.2.2.1)), some (.int (nI t.2.2.2.1)), some (.int (nI (i + 1))), some (.int (nI i)), c9]) (Nat.le_of_ble_eq_true rfl) rfl ?_
                refine wg_iinc (d70_163 L xs) (y := (nI (i + 1))) (ls' := [some (.ref 87), some (.ref a), some (.int (nI dep)), some (.ref (lv + 3)), some (.int (nI n)), some (.int (nI t.2.2.1)), some (.int (nI t.2.2.2.1)), some (.int (nI (i + 1))), some (.int (nI (i + 1))), c9]) rfl (nI_add i 1) rfl ?_
                refine wg_goto (d70_166 L xs) (t := 30) (by decide) ?_
                rw [if_neg hk7, if_pos (by omega)]; exact wp_mono (ih (i + 1) (i + 1) n t.2.2.1 t.2.2.2.1 _ σ (mg_M s (lv + 3) f) (by omega) (Nat.le_refl _) (by have := hok.2.1; omega) (by have := hok.2.2.1; omega) (hok.2.2.2.2.2.1 (by omega)) C1 K1 hσ hl1 hd1) (fun v s' h => ⟨h.1, h.2.1, f1.trans h.2.2⟩)
            · have hk6 : t.1 < 6 := of_decide_eq_true (bI_t (b := decide (t.1 < 6)) (by omega))
              refine wg_aload_n (d70_85 L xs) rfl ?_
              refine wg_aload_n (d70_86 L xs) rfl ?_
              refine wg_aload_n (d70_87 L xs) rfl ?_
              refine wg_iload_n (d70_88 L xs) rfl ?_
              refine wg_invv (d70_89 L xs) (kd := 7) (mj := 72) (n := 3) rfl (Or.inl rfl) (ys := [.int (nI dep), .ref (lv + 3), .ref a]) (r := []) rfl rfl (by decide) rfl rfl (Nat.le_of_ble_eq_true rfl) (ck_ma hdep hv hI HI C1 K1 hσ Ha ha7 ha8 hl1 hd1 tm (by omega) (by omega) hq hk6) ?_
              rintro _ s2 ⟨rfl, K2, f2⟩
              have hr := ok_ma (E := E) (D := l) (dom := dom) (t := t) hI hσ
              have hr1 := hr.1
              have f3 := f1.trans (f2.less (c := 96 + 4 * dep) (by omega))
              have tm2 : isTerm s2 (lv + 3) t := isTerm_of tm (f2.1 (lv + 3) (by omega) (by omega) (by omega) (by omega))
              rw [if_pos hk6]
              refine wg_istore (d70_92 L xs) (ls' := [some (.ref 87), some (.ref a), some (.int (nI dep)), some (.ref (lv + 3)), some (.int (nI n)), some (.int (nI rf)), some (.int (nI rt)), some (.int (nI st)), some (.int (nI i)), some (.int (nI ((x_ma E inn l dom t σ).1)))]) (Nat.le_of_ble_eq_true rfl) rfl ?_
              refine wg_iload (d70_94 L xs) rfl ?_
              refine wg_iconst (d70_96 L xs) (x := 1) (by decide) ?_
              refine wn_icmp_ne (d70_97 L xs) (x := (x_ma E inn l dom t σ).1) (y := 1) (by omega) (by omega) (t := 122) (by decide) (fun h4 => ?_) (fun h4 => ?_)
              · refine wg_iload (d70_122 L xs) rfl ?_
                refine wn_if_eq (d70_124 L xs) (x := (x_ma E inn l dom t σ).1) (by omega) (t := 130) (by decide) (fun h5 => ?_) (fun h5 => ?_)
                · refine wg_iinc (d70_130 L xs) (y := (nI (n + 1))) (ls' := [some (.ref 87), some (.ref a), some (.int (nI dep)), some (.ref (lv + 3)), some (.int (nI (n + 1))), some (.int (nI rf)), some (.int (nI rt)), some (.int (nI st)), some (.int (nI i)), some (.int (nI ((x_ma E inn l dom t σ).1)))]) rfl (nI_add n 1) rfl ?_
                  refine wg_goto (d70_133 L xs) (t := 157) (by decide) ?_
                  refine wg_iload (d70_157 L xs) rfl ?_
                  refine wg_iconst (d70_159 L xs) (x := 1) (by decide) ?_
                  refine wg_iadd (d70_160 L xs) ?_
                  refine wg_top (y := (nI (i + 1))) (nI_add i 1) ?_
                  refine wg_istore (d70_161 L xs) (ls' := [some (.ref 87), some (.ref a), some (.int (nI dep)), some (.ref (lv + 3)), some (.int (nI (n + 1))), some (.int (nI rf)), some (.int (nI rt)), some (.int (nI (i + 1))), some (.int (nI i)), some (.int (nI ((x_ma E inn l dom t σ).1)))]) (Nat.le_of_ble_eq_true rfl) rfl ?_
                  refine wg_iinc (d70_163 L xs) (y := (nI (i + 1))) (ls' := [some (.ref 87), some (.ref a), some (.int (nI dep)), some (.ref (lv + 3)), some (.int (nI (n + 1))), some (.int (nI rf)), some (.int (nI rt)), some (.int (nI (i + 1))), some (.int (nI (i + 1))), some (.int (nI ((x_ma E inn l dom t σ).1)))]) rfl (nI_add i 1) rfl ?_
                  refine wg_goto (d70_166 L xs) (t := 30) (by decide) ?_
                  rw [if_neg (by omega), if_pos (by omega)]; exact wp_mono (ih (i + 1) (i + 1) (n + 1) rf rt _ _ s2 (by omega) (Nat.le_refl _) hrf hrt hT (ckC_of C f3 (by omega)) K2 (okR_S hr (by omega)) (f3.hold hl (by omega) (by omega) (by omega) (by omega)) (f3.hold hd (by omega) (by omega) (by omega) (by omega))) (fun v s' h => ⟨h.1, h.2.1, f3.trans h.2.2⟩)
                · refine wg_iload (d70_127 L xs) rfl ?_
                  exact wg_iret (d70_129 L xs) rfl rfl (by rw [if_neg (by omega), if_neg (by omega)]; exact ⟨rfl, K2, f3⟩)
              · refine wg_aload_n (d70_100 L xs) rfl ?_
                refine wg_iload_n (d70_101 L xs) rfl ?_
                refine wn_if_ne (d70_102 L xs) (x := dep) (by omega) (t := 110) (by decide) (fun h6 => ?_) (fun h6 => ?_)
                · refine wg_aload_n (d70_110 L xs) rfl ?_
                  refine wg_get (d70_111 L xs) (kd := 1) (cj := 6) (k0 := 8) rfl (Or.inl rfl) (by decide) rfl rfl ?_
                  refine wg_top (y := ((x_ma E inn l dom t σ).2.2.2.1)) K2.2.2.1 ?_
                  refine wg_puti (d70_114 L xs) (cj := 6) (k0 := 8) rfl (by decide) rfl (Nat.le_of_ble_eq_true rfl) rfl rfl rfl ?_
                  refine wg_aload_n (d70_117 L xs) rfl ?_
                  refine wg_get (d70_118 L xs) (kd := 2) (cj := 4) (k0 := 1) rfl (Or.inr rfl) (lf_t HL).1 (tm_c (lf_t HL)) rfl ?_
                  refine wg_top (y := (nI t.2.1)) ((isTerm_of (s1 := (mg_I s2 87 8 ((x_ma E inn l dom t σ).2.2.2.1))) tm2 (mg_I_oth (by omega))).2.1 hk6) ?_
                  exact wg_iret (d70_121 L xs) rfl rfl (by rw [if_pos (by omega)]; exact ⟨rfl, isCk_mt K2 (by rw [if_neg (show ¬ dep = 0 by omega)]), f3.trans (ckf_I (by decide))⟩)
                · refine wg_iload (d70_105 L xs) rfl ?_
                  refine wg_goto (d70_107 L xs) (t := 114) (by decide) ?_
                  refine wg_puti (d70_114 L xs) (cj := 6) (k0 := 8) rfl (by decide) rfl (Nat.le_of_ble_eq_true rfl) rfl rfl rfl ?_
                  refine wg_aload_n (d70_117 L xs) rfl ?_
                  refine wg_get (d70_118 L xs) (kd := 2) (cj := 4) (k0 := 1) rfl (Or.inr rfl) (lf_t HL).1 (tm_c (lf_t HL)) rfl ?_
                  refine wg_top (y := (nI t.2.1)) ((isTerm_of (s1 := (mg_I s2 87 8 (nI n))) tm2 (mg_I_oth (by omega))).2.1 hk6) ?_
                  exact wg_iret (d70_121 L xs) rfl rfl (by rw [if_pos (by omega)]; exact ⟨rfl, isCk_mt K2 (by rw [if_pos (show dep = 0 by omega)]), f3.trans (ckf_I (by decide))⟩)
theorem ck_gt {s : mg_s} {σ : ckS} {dep lv : Nat} (hdep : dep < 11) (hv : lv = 93 + 4 * dep) (hI : okI inn) (HI : ckIn L xs (d + 21) p E dep (97 + 4 * dep) inn) (Ha : isT a) (ha7 : 7 ≤ a) (ha8 : a + 1 < 87) (C : ckC s p E) (K : isCk s σ) (hσ : okS σ) (hl : hold s a l) (hd : hold s (lv + 1) dom) (h6 : 6 ≤ l.length) : ca L xs (d + 23) 70 [.ref 87, .ref a, .int (nI dep)] s (ckP s (96 + 4 * dep) (x_gt E inn dep l dom (l.length + 1 - 6) 6 6 0 0 0 σ)) := by
  refine wg_call (Nat.le_of_ble_eq_true rfl) ?_
  have HL : isL lv := by rw [hv]; exact isL_all _ hdep
  have hlv : s.2.2.2.1 dep = some lv := by rw [hv]; exact C.2.2.2.2.2 _ hdep
  show wp L xs (d + 22) 70 0 [some (.ref 87), some (.ref a), some (.int (nI dep)), none, none, none, none, none, none, none] [] s _
  refine wg_aload_n (d70_0 L xs) rfl ?_
  refine wg_get (d70_1 L xs) (kd := 1) (cj := 6) (k0 := 1) rfl (Or.inl rfl) (by decide) rfl rfl ?_
  refine wg_iload_n (d70_4 L xs) rfl ?_
  refine wg_aald (d70_5 L xs) (n := 11) (by decide) rfl rfl (vp_in_nI (n := dep) (by omega) (by omega)) (v := .ref lv) (by rw [nI_nat (n := dep) (by omega), hlv]; rfl) ?_
  refine wg_get (d70_6 L xs) (kd := 2) (cj := 5) (k0 := 1) rfl (Or.inr rfl) HL.1 (lf_c HL) rfl ?_
  refine wg_astore_n (d70_9 L xs) (ls' := [some (.ref 87), some (.ref a), some (.int (nI dep)), some (.ref (lv + 3)), none, none, none, none, none, none]) (Nat.le_of_ble_eq_true rfl) rfl ?_
  refine wg_iconst (d70_10 L xs) (x := 0) (by decide) ?_
  refine wg_istore (d70_11 L xs) (ls' := [some (.ref 87), some (.ref a), some (.int (nI dep)), some (.ref (lv + 3)), some (.int 0), none, none, none, none, none]) (Nat.le_of_ble_eq_true rfl) rfl ?_
  refine wg_iconst (d70_13 L xs) (x := 0) (by decide) ?_
  refine wg_istore (d70_14 L xs) (ls' := [some (.ref 87), some (.ref a), some (.int (nI dep)), some (.ref (lv + 3)), some (.int 0), some (.int 0), none, none, none, none]) (Nat.le_of_ble_eq_true rfl) rfl ?_
  refine wg_iconst (d70_16 L xs) (x := 0) (by decide) ?_
  refine wg_istore (d70_17 L xs) (ls' := [some (.ref 87), some (.ref a), some (.int (nI dep)), some (.ref (lv + 3)), some (.int 0), some (.int 0), some (.int 0), none, none, none]) (Nat.le_of_ble_eq_true rfl) rfl ?_
  refine wg_ldcs (d70_19 L xs) (k0 := 0) rfl ?_
  refine wg_stl (d70_21 L xs) (k0 := 0) (n := 6) rfl rfl rfl (Nat.le_of_ble_eq_true rfl) ?_
  refine wg_top (y := 6) rfl ?_
  refine wg_istore (d70_24 L xs) (ls' := [some (.ref 87), some (.ref a), some (.int (nI dep)), some (.ref (lv + 3)), some (.int 0), some (.int 0), some (.int 0), some (.int 6), none, none]) (Nat.le_of_ble_eq_true rfl) rfl ?_
  refine wg_iload (d70_26 L xs) rfl ?_
  refine wg_istore (d70_28 L xs) (ls' := [some (.ref 87), some (.ref a), some (.int (nI dep)), some (.ref (lv + 3)), some (.int 0), some (.int 0), some (.int 0), some (.int 6), some (.int 6), none]) (Nat.le_of_ble_eq_true rfl) rfl ?_
  exact ck_gt_l hdep hv hI HI Ha ha7 ha8 _ 6 6 0 0 0 none σ s (by omega) (Nat.le_refl _) (by decide) (by decide) (fun h => absurd h (by decide)) C K hσ hl hd
theorem ck_rs2 {Q : Option Value → mg_s → Prop} {s : mg_s} {dep lv j : Nat} (HL : isL lv) (C : ckC s p E) (hd : hold s (lv + 1) dom) : ∀ (Rs : List rowT) (k : Nat) (c5 : Option Value), E.1.drop k = Rs → k ≤ E.1.length → (f_recs dom Rs = [] → ∀ c4 c5, wp L xs (d + 23) 51 121 [some (.ref 87), some (.int (nI dep)), some (.ref (lv + 1)), some (.ref (p j)), c4, c5] [] s Q) → (¬ f_recs dom Rs = [] → Q (some (.int 6)) s) → wp L xs (d + 23) 51 50 [some (.ref 87), some (.int (nI dep)), some (.ref (lv + 1)), some (.ref (p j)), some (.int (nI k)), c5] [] s Q := by
  intro Rs
  induction Rs with
  | nil =>
    intro k c5 hk hkl k1 k2
    have hR16 := C.1.2.1
    have hkl2 : E.1.length ≤ k := List.drop_eq_nil_iff.mp hk
    refine wg_iload (d51_50 L xs) rfl ?_
    refine wg_aload_n (d51_52 L xs) rfl ?_
    refine wg_get (d51_53 L xs) (kd := 1) (cj := 6) (k0 := 0) rfl (Or.inl rfl) (by decide) rfl rfl ?_
    refine wg_invv (d51_56 L xs) (kd := 7) (mj := 33) (n := 0) rfl (Or.inl rfl) (ys := []) (r := [.int (nI k)]) rfl rfl (by decide) rfl rfl (Nat.le_of_ble_eq_true rfl) tb_count ?_
    rintro _ _ ⟨rfl, rfl⟩
    refine wg_top (y := nI E.1.length) C.1.1 ?_
    refine wn_icmp_ge (d51_59 L xs) (x := k) (y := E.1.length) (by omega) (by omega) (t := 115) (by decide) (fun h1 => ?_) (fun h1 => by omega)
    refine wg_aload_n (d51_115 L xs) rfl ?_
    refine wg_ifnonnull (d51_116 L xs) (t := 121) (by decide) ?_
    exact k1 rfl _ _
  | cons q Rs ih =>
    intro k c5 hk hkl k1 k2
    have hR16 := C.1.2.1
    obtain ⟨hk1, hk2, hk3⟩ := drop_cons hk
    have hq := C.1.2.2.2.2 k q hk1
    have hb1 := bI_lt (decide (q.1 = 2) && decide (q.2.1 = dom))
    have hb2 := bI_lt (t_rec q.2.2.1)
    have hcons : f_recs dom (q :: Rs) = if ((decide (q.1 = 2) && decide (q.2.1 = dom)) && t_rec q.2.2.1) = true then q :: f_recs dom Rs else f_recs dom Rs := List.filter_cons
    refine wg_iload (d51_50 L xs) rfl ?_
    refine wg_aload_n (d51_52 L xs) rfl ?_
    refine wg_get (d51_53 L xs) (kd := 1) (cj := 6) (k0 := 0) rfl (Or.inl rfl) (by decide) rfl rfl ?_
    refine wg_invv (d51_56 L xs) (kd := 7) (mj := 33) (n := 0) rfl (Or.inl rfl) (ys := []) (r := [.int (nI k)]) rfl rfl (by decide) rfl rfl (Nat.le_of_ble_eq_true rfl) tb_count ?_
    rintro _ _ ⟨rfl, rfl⟩
    refine wg_top (y := nI E.1.length) C.1.1 ?_
    refine wn_icmp_ge (d51_59 L xs) (x := k) (y := E.1.length) (by omega) (by omega) (t := 115) (by decide) (fun h1 => by omega) (fun h1 => ?_)
    refine wg_aload_n (d51_62 L xs) rfl ?_
    refine wg_get (d51_63 L xs) (kd := 1) (cj := 6) (k0 := 0) rfl (Or.inl rfl) (by decide) rfl rfl ?_
    refine wg_iload (d51_66 L xs) rfl ?_
    refine wg_invv (d51_68 L xs) (kd := 7) (mj := 34) (n := 1) rfl (Or.inl rfl) (ys := [.int (nI k)]) (r := []) rfl rfl (by decide) rfl rfl (Nat.le_of_ble_eq_true rfl) (tb_at C.1 hk2) ?_
    rintro _ _ ⟨rfl, rfl⟩
    refine wg_astore (d51_71 L xs) (ls' := [some (.ref 87), some (.int (nI dep)), some (.ref (lv + 1)), some (.ref (p j)), some (.int (nI k)), some (.ref (p k))]) (Nat.le_of_ble_eq_true rfl) rfl ?_
    refine wg_aload (d51_73 L xs) rfl ?_
    refine wg_ifnull (d51_75 L xs) ?_
    refine wg_aload (d51_78 L xs) rfl ?_
    refine wg_iconst (d51_80 L xs) (x := 2) (by decide) ?_
    refine wg_aload_n (d51_81 L xs) rfl ?_
    refine wg_invv (d51_82 L xs) (kd := 7) (mj := 55) (n := 2) rfl (Or.inl rfl) (ys := [.ref (lv + 1), .int 2]) (r := []) rfl rfl (C.1.2.2.1 k (by omega)).2.1 (rw_c (C.1.2.2.1 k (by omega)).2) rfl (Nat.le_of_ble_eq_true rfl) (rw_is (kd := 2) (C.1.2.2.1 k (by omega)).2 hq (lf_n HL) hd (by decide)) ?_
    rintro _ _ ⟨rfl, rfl⟩
    refine wn_if_eq (d51_85 L xs) (x := bI (decide (q.1 = 2) && decide (q.2.1 = dom))) (by omega) (t := 109) (by decide) (fun h2 => ?_) (fun h2 => ?_)
    · refine wg_iinc (d51_109 L xs) (y := (nI (k + 1))) (ls' := [some (.ref 87), some (.int (nI dep)), some (.ref (lv + 1)), some (.ref (p j)), some (.int (nI (k + 1))), some (.ref (p k))]) rfl (nI_add k 1) rfl ?_
      refine wg_goto (d51_112 L xs) (t := 50) (by decide) ?_
      have hno : ¬ ((decide (q.1 = 2) && decide (q.2.1 = dom)) && t_rec q.2.2.1) = true := by first | (rw [bI_f (b := decide (q.1 = 2) && decide (q.2.1 = dom)) (by omega), Bool.false_and]; decide) | (rw [bI_f (b := t_rec q.2.2.1) (by omega), Bool.and_false]; decide)
      rw [if_neg hno] at hcons
      exact ih (k + 1) _ hk3 (by omega) (by rw [← hcons]; exact k1) (by rw [← hcons]; exact k2)
    · refine wg_aload (d51_88 L xs) rfl ?_
      refine wg_get (d51_90 L xs) (kd := 2) (cj := 2) (k0 := 2) rfl (Or.inr rfl) (C.1.2.2.1 k (by omega)).2.1 (rw_c (C.1.2.2.1 k (by omega)).2) rfl ?_
      refine wg_invs (d51_93 L xs) (kd := 6) (mj := 56) (n := 1) rfl (Or.inl rfl) (ys := [.ref (p k + 3)]) (r := []) rfl rfl (Nat.le_of_ble_eq_true rfl) (ck_rec (rw_d (C.1.2.2.1 k (by omega)).2) hq.2.2.2.1) ?_
      rintro _ _ ⟨rfl, rfl⟩
      refine wn_if_eq (d51_96 L xs) (x := bI (t_rec q.2.2.1)) (by omega) (t := 109) (by decide) (fun h3 => ?_) (fun h3 => ?_)
      · refine wg_iinc (d51_109 L xs) (y := (nI (k + 1))) (ls' := [some (.ref 87), some (.int (nI dep)), some (.ref (lv + 1)), some (.ref (p j)), some (.int (nI (k + 1))), some (.ref (p k))]) rfl (nI_add k 1) rfl ?_
        refine wg_goto (d51_112 L xs) (t := 50) (by decide) ?_
        have hno : ¬ ((decide (q.1 = 2) && decide (q.2.1 = dom)) && t_rec q.2.2.1) = true := by first | (rw [bI_f (b := decide (q.1 = 2) && decide (q.2.1 = dom)) (by omega), Bool.false_and]; decide) | (rw [bI_f (b := t_rec q.2.2.1) (by omega), Bool.and_false]; decide)
        rw [if_neg hno] at hcons
        exact ih (k + 1) _ hk3 (by omega) (by rw [← hcons]; exact k1) (by rw [← hcons]; exact k2)
      · refine wg_aload_n (d51_99 L xs) rfl ?_
        refine wg_ifnull (d51_100 L xs) ?_
        refine wg_bipush (d51_103 L xs) (x := 6) (by decide) ?_
        exact wg_iret (d51_105 L xs) rfl rfl (k2 (by rw [hcons, if_pos (by rw [bI_t (b := decide (q.1 = 2) && decide (q.2.1 = dom)) (by omega), bI_t (b := t_rec q.2.2.1) (by omega)]; rfl)]; exact List.cons_ne_nil _ _))
theorem ck_rs1 {Q : Option Value → mg_s → Prop} {s : mg_s} {dep lv : Nat} (HL : isL lv) (C : ckC s p E) (hd : hold s (lv + 1) dom) : ∀ (Rs : List rowT) (k : Nat) (c5 : Option Value), E.1.drop k = Rs → k ≤ E.1.length → (f_recs dom Rs = [] → Q (some (.int 0)) s) → (∀ j q, E.1[j]? = some q → t_rec q.2.2.1 = true → f_recs dom Rs = [q] → ∀ c4 c5, wp L xs (d + 23) 51 121 [some (.ref 87), some (.int (nI dep)), some (.ref (lv + 1)), some (.ref (p j)), c4, c5] [] s Q) → (¬ f_recs dom Rs = [] → (∀ q, ¬ f_recs dom Rs = [q]) → Q (some (.int 6)) s) → wp L xs (d + 23) 51 50 [some (.ref 87), some (.int (nI dep)), some (.ref (lv + 1)), some (.null), some (.int (nI k)), c5] [] s Q := by
  intro Rs
  induction Rs with
  | nil =>
    intro k c5 hk hkl k0 k1 k2
    have hR16 := C.1.2.1
    have hkl2 : E.1.length ≤ k := List.drop_eq_nil_iff.mp hk
    refine wg_iload (d51_50 L xs) rfl ?_
    refine wg_aload_n (d51_52 L xs) rfl ?_
    refine wg_get (d51_53 L xs) (kd := 1) (cj := 6) (k0 := 0) rfl (Or.inl rfl) (by decide) rfl rfl ?_
    refine wg_invv (d51_56 L xs) (kd := 7) (mj := 33) (n := 0) rfl (Or.inl rfl) (ys := []) (r := [.int (nI k)]) rfl rfl (by decide) rfl rfl (Nat.le_of_ble_eq_true rfl) tb_count ?_
    rintro _ _ ⟨rfl, rfl⟩
    refine wg_top (y := nI E.1.length) C.1.1 ?_
    refine wn_icmp_ge (d51_59 L xs) (x := k) (y := E.1.length) (by omega) (by omega) (t := 115) (by decide) (fun h1 => ?_) (fun h1 => by omega)
    refine wg_aload_nN (d51_115 L xs) rfl ?_
    refine wg_ifnonnullN (d51_116 L xs) ?_
    refine wg_iconst (d51_119 L xs) (x := 0) (by decide) ?_
    exact wg_iret (d51_120 L xs) rfl rfl (k0 rfl)
  | cons q Rs ih =>
    intro k c5 hk hkl k0 k1 k2
    have hR16 := C.1.2.1
    obtain ⟨hk1, hk2, hk3⟩ := drop_cons hk
    have hq := C.1.2.2.2.2 k q hk1
    have hb1 := bI_lt (decide (q.1 = 2) && decide (q.2.1 = dom))
    have hb2 := bI_lt (t_rec q.2.2.1)
    have hcons : f_recs dom (q :: Rs) = if ((decide (q.1 = 2) && decide (q.2.1 = dom)) && t_rec q.2.2.1) = true then q :: f_recs dom Rs else f_recs dom Rs := List.filter_cons
    refine wg_iload (d51_50 L xs) rfl ?_
    refine wg_aload_n (d51_52 L xs) rfl ?_
    refine wg_get (d51_53 L xs) (kd := 1) (cj := 6) (k0 := 0) rfl (Or.inl rfl) (by decide) rfl rfl ?_
    refine wg_invv (d51_56 L xs) (kd := 7) (mj := 33) (n := 0) rfl (Or.inl rfl) (ys := []) (r := [.int (nI k)]) rfl rfl (by decide) rfl rfl (Nat.le_of_ble_eq_true rfl) tb_count ?_
    rintro _ _ ⟨rfl, rfl⟩
    refine wg_top (y := nI E.1.length) C.1.1 ?_
    refine wn_icmp_ge (d51_59 L xs) (x := k) (y := E.1.length) (by omega) (by omega) (t := 115) (by decide) (fun h1 => by omega) (fun h1 => ?_)
    refine wg_aload_n (d51_62 L xs) rfl ?_
    refine wg_get (d51_63 L xs) (kd := 1) (cj := 6) (k0 := 0) rfl (Or.inl rfl) (by decide) rfl rfl ?_
    refine wg_iload (d51_66 L xs) rfl ?_
    refine wg_invv (d51_68 L xs) (kd := 7) (mj := 34) (n := 1) rfl (Or.inl rfl) (ys := [.int (nI k)]) (r := []) rfl rfl (by decide) rfl rfl (Nat.le_of_ble_eq_true rfl) (tb_at C.1 hk2) ?_
    rintro _ _ ⟨rfl, rfl⟩
    refine wg_astore (d51_71 L xs) (ls' := [some (.ref 87), some (.int (nI dep)), some (.ref (lv + 1)), some (.null), some (.int (nI k)), some (.ref (p k))]) (Nat.le_of_ble_eq_true rfl) rfl ?_
    refine wg_aload (d51_73 L xs) rfl ?_
    refine wg_ifnull (d51_75 L xs) ?_
    refine wg_aload (d51_78 L xs) rfl ?_
    refine wg_iconst (d51_80 L xs) (x := 2) (by decide) ?_
    refine wg_aload_n (d51_81 L xs) rfl ?_
    refine wg_invv (d51_82 L xs) (kd := 7) (mj := 55) (n := 2) rfl (Or.inl rfl) (ys := [.ref (lv + 1), .int 2]) (r := []) rfl rfl (C.1.2.2.1 k (by omega)).2.1 (rw_c (C.1.2.2.1 k (by omega)).2) rfl (Nat.le_of_ble_eq_true rfl) (rw_is (kd := 2) (C.1.2.2.1 k (by omega)).2 hq (lf_n HL) hd (by decide)) ?_
    rintro _ _ ⟨rfl, rfl⟩
    refine wn_if_eq (d51_85 L xs) (x := bI (decide (q.1 = 2) && decide (q.2.1 = dom))) (by omega) (t := 109) (by decide) (fun h2 => ?_) (fun h2 => ?_)
    · refine wg_iinc (d51_109 L xs) (y := (nI (k + 1))) (ls' := [some (.ref 87), some (.int (nI dep)), some (.ref (lv + 1)), some (.null), some (.int (nI (k + 1))), some (.ref (p k))]) rfl (nI_add k 1) rfl ?_
      refine wg_goto (d51_112 L xs) (t := 50) (by decide) ?_
      have hno : ¬ ((decide (q.1 = 2) && decide (q.2.1 = dom)) && t_rec q.2.2.1) = true := by first | (rw [bI_f (b := decide (q.1 = 2) && decide (q.2.1 = dom)) (by omega), Bool.false_and]; decide) | (rw [bI_f (b := t_rec q.2.2.1) (by omega), Bool.and_false]; decide)
      rw [if_neg hno] at hcons
      exact ih (k + 1) _ hk3 (by omega) (by rw [← hcons]; exact k0) (by rw [← hcons]; exact k1) (by rw [← hcons]; exact k2)
    · refine wg_aload (d51_88 L xs) rfl ?_
      refine wg_get (d51_90 L xs) (kd := 2) (cj := 2) (k0 := 2) rfl (Or.inr rfl) (C.1.2.2.1 k (by omega)).2.1 (rw_c (C.1.2.2.1 k (by omega)).2) rfl ?_
      refine wg_invs (d51_93 L xs) (kd := 6) (mj := 56) (n := 1) rfl (Or.inl rfl) (ys := [.ref (p k + 3)]) (r := []) rfl rfl (Nat.le_of_ble_eq_true rfl) (ck_rec (rw_d (C.1.2.2.1 k (by omega)).2) hq.2.2.2.1) ?_
      rintro _ _ ⟨rfl, rfl⟩
      refine wn_if_eq (d51_96 L xs) (x := bI (t_rec q.2.2.1)) (by omega) (t := 109) (by decide) (fun h3 => ?_) (fun h3 => ?_)
      · refine wg_iinc (d51_109 L xs) (y := (nI (k + 1))) (ls' := [some (.ref 87), some (.int (nI dep)), some (.ref (lv + 1)), some (.null), some (.int (nI (k + 1))), some (.ref (p k))]) rfl (nI_add k 1) rfl ?_
        refine wg_goto (d51_112 L xs) (t := 50) (by decide) ?_
        have hno : ¬ ((decide (q.1 = 2) && decide (q.2.1 = dom)) && t_rec q.2.2.1) = true := by first | (rw [bI_f (b := decide (q.1 = 2) && decide (q.2.1 = dom)) (by omega), Bool.false_and]; decide) | (rw [bI_f (b := t_rec q.2.2.1) (by omega), Bool.and_false]; decide)
        rw [if_neg hno] at hcons
        exact ih (k + 1) _ hk3 (by omega) (by rw [← hcons]; exact k0) (by rw [← hcons]; exact k1) (by rw [← hcons]; exact k2)
      · refine wg_aload_nN (d51_99 L xs) rfl ?_
        refine wg_ifnullN (d51_100 L xs) (t := 106) (by decide) ?_
        refine wg_aload (d51_106 L xs) rfl ?_
        refine wg_astore_n (d51_108 L xs) (ls' := [some (.ref 87), some (.int (nI dep)), some (.ref (lv + 1)), some (.ref (p k)), some (.int (nI k)), some (.ref (p k))]) (Nat.le_of_ble_eq_true rfl) rfl ?_
        refine wg_iinc (d51_109 L xs) (y := (nI (k + 1))) (ls' := [some (.ref 87), some (.int (nI dep)), some (.ref (lv + 1)), some (.ref (p k)), some (.int (nI (k + 1))), some (.ref (p k))]) rfl (nI_add k 1) rfl ?_
        refine wg_goto (d51_112 L xs) (t := 50) (by decide) ?_
        have ht := bI_t (b := t_rec q.2.2.1) (by omega)
        rw [if_pos (by rw [bI_t (b := decide (q.1 = 2) && decide (q.2.1 = dom)) (by omega), ht]; rfl)] at hcons
        exact ck_rs2 HL C hd Rs (k + 1) _ hk3 (by omega) (fun e => k1 k q hk1 ht (by rw [hcons, e])) (fun e => k2 (by rw [hcons]; exact List.cons_ne_nil _ _) (fun q2 e2 => by rw [hcons] at e2; exact e (List.cons.inj e2).2))
theorem ck_e3 {s : mg_s} {σ : ckS} {dep lv j : Nat} {q : rowT} {c4 c5 : Option Value} (hdep : dep < 11) (hv : lv = 93 + 4 * dep) (hI : okI inn) (HI : ckIn L xs (d + 21) p E dep (97 + 4 * dep) inn) (C : ckC s p E) (K : isCk s σ) (hσ : okS σ) (hd : hold s (lv + 1) dom) (hj : E.1[j]? = some q) (hr : t_rec q.2.2.1 = true) : wp L xs (d + 23) 51 121 [some (.ref 87), some (.int (nI dep)), some (.ref (lv + 1)), some (.ref (p j)), c4, c5] [] s (ckP s (96 + 4 * dep) (x_e3 E inn dep dom q.2.2.1 σ)) := by
  have HL : isL lv := by rw [hv]; exact isL_all _ hdep
  have hlv : s.2.2.2.1 dep = some lv := by rw [hv]; exact C.2.2.2.2.2 _ hdep
  have hj16 : j < 16 := Nat.lt_of_lt_of_le (List.getElem?_eq_some_iff.mp hj).1 C.1.2.1
  have Hj := (C.1.2.2.1 j hj16).2
  have hjl := rw_lt Hj
  have hq := C.1.2.2.2.2 j q hj
  have hbl := bI_lt (t_al q.2.2.1)
  have h6 : 6 ≤ q.2.2.1.length := by
    unfold t_rec t_word at hr
    rw [Bool.and_eq_true, Bool.and_eq_true, decide_eq_true_eq] at hr
    have h9 := hr.1.1
    have h8 : w_spf.length = 6 := rfl
    omega
  refine wg_aload_n (d51_121 L xs) rfl ?_
  refine wg_get (d51_122 L xs) (kd := 2) (cj := 2) (k0 := 2) rfl (Or.inr rfl) Hj.1 (rw_c Hj) rfl ?_
  refine wg_aload_n (d51_125 L xs) rfl ?_
  refine wg_get (d51_126 L xs) (kd := 1) (cj := 6) (k0 := 1) rfl (Or.inl rfl) (by decide) rfl rfl ?_
  refine wg_iload_n (d51_129 L xs) rfl ?_
  refine wg_aald (d51_130 L xs) (n := 11) (by decide) rfl rfl (vp_in_nI (n := dep) (by omega) (by omega)) (v := .ref lv) (by rw [nI_nat (n := dep) (by omega), hlv]; rfl) ?_
  refine wg_get (d51_131 L xs) (kd := 2) (cj := 5) (k0 := 1) rfl (Or.inr rfl) HL.1 (lf_c HL) rfl ?_
  refine wg_invs (d51_134 L xs) (kd := 6) (mj := 58) (n := 2) rfl (Or.inl rfl) (ys := [.ref (lv + 3), .ref (p j + 3)]) (r := []) rfl rfl (Nat.le_of_ble_eq_true rfl) (ck_al (rw_d Hj) hq.2.2.2.1 (lf_t HL) (by omega) h6) ?_
  rintro _ _ ⟨rfl, f, rfl⟩
  have f1 : ckf s (mg_M s (lv + 3) f) (96 + 4 * dep) := ckf_M (by omega) (by omega) (by omega)
  have C1 := ckC_of C f1 (by omega)
  have K1 := isCk_M (f := f) K (show ¬ lv + 3 = 5 by omega) (show ¬ lv + 3 = 87 by omega)
  refine wn_if_ne (d51_137 L xs) (x := bI (t_al q.2.2.1)) (by omega) (t := 143) (by decide) (fun h1 => ?_) (fun h1 => ?_)
  · refine wg_aload_n (d51_143 L xs) rfl ?_
    refine wg_aload_n (d51_144 L xs) rfl ?_
    refine wg_get (d51_145 L xs) (kd := 2) (cj := 2) (k0 := 2) rfl (Or.inr rfl) Hj.1 (rw_c Hj) rfl ?_
    refine wg_iload_n (d51_148 L xs) rfl ?_
    refine wg_invv (d51_149 L xs) (kd := 7) (mj := 70) (n := 2) rfl (Or.inl rfl) (ys := [.int (nI dep), .ref (p j + 3)]) (r := []) rfl rfl (by decide) rfl rfl (Nat.le_of_ble_eq_true rfl) (ck_gt hdep hv hI HI (rw_d Hj) (by omega) (by omega) C1 K1 hσ (hold_M hq.2.2.2.1 (by omega)) (hold_M hd (by omega)) h6) ?_
    rintro _ s2 ⟨rfl, K2, f2⟩
    exact wg_iret (d51_152 L xs) rfl rfl (by rw [x_e3, if_pos (bI_t (b := t_al q.2.2.1) (by omega))]; exact ⟨rfl, K2, f1.trans f2⟩)
  · refine wg_bipush (d51_140 L xs) (x := 6) (by decide) ?_
    exact wg_iret (d51_142 L xs) rfl rfl (by rw [x_e3, if_neg (by rw [bI_f (b := t_al q.2.2.1) (by omega)]; decide)]; exact ⟨rfl, K1, f1⟩)
theorem ck_e1 {dep : Nat} (hdep : dep < 11) (hI : okI inn) (HI : ckIn L xs (d + 21) p E dep (97 + 4 * dep) inn) : ckEv L xs (d + 24) p E dep (fun dom σ => x_e1 E inn dep dom (st_ck σ)) := by
  intro s σ dom C K hσ hd
  refine wg_call (Nat.le_of_ble_eq_true rfl) ?_
  obtain ⟨lv, hv⟩ : ∃ lv, lv = 93 + 4 * dep := ⟨_, rfl⟩
  have HL : isL lv := by rw [hv]; exact isL_all _ hdep
  have hlv : s.2.2.2.1 dep = some lv := by rw [hv]; exact C.2.2.2.2.2 _ hdep
  rw [show 94 + 4 * dep = lv + 1 by omega] at hd
  have hdl := hd.1.2
  rw [lf_ln HL] at hdl
  have hfl := f_last_le (g := gl dom) (parts := 1) dom.length 0
  show wp L xs (d + 23) 51 0 [some (.ref 87), some (.int (nI dep)), none, none, none, none] [] s (ckP s (96 + 4 * dep) (x_e1 E inn dep dom (st_ck σ)))
  refine wg_aload_n (d51_0 L xs) rfl ?_
  refine wg_dup (d51_1 L xs) rfl ?_
  refine wg_get (d51_2 L xs) (kd := 1) (cj := 6) (k0 := 9) rfl (Or.inl rfl) (by decide) rfl rfl ?_
  refine wg_top (y := (nI σ.2.2.2.1)) K.2.2.2.1 ?_
  refine wg_iconst (d51_5 L xs) (x := 1) (by decide) ?_
  refine wg_iadd (d51_6 L xs) ?_
  refine wg_top (y := (nI (σ.2.2.2.1 + 1))) (nI_add σ.2.2.2.1 1) ?_
  refine wg_puti (d51_7 L xs) (cj := 6) (k0 := 9) rfl (by decide) rfl (Nat.le_of_ble_eq_true rfl) rfl rfl rfl ?_
  have K1 := isCk_ck K
  have f1 : ckf s (mg_I s 87 9 (nI (σ.2.2.2.1 + 1))) (96 + 4 * dep) := ckf_I (by decide)
  have C1 := ckC_of C f1 (by omega)
  have hd1 : hold (mg_I s 87 9 (nI (σ.2.2.2.1 + 1))) (lv + 1) dom := hold_I hd (by omega)
  refine wg_aload_n (d51_10 L xs) rfl ?_
  refine wg_get (d51_11 L xs) (kd := 1) (cj := 6) (k0 := 1) rfl (Or.inl rfl) (by decide) rfl rfl ?_
  refine wg_iload_n (d51_14 L xs) rfl ?_
  refine wg_aald (d51_15 L xs) (n := 11) (by decide) rfl rfl (vp_in_nI (n := dep) (by omega) (by omega)) (v := .ref lv) (by rw [nI_nat (n := dep) (by omega), (show (mg_I s 87 9 (nI (σ.2.2.2.1 + 1))).2.2.2.1 dep = some lv from hlv)]; rfl) ?_
  refine wg_get (d51_16 L xs) (kd := 2) (cj := 5) (k0 := 0) rfl (Or.inr rfl) HL.1 (lf_c HL) rfl ?_
  refine wg_astore_n (d51_19 L xs) (ls' := [some (.ref 87), some (.int (nI dep)), some (.ref (lv + 1)), none, none, none]) (Nat.le_of_ble_eq_true rfl) rfl ?_
  refine wg_aload_n (d51_20 L xs) rfl ?_
  refine wg_iconst (d51_21 L xs) (x := 1) (by decide) ?_
  refine wg_invv (d51_22 L xs) (kd := 7) (mj := 52) (n := 1) rfl (Or.inl rfl) (ys := [.int 1]) (r := []) rfl rfl (lf_n HL).1 (tx_c (lf_n HL)) rfl (Nat.le_of_ble_eq_true rfl) (ts_last (parts := 1) (lf_n HL) hd1 (by decide)) ?_
  rintro _ _ ⟨rfl, rfl⟩
  refine wn_if_ne (d51_25 L xs) (x := f_last (gl dom) 1 0 dom.length) (by omega) (t := 30) (by decide) (fun h1 => ?_) (fun h1 => ?_)
  · refine wg_aload_n (d51_30 L xs) rfl ?_
    refine wg_get (d51_31 L xs) (kd := 1) (cj := 6) (k0 := 0) rfl (Or.inl rfl) (by decide) rfl rfl ?_
    refine wg_aload_n (d51_34 L xs) rfl ?_
    refine wg_iconst (d51_35 L xs) (x := 2) (by decide) ?_
    refine wg_invv (d51_36 L xs) (kd := 7) (mj := 53) (n := 2) rfl (Or.inl rfl) (ys := [.int 2, .ref (lv + 1)]) (r := []) rfl rfl (by decide) rfl rfl (Nat.le_of_ble_eq_true rfl) (tb_ask (kd := 2) C1.1 (lf_n HL) hd1 (by omega) (by omega) (by decide)) ?_
    rintro _ s2 ⟨rfl, e2⟩
    have K2 := isCk_ask K1 e2
    have f2 : ckf s s2 (96 + 4 * dep) := f1.trans (ckf_T e2 (Or.inl rfl) (by decide))
    have C2 := ckC_of C f2 (by omega)
    have hd2 := e2.other (b := lv + 1) (by omega) hd1
    cases hq : f_ask dom 2 E.1 0 with
    | none =>
      show wp L xs (d + 23) 51 39 [some (.ref 87), some (.int (nI dep)), some (.ref (lv + 1)), none, none, none] [.int (-1)] s2 _
      refine wg_iconst (d51_39 L xs) (x := (-1)) (by decide) ?_
      refine wg_icmp_ne (d51_40 L xs) (t := 45) (by decide) (fun hp => absurd hp (by decide)) (fun _ => ?_)
      refine wg_iconst (d51_43 L xs) (x := 5) (by decide) ?_
      exact wg_iret (d51_44 L xs) rfl rfl (by rw [x_e1, if_neg (by omega), x_e2, hq]; exact ⟨rfl, K2, f2⟩)
    | some k =>
      have hk := f_ask_lt _ _ _ hq
      have hR16 := C.1.2.1
      show wp L xs (d + 23) 51 39 [some (.ref 87), some (.int (nI dep)), some (.ref (lv + 1)), none, none, none] [.int (nI k)] s2 _
      refine wg_iconst (d51_39 L xs) (x := (-1)) (by decide) ?_
      refine wg_icmp_ne (d51_40 L xs) (t := 45) (by decide) (fun h1 => ?_) (fun h1 => absurd (Classical.not_not.mp h1) (nI_neg1 (by omega)))
      refine wg_null (d51_45 L xs) ?_
      refine wg_astore_nN (d51_46 L xs) (ls' := [some (.ref 87), some (.int (nI dep)), some (.ref (lv + 1)), some (.null), none, none]) (Nat.le_of_ble_eq_true rfl) rfl ?_
      refine wg_iconst (d51_47 L xs) (x := 0) (by decide) ?_
      refine wg_istore (d51_48 L xs) (ls' := [some (.ref 87), some (.int (nI dep)), some (.ref (lv + 1)), some (.null), some (.int 0), none]) (Nat.le_of_ble_eq_true rfl) rfl ?_
      have hx : x_e1 E inn dep dom (st_ck σ) = match f_recs dom E.1 with
          | [] => (0, st_ask (st_ck σ) dom σ.2.1)
          | [q] => x_e3 E inn dep dom q.2.2.1 (st_ask (st_ck σ) dom σ.2.1)
          | _ => (6, st_ask (st_ck σ) dom σ.2.1) := by rw [x_e1, if_neg (by omega), x_e2, hq]; rfl
      refine ck_rs1 HL C2 hd2 E.1 0 none rfl (Nat.zero_le _) (fun e => ?_) (fun j q hj hr e c4 c5 => ?_) (fun e e2 => ?_)
      · rw [hx, e]; exact ⟨rfl, K2, f2⟩
      · rw [hx, e]
        exact wp_mono (ck_e3 hdep hv hI HI C2 K2 hσ hd2 hj hr) (fun v s' h => ⟨h.1, h.2.1, f2.trans h.2.2⟩)
      · have h6 : x_e1 E inn dep dom (st_ck σ) = (6, st_ask (st_ck σ) dom σ.2.1) := by
          rw [hx]
          revert e e2
          generalize f_recs dom E.1 = z
          intro e e2
          cases z with
          | nil => exact absurd rfl e
          | cons y ys => cases ys with
            | nil => exact absurd rfl (e2 y)
            | cons w ws => rfl
        rw [h6]
        exact ⟨rfl, K2, f2⟩
  · refine wg_iconst (d51_28 L xs) (x := 0) (by decide) ?_
    exact wg_iret (d51_29 L xs) rfl rfl (by rw [x_e1, if_pos (by omega)]; exact ⟨rfl, K1, f1⟩)
theorem ck_ev : ∀ (n dep d : Nat), dep + n = 10 → ckEv L xs (d + 4 * n + 24) p E dep (x_ev E n dep) := by
  intro n
  induction n with
  | zero =>
    intro dep d hdep
    exact ck_e1 (by omega) ok_six (ck_ee0 (by omega))
  | succ n ih =>
    intro dep d hdep
    have h := ih (dep + 1) d (by omega)
    rw [show d + 4 * n + 24 = (d + 4 * n + 4) + 20 by omega] at h
    have h2 := ck_e1 (dep := dep) (by omega) (ok_in (ok_ev n (dep + 1))) (ck_ee (by omega) (ok_ev n (dep + 1)) h)
    rw [show d + 4 * (n + 1) + 24 = (d + 4 * n + 4) + 24 by omega]
    exact h2
end CG
