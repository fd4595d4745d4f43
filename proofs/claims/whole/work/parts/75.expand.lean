/-! the checker: what a macro stands for, a target written out -/
theorem d75_0 (L : Nat) (xs : Nat → Int32) : decode (ax_code (mgT L xs) 75) 0 = .ok (.aload_n 0, 1) := by
  show decode prog_2_method_24_code 0 = _
  decide +kernel
theorem d75_1 (L : Nat) (xs : Nat → Int32) : decode (ax_code (mgT L xs) 75) 1 = .ok (.getfield 22, 3) := by
  show decode prog_2_method_24_code 1 = _
  decide +kernel
theorem d75_4 (L : Nat) (xs : Nat → Int32) : decode (ax_code (mgT L xs) 75) 4 = .ok (.invokevirtual 56, 3) := by
  show decode prog_2_method_24_code 4 = _
  decide +kernel
theorem d75_7 (L : Nat) (xs : Nat → Int32) : decode (ax_code (mgT L xs) 75) 7 = .ok (.iload_n 2, 1) := by
  show decode prog_2_method_24_code 7 = _
  decide +kernel
theorem d75_8 (L : Nat) (xs : Nat → Int32) : decode (ax_code (mgT L xs) 75) 8 = .ok (.istore 5, 2) := by
  show decode prog_2_method_24_code 8 = _
  decide +kernel
theorem d75_10 (L : Nat) (xs : Nat → Int32) : decode (ax_code (mgT L xs) 75) 10 = .ok (.iload 5, 2) := by
  show decode prog_2_method_24_code 10 = _
  decide +kernel
theorem d75_12 (L : Nat) (xs : Nat → Int32) : decode (ax_code (mgT L xs) 75) 12 = .ok (.iload_n 3, 1) := by
  show decode prog_2_method_24_code 12 = _
  decide +kernel
theorem d75_13 (L : Nat) (xs : Nat → Int32) : decode (ax_code (mgT L xs) 75) 13 = .ok (.if_icmp .ge 79, 3) := by
  show decode prog_2_method_24_code 13 = _
  decide +kernel
theorem d75_16 (L : Nat) (xs : Nat → Int32) : decode (ax_code (mgT L xs) 75) 16 = .ok (.aload_n 1, 1) := by
  show decode prog_2_method_24_code 16 = _
  decide +kernel
theorem d75_17 (L : Nat) (xs : Nat → Int32) : decode (ax_code (mgT L xs) 75) 17 = .ok (.iload 5, 2) := by
  show decode prog_2_method_24_code 17 = _
  decide +kernel
theorem d75_19 (L : Nat) (xs : Nat → Int32) : decode (ax_code (mgT L xs) 75) 19 = .ok (.invokevirtual 139, 3) := by
  show decode prog_2_method_24_code 19 = _
  decide +kernel
theorem d75_22 (L : Nat) (xs : Nat → Int32) : decode (ax_code (mgT L xs) 75) 22 = .ok (.istore 6, 2) := by
  show decode prog_2_method_24_code 22 = _
  decide +kernel
theorem d75_24 (L : Nat) (xs : Nat → Int32) : decode (ax_code (mgT L xs) 75) 24 = .ok (.iload 6, 2) := by
  show decode prog_2_method_24_code 24 = _
  decide +kernel
theorem d75_26 (L : Nat) (xs : Nat → Int32) : decode (ax_code (mgT L xs) 75) 26 = .ok (.bipush 37, 2) := by
  show decode prog_2_method_24_code 26 = _
  decide +kernel
theorem d75_28 (L : Nat) (xs : Nat → Int32) : decode (ax_code (mgT L xs) 75) 28 = .ok (.if_icmp .ne 13, 3) := by
  show decode prog_2_method_24_code 28 = _
  decide +kernel
theorem d75_31 (L : Nat) (xs : Nat → Int32) : decode (ax_code (mgT L xs) 75) 31 = .ok (.aload_n 1, 1) := by
  show decode prog_2_method_24_code 31 = _
  decide +kernel
theorem d75_32 (L : Nat) (xs : Nat → Int32) : decode (ax_code (mgT L xs) 75) 32 = .ok (.iload 5, 2) := by
  show decode prog_2_method_24_code 32 = _
  decide +kernel
theorem d75_34 (L : Nat) (xs : Nat → Int32) : decode (ax_code (mgT L xs) 75) 34 = .ok (.iload_n 3, 1) := by
  show decode prog_2_method_24_code 34 = _
  decide +kernel
theorem d75_35 (L : Nat) (xs : Nat → Int32) : decode (ax_code (mgT L xs) 75) 35 = .ok (.invokestatic 210, 3) := by
  show decode prog_2_method_24_code 35 = _
  decide +kernel
theorem d75_38 (L : Nat) (xs : Nat → Int32) : decode (ax_code (mgT L xs) 75) 38 = .ok (.goto 5, 3) := by
  show decode prog_2_method_24_code 38 = _
  decide +kernel
theorem d75_41 (L : Nat) (xs : Nat → Int32) : decode (ax_code (mgT L xs) 75) 41 = .ok (.iload 5, 2) := by
  show decode prog_2_method_24_code 41 = _
  decide +kernel
theorem d75_43 (L : Nat) (xs : Nat → Int32) : decode (ax_code (mgT L xs) 75) 43 = .ok (.istore 7, 2) := by
  show decode prog_2_method_24_code 43 = _
  decide +kernel
theorem d75_45 (L : Nat) (xs : Nat → Int32) : decode (ax_code (mgT L xs) 75) 45 = .ok (.iload 7, 2) := by
  show decode prog_2_method_24_code 45 = _
  decide +kernel
theorem d75_47 (L : Nat) (xs : Nat → Int32) : decode (ax_code (mgT L xs) 75) 47 = .ok (.iload 5, 2) := by
  show decode prog_2_method_24_code 47 = _
  decide +kernel
theorem d75_49 (L : Nat) (xs : Nat → Int32) : decode (ax_code (mgT L xs) 75) 49 = .ok (.iconst 1, 1) := by
  show decode prog_2_method_24_code 49 = _
  decide +kernel
theorem d75_50 (L : Nat) (xs : Nat → Int32) : decode (ax_code (mgT L xs) 75) 50 = .ok (.iadd, 1) := by
  show decode prog_2_method_24_code 50 = _
  decide +kernel
theorem d75_51 (L : Nat) (xs : Nat → Int32) : decode (ax_code (mgT L xs) 75) 51 = .ok (.if_icmp .le 17, 3) := by
  show decode prog_2_method_24_code 51 = _
  decide +kernel
theorem d75_54 (L : Nat) (xs : Nat → Int32) : decode (ax_code (mgT L xs) 75) 54 = .ok (.aload_n 0, 1) := by
  show decode prog_2_method_24_code 54 = _
  decide +kernel
theorem d75_55 (L : Nat) (xs : Nat → Int32) : decode (ax_code (mgT L xs) 75) 55 = .ok (.aload_n 1, 1) := by
  show decode prog_2_method_24_code 55 = _
  decide +kernel
theorem d75_56 (L : Nat) (xs : Nat → Int32) : decode (ax_code (mgT L xs) 75) 56 = .ok (.iload 5, 2) := by
  show decode prog_2_method_24_code 56 = _
  decide +kernel
theorem d75_58 (L : Nat) (xs : Nat → Int32) : decode (ax_code (mgT L xs) 75) 58 = .ok (.iload 7, 2) := by
  show decode prog_2_method_24_code 58 = _
  decide +kernel
theorem d75_60 (L : Nat) (xs : Nat → Int32) : decode (ax_code (mgT L xs) 75) 60 = .ok (.aload 4, 2) := by
  show decode prog_2_method_24_code 60 = _
  decide +kernel
theorem d75_62 (L : Nat) (xs : Nat → Int32) : decode (ax_code (mgT L xs) 75) 62 = .ok (.invokevirtual 214, 3) := by
  show decode prog_2_method_24_code 62 = _
  decide +kernel
theorem d75_65 (L : Nat) (xs : Nat → Int32) : decode (ax_code (mgT L xs) 75) 65 = .ok (.goto 12, 3) := by
  show decode prog_2_method_24_code 65 = _
  decide +kernel
theorem d75_68 (L : Nat) (xs : Nat → Int32) : decode (ax_code (mgT L xs) 75) 68 = .ok (.aload_n 0, 1) := by
  show decode prog_2_method_24_code 68 = _
  decide +kernel
theorem d75_69 (L : Nat) (xs : Nat → Int32) : decode (ax_code (mgT L xs) 75) 69 = .ok (.getfield 22, 3) := by
  show decode prog_2_method_24_code 69 = _
  decide +kernel
theorem d75_72 (L : Nat) (xs : Nat → Int32) : decode (ax_code (mgT L xs) 75) 72 = .ok (.iload 6, 2) := by
  show decode prog_2_method_24_code 72 = _
  decide +kernel
theorem d75_74 (L : Nat) (xs : Nat → Int32) : decode (ax_code (mgT L xs) 75) 74 = .ok (.invokevirtual 62, 3) := by
  show decode prog_2_method_24_code 74 = _
  decide +kernel
theorem d75_77 (L : Nat) (xs : Nat → Int32) : decode (ax_code (mgT L xs) 75) 77 = .ok (.iload 5, 2) := by
  show decode prog_2_method_24_code 77 = _
  decide +kernel
theorem d75_79 (L : Nat) (xs : Nat → Int32) : decode (ax_code (mgT L xs) 75) 79 = .ok (.iload 7, 2) := by
  show decode prog_2_method_24_code 79 = _
  decide +kernel
theorem d75_81 (L : Nat) (xs : Nat → Int32) : decode (ax_code (mgT L xs) 75) 81 = .ok (.invokestatic 217, 3) := by
  show decode prog_2_method_24_code 81 = _
  decide +kernel
theorem d75_84 (L : Nat) (xs : Nat → Int32) : decode (ax_code (mgT L xs) 75) 84 = .ok (.istore 5, 2) := by
  show decode prog_2_method_24_code 84 = _
  decide +kernel
theorem d75_86 (L : Nat) (xs : Nat → Int32) : decode (ax_code (mgT L xs) 75) 86 = .ok (.iinc 5 1, 3) := by
  show decode prog_2_method_24_code 86 = _
  decide +kernel
theorem d75_89 (L : Nat) (xs : Nat → Int32) : decode (ax_code (mgT L xs) 75) 89 = .ok (.goto (-79), 3) := by
  show decode prog_2_method_24_code 89 = _
  decide +kernel
theorem d75_92 (L : Nat) (xs : Nat → Int32) : decode (ax_code (mgT L xs) 75) 92 = .ok (.return_, 1) := by
  show decode prog_2_method_24_code 92 = _
  decide +kernel
theorem d76_0 (L : Nat) (xs : Nat → Int32) : decode (ax_code (mgT L xs) 76) 0 = .ok (.aload_n 1, 1) := by
  show decode prog_2_method_25_code 0 = _
  decide +kernel
theorem d76_1 (L : Nat) (xs : Nat → Int32) : decode (ax_code (mgT L xs) 76) 1 = .ok (.iload_n 2, 1) := by
  show decode prog_2_method_25_code 1 = _
  decide +kernel
theorem d76_2 (L : Nat) (xs : Nat → Int32) : decode (ax_code (mgT L xs) 76) 2 = .ok (.iconst 2, 1) := by
  show decode prog_2_method_25_code 2 = _
  decide +kernel
theorem d76_3 (L : Nat) (xs : Nat → Int32) : decode (ax_code (mgT L xs) 76) 3 = .ok (.iadd, 1) := by
  show decode prog_2_method_25_code 3 = _
  decide +kernel
theorem d76_4 (L : Nat) (xs : Nat → Int32) : decode (ax_code (mgT L xs) 76) 4 = .ok (.invokevirtual 139, 3) := by
  show decode prog_2_method_25_code 4 = _
  decide +kernel
theorem d76_7 (L : Nat) (xs : Nat → Int32) : decode (ax_code (mgT L xs) 76) 7 = .ok (.istore 5, 2) := by
  show decode prog_2_method_25_code 7 = _
  decide +kernel
theorem d76_9 (L : Nat) (xs : Nat → Int32) : decode (ax_code (mgT L xs) 76) 9 = .ok (.aload_n 1, 1) := by
  show decode prog_2_method_25_code 9 = _
  decide +kernel
theorem d76_10 (L : Nat) (xs : Nat → Int32) : decode (ax_code (mgT L xs) 76) 10 = .ok (.iload_n 2, 1) := by
  show decode prog_2_method_25_code 10 = _
  decide +kernel
theorem d76_11 (L : Nat) (xs : Nat → Int32) : decode (ax_code (mgT L xs) 76) 11 = .ok (.iconst 3, 1) := by
  show decode prog_2_method_25_code 11 = _
  decide +kernel
theorem d76_12 (L : Nat) (xs : Nat → Int32) : decode (ax_code (mgT L xs) 76) 12 = .ok (.iadd, 1) := by
  show decode prog_2_method_25_code 12 = _
  decide +kernel
theorem d76_13 (L : Nat) (xs : Nat → Int32) : decode (ax_code (mgT L xs) 76) 13 = .ok (.invokevirtual 139, 3) := by
  show decode prog_2_method_25_code 13 = _
  decide +kernel
theorem d76_16 (L : Nat) (xs : Nat → Int32) : decode (ax_code (mgT L xs) 76) 16 = .ok (.istore 6, 2) := by
  show decode prog_2_method_25_code 16 = _
  decide +kernel
theorem d76_18 (L : Nat) (xs : Nat → Int32) : decode (ax_code (mgT L xs) 76) 18 = .ok (.iload 5, 2) := by
  show decode prog_2_method_25_code 18 = _
  decide +kernel
theorem d76_20 (L : Nat) (xs : Nat → Int32) : decode (ax_code (mgT L xs) 76) 20 = .ok (.bipush 100, 2) := by
  show decode prog_2_method_25_code 20 = _
  decide +kernel
theorem d76_22 (L : Nat) (xs : Nat → Int32) : decode (ax_code (mgT L xs) 76) 22 = .ok (.if_icmp .ne 8, 3) := by
  show decode prog_2_method_25_code 22 = _
  decide +kernel
theorem d76_25 (L : Nat) (xs : Nat → Int32) : decode (ax_code (mgT L xs) 76) 25 = .ok (.aload 4, 2) := by
  show decode prog_2_method_25_code 25 = _
  decide +kernel
theorem d76_27 (L : Nat) (xs : Nat → Int32) : decode (ax_code (mgT L xs) 76) 27 = .ok (.goto 21, 3) := by
  show decode prog_2_method_25_code 27 = _
  decide +kernel
theorem d76_30 (L : Nat) (xs : Nat → Int32) : decode (ax_code (mgT L xs) 76) 30 = .ok (.iload 5, 2) := by
  show decode prog_2_method_25_code 30 = _
  decide +kernel
theorem d76_32 (L : Nat) (xs : Nat → Int32) : decode (ax_code (mgT L xs) 76) 32 = .ok (.bipush 105, 2) := by
  show decode prog_2_method_25_code 32 = _
  decide +kernel
theorem d76_34 (L : Nat) (xs : Nat → Int32) : decode (ax_code (mgT L xs) 76) 34 = .ok (.if_icmp .ne 10, 3) := by
  show decode prog_2_method_25_code 34 = _
  decide +kernel
theorem d76_37 (L : Nat) (xs : Nat → Int32) : decode (ax_code (mgT L xs) 76) 37 = .ok (.aload_n 0, 1) := by
  show decode prog_2_method_25_code 37 = _
  decide +kernel
theorem d76_38 (L : Nat) (xs : Nat → Int32) : decode (ax_code (mgT L xs) 76) 38 = .ok (.getfield 26, 3) := by
  show decode prog_2_method_25_code 38 = _
  decide +kernel
theorem d76_41 (L : Nat) (xs : Nat → Int32) : decode (ax_code (mgT L xs) 76) 41 = .ok (.goto 7, 3) := by
  show decode prog_2_method_25_code 41 = _
  decide +kernel
theorem d76_44 (L : Nat) (xs : Nat → Int32) : decode (ax_code (mgT L xs) 76) 44 = .ok (.aload_n 0, 1) := by
  show decode prog_2_method_25_code 44 = _
  decide +kernel
theorem d76_45 (L : Nat) (xs : Nat → Int32) : decode (ax_code (mgT L xs) 76) 45 = .ok (.invokevirtual 66, 3) := by
  show decode prog_2_method_25_code 45 = _
  decide +kernel
theorem d76_48 (L : Nat) (xs : Nat → Int32) : decode (ax_code (mgT L xs) 76) 48 = .ok (.astore 7, 2) := by
  show decode prog_2_method_25_code 48 = _
  decide +kernel
theorem d76_50 (L : Nat) (xs : Nat → Int32) : decode (ax_code (mgT L xs) 76) 50 = .ok (.iload 6, 2) := by
  show decode prog_2_method_25_code 50 = _
  decide +kernel
theorem d76_52 (L : Nat) (xs : Nat → Int32) : decode (ax_code (mgT L xs) 76) 52 = .ok (.bipush 49, 2) := by
  show decode prog_2_method_25_code 52 = _
  decide +kernel
theorem d76_54 (L : Nat) (xs : Nat → Int32) : decode (ax_code (mgT L xs) 76) 54 = .ok (.if_icmp .lt 18, 3) := by
  show decode prog_2_method_25_code 54 = _
  decide +kernel
theorem d76_57 (L : Nat) (xs : Nat → Int32) : decode (ax_code (mgT L xs) 76) 57 = .ok (.iload 6, 2) := by
  show decode prog_2_method_25_code 57 = _
  decide +kernel
theorem d76_59 (L : Nat) (xs : Nat → Int32) : decode (ax_code (mgT L xs) 76) 59 = .ok (.bipush 57, 2) := by
  show decode prog_2_method_25_code 59 = _
  decide +kernel
theorem d76_61 (L : Nat) (xs : Nat → Int32) : decode (ax_code (mgT L xs) 76) 61 = .ok (.if_icmp .gt 11, 3) := by
  show decode prog_2_method_25_code 61 = _
  decide +kernel
theorem d76_64 (L : Nat) (xs : Nat → Int32) : decode (ax_code (mgT L xs) 76) 64 = .ok (.iload 6, 2) := by
  show decode prog_2_method_25_code 64 = _
  decide +kernel
theorem d76_66 (L : Nat) (xs : Nat → Int32) : decode (ax_code (mgT L xs) 76) 66 = .ok (.bipush 48, 2) := by
  show decode prog_2_method_25_code 66 = _
  decide +kernel
theorem d76_68 (L : Nat) (xs : Nat → Int32) : decode (ax_code (mgT L xs) 76) 68 = .ok (.isub, 1) := by
  show decode prog_2_method_25_code 68 = _
  decide +kernel
theorem d76_69 (L : Nat) (xs : Nat → Int32) : decode (ax_code (mgT L xs) 76) 69 = .ok (.goto 5, 3) := by
  show decode prog_2_method_25_code 69 = _
  decide +kernel
theorem d76_72 (L : Nat) (xs : Nat → Int32) : decode (ax_code (mgT L xs) 76) 72 = .ok (.bipush 48, 2) := by
  show decode prog_2_method_25_code 72 = _
  decide +kernel
theorem d76_74 (L : Nat) (xs : Nat → Int32) : decode (ax_code (mgT L xs) 76) 74 = .ok (.istore 8, 2) := by
  show decode prog_2_method_25_code 74 = _
  decide +kernel
theorem d76_76 (L : Nat) (xs : Nat → Int32) : decode (ax_code (mgT L xs) 76) 76 = .ok (.aload_n 1, 1) := by
  show decode prog_2_method_25_code 76 = _
  decide +kernel
theorem d76_77 (L : Nat) (xs : Nat → Int32) : decode (ax_code (mgT L xs) 76) 77 = .ok (.iload_n 3, 1) := by
  show decode prog_2_method_25_code 77 = _
  decide +kernel
theorem d76_78 (L : Nat) (xs : Nat → Int32) : decode (ax_code (mgT L xs) 76) 78 = .ok (.iconst 1, 1) := by
  show decode prog_2_method_25_code 78 = _
  decide +kernel
theorem d76_79 (L : Nat) (xs : Nat → Int32) : decode (ax_code (mgT L xs) 76) 79 = .ok (.isub, 1) := by
  show decode prog_2_method_25_code 79 = _
  decide +kernel
theorem d76_80 (L : Nat) (xs : Nat → Int32) : decode (ax_code (mgT L xs) 76) 80 = .ok (.invokevirtual 139, 3) := by
  show decode prog_2_method_25_code 80 = _
  decide +kernel
theorem d76_83 (L : Nat) (xs : Nat → Int32) : decode (ax_code (mgT L xs) 76) 83 = .ok (.bipush 114, 2) := by
  show decode prog_2_method_25_code 83 = _
  decide +kernel
theorem d76_85 (L : Nat) (xs : Nat → Int32) : decode (ax_code (mgT L xs) 76) 85 = .ok (.if_icmp .ne 17, 3) := by
  show decode prog_2_method_25_code 85 = _
  decide +kernel
theorem d76_88 (L : Nat) (xs : Nat → Int32) : decode (ax_code (mgT L xs) 76) 88 = .ok (.aload_n 0, 1) := by
  show decode prog_2_method_25_code 88 = _
  decide +kernel
theorem d76_89 (L : Nat) (xs : Nat → Int32) : decode (ax_code (mgT L xs) 76) 89 = .ok (.getfield 22, 3) := by
  show decode prog_2_method_25_code 89 = _
  decide +kernel
theorem d76_92 (L : Nat) (xs : Nat → Int32) : decode (ax_code (mgT L xs) 76) 92 = .ok (.aload 7, 2) := by
  show decode prog_2_method_25_code 92 = _
  decide +kernel
theorem d76_94 (L : Nat) (xs : Nat → Int32) : decode (ax_code (mgT L xs) 76) 94 = .ok (.iload 8, 2) := by
  show decode prog_2_method_25_code 94 = _
  decide +kernel
theorem d76_96 (L : Nat) (xs : Nat → Int32) : decode (ax_code (mgT L xs) 76) 96 = .ok (.invokevirtual 220, 3) := by
  show decode prog_2_method_25_code 96 = _
  decide +kernel
theorem d76_99 (L : Nat) (xs : Nat → Int32) : decode (ax_code (mgT L xs) 76) 99 = .ok (.goto 24, 3) := by
  show decode prog_2_method_25_code 99 = _
  decide +kernel
theorem d76_102 (L : Nat) (xs : Nat → Int32) : decode (ax_code (mgT L xs) 76) 102 = .ok (.aload_n 0, 1) := by
  show decode prog_2_method_25_code 102 = _
  decide +kernel
theorem d76_103 (L : Nat) (xs : Nat → Int32) : decode (ax_code (mgT L xs) 76) 103 = .ok (.getfield 22, 3) := by
  show decode prog_2_method_25_code 103 = _
  decide +kernel
theorem d76_106 (L : Nat) (xs : Nat → Int32) : decode (ax_code (mgT L xs) 76) 106 = .ok (.aload 7, 2) := by
  show decode prog_2_method_25_code 106 = _
  decide +kernel
theorem d76_108 (L : Nat) (xs : Nat → Int32) : decode (ax_code (mgT L xs) 76) 108 = .ok (.aload 7, 2) := by
  show decode prog_2_method_25_code 108 = _
  decide +kernel
theorem d76_110 (L : Nat) (xs : Nat → Int32) : decode (ax_code (mgT L xs) 76) 110 = .ok (.iload 8, 2) := by
  show decode prog_2_method_25_code 110 = _
  decide +kernel
theorem d76_112 (L : Nat) (xs : Nat → Int32) : decode (ax_code (mgT L xs) 76) 112 = .ok (.invokevirtual 83, 3) := by
  show decode prog_2_method_25_code 112 = _
  decide +kernel
theorem d76_115 (L : Nat) (xs : Nat → Int32) : decode (ax_code (mgT L xs) 76) 115 = .ok (.aload 7, 2) := by
  show decode prog_2_method_25_code 115 = _
  decide +kernel
theorem d76_117 (L : Nat) (xs : Nat → Int32) : decode (ax_code (mgT L xs) 76) 117 = .ok (.invokevirtual 70, 3) := by
  show decode prog_2_method_25_code 117 = _
  decide +kernel
theorem d76_120 (L : Nat) (xs : Nat → Int32) : decode (ax_code (mgT L xs) 76) 120 = .ok (.invokevirtual 74, 3) := by
  show decode prog_2_method_25_code 120 = _
  decide +kernel
theorem d76_123 (L : Nat) (xs : Nat → Int32) : decode (ax_code (mgT L xs) 76) 123 = .ok (.return_, 1) := by
  show decode prog_2_method_25_code 123 = _
  decide +kernel
theorem d77_0 (L : Nat) (xs : Nat → Int32) : decode (ax_code (mgT L xs) 77) 0 = .ok (.aload_n 1, 1) := by
  show decode prog_9_method_9_code 0 = _
  decide +kernel
theorem d77_1 (L : Nat) (xs : Nat → Int32) : decode (ax_code (mgT L xs) 77) 1 = .ok (.iload_n 2, 1) := by
  show decode prog_9_method_9_code 1 = _
  decide +kernel
theorem d77_2 (L : Nat) (xs : Nat → Int32) : decode (ax_code (mgT L xs) 77) 2 = .ok (.invokevirtual 33, 3) := by
  show decode prog_9_method_9_code 2 = _
  decide +kernel
theorem d77_5 (L : Nat) (xs : Nat → Int32) : decode (ax_code (mgT L xs) 77) 5 = .ok (.istore_n 3, 1) := by
  show decode prog_9_method_9_code 5 = _
  decide +kernel
theorem d77_6 (L : Nat) (xs : Nat → Int32) : decode (ax_code (mgT L xs) 77) 6 = .ok (.iload_n 3, 1) := by
  show decode prog_9_method_9_code 6 = _
  decide +kernel
theorem d77_7 (L : Nat) (xs : Nat → Int32) : decode (ax_code (mgT L xs) 77) 7 = .ok (.iconst 1, 1) := by
  show decode prog_9_method_9_code 7 = _
  decide +kernel
theorem d77_8 (L : Nat) (xs : Nat → Int32) : decode (ax_code (mgT L xs) 77) 8 = .ok (.isub, 1) := by
  show decode prog_9_method_9_code 8 = _
  decide +kernel
theorem d77_9 (L : Nat) (xs : Nat → Int32) : decode (ax_code (mgT L xs) 77) 9 = .ok (.istore 4, 2) := by
  show decode prog_9_method_9_code 9 = _
  decide +kernel
theorem d77_11 (L : Nat) (xs : Nat → Int32) : decode (ax_code (mgT L xs) 77) 11 = .ok (.iload 4, 2) := by
  show decode prog_9_method_9_code 11 = _
  decide +kernel
theorem d77_13 (L : Nat) (xs : Nat → Int32) : decode (ax_code (mgT L xs) 77) 13 = .ok (.iconst (-1), 1) := by
  show decode prog_9_method_9_code 13 = _
  decide +kernel
theorem d77_14 (L : Nat) (xs : Nat → Int32) : decode (ax_code (mgT L xs) 77) 14 = .ok (.if_icmp .lt 50, 3) := by
  show decode prog_9_method_9_code 14 = _
  decide +kernel
theorem d77_17 (L : Nat) (xs : Nat → Int32) : decode (ax_code (mgT L xs) 77) 17 = .ok (.iload 4, 2) := by
  show decode prog_9_method_9_code 17 = _
  decide +kernel
theorem d77_19 (L : Nat) (xs : Nat → Int32) : decode (ax_code (mgT L xs) 77) 19 = .ok (.iconst (-1), 1) := by
  show decode prog_9_method_9_code 19 = _
  decide +kernel
theorem d77_20 (L : Nat) (xs : Nat → Int32) : decode (ax_code (mgT L xs) 77) 20 = .ok (.if_icmp .eq 14, 3) := by
  show decode prog_9_method_9_code 20 = _
  decide +kernel
theorem d77_23 (L : Nat) (xs : Nat → Int32) : decode (ax_code (mgT L xs) 77) 23 = .ok (.aload_n 1, 1) := by
  show decode prog_9_method_9_code 23 = _
  decide +kernel
theorem d77_24 (L : Nat) (xs : Nat → Int32) : decode (ax_code (mgT L xs) 77) 24 = .ok (.iload 4, 2) := by
  show decode prog_9_method_9_code 24 = _
  decide +kernel
theorem d77_26 (L : Nat) (xs : Nat → Int32) : decode (ax_code (mgT L xs) 77) 26 = .ok (.invokevirtual 37, 3) := by
  show decode prog_9_method_9_code 26 = _
  decide +kernel
theorem d77_29 (L : Nat) (xs : Nat → Int32) : decode (ax_code (mgT L xs) 77) 29 = .ok (.bipush 46, 2) := by
  show decode prog_9_method_9_code 29 = _
  decide +kernel
theorem d77_31 (L : Nat) (xs : Nat → Int32) : decode (ax_code (mgT L xs) 77) 31 = .ok (.if_icmp .ne 27, 3) := by
  show decode prog_9_method_9_code 31 = _
  decide +kernel
theorem d77_34 (L : Nat) (xs : Nat → Int32) : decode (ax_code (mgT L xs) 77) 34 = .ok (.aload_n 0, 1) := by
  show decode prog_9_method_9_code 34 = _
  decide +kernel
theorem d77_35 (L : Nat) (xs : Nat → Int32) : decode (ax_code (mgT L xs) 77) 35 = .ok (.aload_n 1, 1) := by
  show decode prog_9_method_9_code 35 = _
  decide +kernel
theorem d77_36 (L : Nat) (xs : Nat → Int32) : decode (ax_code (mgT L xs) 77) 36 = .ok (.iload 4, 2) := by
  show decode prog_9_method_9_code 36 = _
  decide +kernel
theorem d77_38 (L : Nat) (xs : Nat → Int32) : decode (ax_code (mgT L xs) 77) 38 = .ok (.iconst 1, 1) := by
  show decode prog_9_method_9_code 38 = _
  decide +kernel
theorem d77_39 (L : Nat) (xs : Nat → Int32) : decode (ax_code (mgT L xs) 77) 39 = .ok (.iadd, 1) := by
  show decode prog_9_method_9_code 39 = _
  decide +kernel
theorem d77_40 (L : Nat) (xs : Nat → Int32) : decode (ax_code (mgT L xs) 77) 40 = .ok (.iload_n 3, 1) := by
  show decode prog_9_method_9_code 40 = _
  decide +kernel
theorem d77_41 (L : Nat) (xs : Nat → Int32) : decode (ax_code (mgT L xs) 77) 41 = .ok (.invokevirtual 40, 3) := by
  show decode prog_9_method_9_code 41 = _
  decide +kernel
theorem d77_44 (L : Nat) (xs : Nat → Int32) : decode (ax_code (mgT L xs) 77) 44 = .ok (.iload 4, 2) := by
  show decode prog_9_method_9_code 44 = _
  decide +kernel
theorem d77_46 (L : Nat) (xs : Nat → Int32) : decode (ax_code (mgT L xs) 77) 46 = .ok (.ifCond .lt 9, 3) := by
  show decode prog_9_method_9_code 46 = _
  decide +kernel
theorem d77_49 (L : Nat) (xs : Nat → Int32) : decode (ax_code (mgT L xs) 77) 49 = .ok (.aload_n 0, 1) := by
  show decode prog_9_method_9_code 49 = _
  decide +kernel
theorem d77_50 (L : Nat) (xs : Nat → Int32) : decode (ax_code (mgT L xs) 77) 50 = .ok (.bipush 46, 2) := by
  show decode prog_9_method_9_code 50 = _
  decide +kernel
theorem d77_52 (L : Nat) (xs : Nat → Int32) : decode (ax_code (mgT L xs) 77) 52 = .ok (.invokevirtual 29, 3) := by
  show decode prog_9_method_9_code 52 = _
  decide +kernel
theorem d77_55 (L : Nat) (xs : Nat → Int32) : decode (ax_code (mgT L xs) 77) 55 = .ok (.iload 4, 2) := by
  show decode prog_9_method_9_code 55 = _
  decide +kernel
theorem d77_57 (L : Nat) (xs : Nat → Int32) : decode (ax_code (mgT L xs) 77) 57 = .ok (.istore_n 3, 1) := by
  show decode prog_9_method_9_code 57 = _
  decide +kernel
theorem d77_58 (L : Nat) (xs : Nat → Int32) : decode (ax_code (mgT L xs) 77) 58 = .ok (.iinc 4 (-1), 3) := by
  show decode prog_9_method_9_code 58 = _
  decide +kernel
theorem d77_61 (L : Nat) (xs : Nat → Int32) : decode (ax_code (mgT L xs) 77) 61 = .ok (.goto (-50), 3) := by
  show decode prog_9_method_9_code 61 = _
  decide +kernel
theorem d77_64 (L : Nat) (xs : Nat → Int32) : decode (ax_code (mgT L xs) 77) 64 = .ok (.return_, 1) := by
  show decode prog_9_method_9_code 64 = _
  decide +kernel
theorem take_app (n : Nat) (c x : List Nat) : ((c.take n) ++ x).take n = (c ++ x).take n := by
  by_cases h : c.length ≤ n
  · rw [List.take_of_length_le h]
  · rw [List.take_append_of_le_length (by rw [List.length_take]; omega), List.take_append_of_le_length (by omega), List.take_take, Nat.min_self]
theorem take_one (n : Nat) (c : List Nat) (x : Nat) : (if (c.take n).length < n then c.take n ++ [x] else c.take n) = (c ++ [x]).take n := by
  rw [← take_app n c [x]]
  by_cases h : (c.take n).length < n
  · rw [if_pos h, List.take_of_length_le (l := c.take n ++ [x]) (by rw [List.length_append, List.length_singleton]; omega)]
  · rw [if_neg h, List.take_append_of_le_length (by omega), List.take_take, Nat.min_self]
/-- the parts of src up to e, the last ahead -/
def f_rv (src : List Nat) : Nat → Nat → List Nat
  | 0, e => seg src 0 e
  | m + 1, e => if gl src m = 46 then seg src (m + 1) e ++ ([46] ++ f_rv src m m) else f_rv src m e
def x_src (g : Nat → Nat) (i : Nat) (dom ip fst : List Nat) : List Nat := if g (i + 2) = 100 then dom else if g (i + 2) = 105 then ip else fst
def x_pts (g : Nat → Nat) (i : Nat) : Nat := if 49 ≤ g (i + 3) ∧ g (i + 3) ≤ 57 then g (i + 3) - 48 else 48
/-- what the macro from i to e stands for -/
def x_mac (g : Nat → Nat) (i e : Nat) (dom ip fst : List Nat) : List Nat := if g (e - 1) = 114 then f_rv (x_src g i dom ip fst) (f_first (gl (x_src g i dom ip fst)) (x_pts g i) 0 0 (x_src g i dom ip fst).length) (f_first (gl (x_src g i dom ip fst)) (x_pts g i) 0 0 (x_src g i dom ip fst).length) else seg (x_src g i dom ip fst) (f_last (gl (x_src g i dom ip fst)) (x_pts g i) 0 (x_src g i dom ip fst).length) (x_src g i dom ip fst).length
def f_exp (g : Nat → Nat) (to : Nat) (dom ip fst : List Nat) : Nat → Nat → List Nat
  | 0, _ => []
  | m + 1, i => if i < to then (if g i = 37 then (match t_mac g i to with
      | none => []
      | some e => if i + 1 < e then x_mac g i e dom ip fst ++ f_exp g to dom ip fst m (e + 1) else 37 :: f_exp g to dom ip fst m (e + 1)) else g i :: f_exp g to dom ip fst m (i + 1)) else []
theorem f_first_le {g : Nat → Nat} {parts : Nat} : ∀ (m dots i : Nat), i ≤ f_first g parts dots i m ∧ f_first g parts dots i m ≤ i + m := by
  intro m
  induction m with
  | zero => intro dots i; exact ⟨Nat.le_refl _, Nat.le_refl _⟩
  | succ m ih =>
    intro dots i
    rw [f_first]
    split
    · split
      · omega
      · have := ih (dots + 1) (i + 1); omega
    · have := ih dots (i + 1); omega
theorem f_last_le {g : Nat → Nat} {parts : Nat} : ∀ (m dots : Nat), f_last g parts dots m ≤ m := by
  intro m
  induction m with
  | zero => intro dots; exact Nat.le_refl _
  | succ m ih =>
    intro dots
    rw [f_last]
    split
    · split
      · exact Nat.le_refl _
      · have := ih (dots + 1); omega
    · have := ih dots; omega
section XP
variable {L : Nat} {xs : Nat → Int32} {d a b : Nat} {l dom ip fst src : List Nat}
theorem ts_addPartT {s : mg_s} {cur m : List Nat} {fr to : Nat} (hn : hold s 89 (cur.take 49)) (H2 : isT b) (hm : hold s b m) (hne : ¬ b = 89) (hto : to < 2 ^ 30) (hf : fr < 2 ^ 30) : ca L xs (d + 1) 44 [.ref 89, .ref b, .int (nI fr), .int (nI to)] s (fun v s' => v = none ∧ tset s 89 ((cur ++ seg m fr to).take 49) s') := by
  have h := ts_addPart (L := L) (xs := xs) (d := d) (fr := fr) (to := to) isT_all.2.2.1 hn H2 hm hne hto hf
  rw [isT_all.2.2.2.2.2.2.2.1, take_app] at h
  exact h
theorem ts_addT {s : mg_s} {cur : List Nat} {c : Nat} (hn : hold s 89 (cur.take 49)) (hc : c < 128) : ca L xs (d + 1) 16 [.ref 89, .int (nI c)] s (fun v s' => v = none ∧ tset s 89 ((cur ++ [c]).take 49) s') := by
  have h := ts_add (L := L) (xs := xs) (d := d) isT_all.2.2.1 hn hc
  rw [isT_all.2.2.2.2.2.2.2.1, take_one] at h
  exact h
theorem ts_first {s : mg_s} {parts : Nat} (H : isT a) (hl : hold s a l) (hp : parts < 2 ^ 30) : ca L xs (d + 1) 78 [.ref a, .int (nI parts)] s (fun v s' => v = some (.int (nI (f_first (gl l) parts 0 0 l.length))) ∧ s = s') := by
  have h := tx_endOfFirst (L := L) (xs := xs) (d := d) H hl.1 hp
  rw [hold_at hl] at h
  exact h
theorem ts_last {s : mg_s} {parts : Nat} (H : isT a) (hl : hold s a l) (hp : parts < 2 ^ 30) : ca L xs (d + 1) 52 [.ref a, .int (nI parts)] s (fun v s' => v = some (.int (nI (f_last (gl l) parts 0 l.length))) ∧ s = s') := by
  have h := tx_startOfLast (L := L) (xs := xs) (d := d) H hl.1 hp
  rw [hold_at hl] at h
  exact h
theorem ts_rev_l {pts : Nat} (Hb : isT b) (hb : ¬ b = 89) : ∀ (m e : Nat) (cur : List Nat) (s : mg_s), m ≤ e → e ≤ src.length → hold s b src → hold s 89 (cur.take 49) → wp L xs (d + 2) 77 11 [some (.ref 89), some (.ref b), some (.int (nI pts)), some (.int (nI e)), some (.int (nI m - 1))] [] s (fun v s' => v = none ∧ tset s 89 ((cur ++ f_rv src m e).take 49) s') := by
  have hlm := tx_m Hb
  intro m
  induction m with
  | zero =>
    intro e cur s hm he hs hc
    have hsl := hs.1.2
    rw [show nI 0 - 1 = -1 by decide]
    refine wg_iload (d77_11 L xs) rfl ?_
    refine wg_iconst (d77_13 L xs) (x := (-1)) (by decide) ?_
    refine wg_icmp_lt (d77_14 L xs) (t := 64) (by decide) (fun hp => absurd hp (by decide)) (fun _ => ?_)
    refine wg_iload (d77_17 L xs) rfl ?_
    refine wg_iconst (d77_19 L xs) (x := (-1)) (by decide) ?_
    refine wg_icmp_eq (d77_20 L xs) (t := 34) (by decide) (fun _ => ?_) (fun hn => absurd (by decide) hn)
    refine wg_aload_n (d77_34 L xs) rfl ?_
    refine wg_aload_n (d77_35 L xs) rfl ?_
    refine wg_iload (d77_36 L xs) rfl ?_
    refine wg_iconst (d77_38 L xs) (x := 1) (by decide) ?_
    refine wg_iadd (d77_39 L xs) ?_
    refine wg_top (y := 0) (by decide) ?_
    refine wg_iload_n (d77_40 L xs) rfl ?_
    refine wg_invv (d77_41 L xs) (kd := 7) (mj := 44) (n := 3) rfl (Or.inl rfl) (ys := [.int (nI e), .int 0, .ref b]) (r := []) rfl rfl (by decide) rfl rfl (Nat.le_of_ble_eq_true rfl) (ts_addPartT (fr := 0) (to := e) hc Hb hs hb (by omega) (by omega)) ?_
    rintro _ s1 ⟨rfl, e1⟩
    have hs1 := e1.other hb hs
    refine wg_iload (d77_44 L xs) rfl ?_
    refine wg_if_lt (d77_46 L xs) (t := 55) (by decide) (fun _ => ?_) (fun hn => absurd (by decide) hn)
    refine wg_iload (d77_55 L xs) rfl ?_
    refine wg_istore_n (d77_57 L xs) (ls' := [some (.ref 89), some (.ref b), some (.int (nI pts)), some (.int (-1)), some (.int (-1))]) (Nat.le_of_ble_eq_true rfl) rfl ?_
    refine wg_iinc (d77_58 L xs) (y := (-2)) (ls' := [some (.ref 89), some (.ref b), some (.int (nI pts)), some (.int (-1)), some (.int (-2))]) rfl (by decide) rfl ?_
    refine wg_goto (d77_61 L xs) (t := 11) (by decide) ?_
    refine wg_iload (d77_11 L xs) rfl ?_
    refine wg_iconst (d77_13 L xs) (x := (-1)) (by decide) ?_
    refine wg_icmp_lt (d77_14 L xs) (t := 64) (by decide) (fun _ => ?_) (fun hn => absurd (by decide) hn)
    exact wg_vret (d77_64 L xs) rfl ⟨rfl, e1⟩
  | succ m ih =>
    intro e cur s hm he hs hc
    have hsl := hs.1.2
    have hg := gl_lt hs.2.1 m
    rw [ty_s1 m, f_rv]
    refine wg_iload (d77_11 L xs) rfl ?_
    refine wg_iconst (d77_13 L xs) (x := (-1)) (by decide) ?_
    refine wg_icmp_lt (d77_14 L xs) (t := 64) (by decide) (fun h1 => absurd h1 (Int32.not_lt.mpr (Int32.le_trans (by decide) (nI_pos' (by omega))))) (fun h1 => ?_)
    refine wg_iload (d77_17 L xs) rfl ?_
    refine wg_iconst (d77_19 L xs) (x := (-1)) (by decide) ?_
    refine wg_icmp_eq (d77_20 L xs) (t := 34) (by decide) (fun h2 => absurd h2 (nI_neg1 (by omega))) (fun h2 => ?_)
    refine wg_aload_n (d77_23 L xs) rfl ?_
    refine wg_iload (d77_24 L xs) rfl ?_
    refine wg_invv (d77_26 L xs) (kd := 7) (mj := 31) (n := 1) rfl (Or.inl rfl) (ys := [.int (nI m)]) (r := []) rfl rfl Hb.1 (tx_c Hb) rfl (Nat.le_of_ble_eq_true rfl) (ts_at Hb hs (by omega)) ?_
    rintro _ _ ⟨rfl, rfl⟩
    refine wg_bipush (d77_29 L xs) (x := 46) (by decide) ?_
    refine wn_icmp_ne (d77_31 L xs) (x := gl src m) (y := 46) (by omega) (by omega) (t := 58) (by decide) (fun h3 => ?_) (fun h3 => ?_)
    · refine wg_iinc (d77_58 L xs) (y := (nI m - 1)) (ls' := [some (.ref 89), some (.ref b), some (.int (nI pts)), some (.int (nI e)), some (.int (nI m - 1))]) rfl (ty_d1 _) rfl ?_
      refine wg_goto (d77_61 L xs) (t := 11) (by decide) ?_
      rw [if_neg (by omega)]; exact ih e cur s (by omega) he hs hc
    · refine wg_aload_n (d77_34 L xs) rfl ?_
      refine wg_aload_n (d77_35 L xs) rfl ?_
      refine wg_iload (d77_36 L xs) rfl ?_
      refine wg_iconst (d77_38 L xs) (x := 1) (by decide) ?_
      refine wg_iadd (d77_39 L xs) ?_
      refine wg_top (y := (nI (m + 1))) (nI_add m 1) ?_
      refine wg_iload_n (d77_40 L xs) rfl ?_
      refine wg_invv (d77_41 L xs) (kd := 7) (mj := 44) (n := 3) rfl (Or.inl rfl) (ys := [.int (nI e), .int (nI (m + 1)), .ref b]) (r := []) rfl rfl (by decide) rfl rfl (Nat.le_of_ble_eq_true rfl) (ts_addPartT (fr := m + 1) (to := e) hc Hb hs hb (by omega) (by omega)) ?_
      rintro _ s1 ⟨rfl, e1⟩
      have hs1 := e1.other hb hs
      refine wg_iload (d77_44 L xs) rfl ?_
      refine wn_if_lt (d77_46 L xs) (x := m) (by omega) (t := 55) (by decide) (fun h4 => by omega) (fun h4 => ?_)
      refine wg_aload_n (d77_49 L xs) rfl ?_
      refine wg_bipush (d77_50 L xs) (x := 46) (by decide) ?_
      refine wg_invv (d77_52 L xs) (kd := 7) (mj := 16) (n := 1) rfl (Or.inl rfl) (ys := [.int 46]) (r := []) rfl rfl (by decide) rfl rfl (Nat.le_of_ble_eq_true rfl) (ts_addT e1.has (by decide)) ?_
      rintro _ s2 ⟨rfl, e2⟩
      have hs2 := e2.other hb hs1
      refine wg_iload (d77_55 L xs) rfl ?_
      refine wg_istore_n (d77_57 L xs) (ls' := [some (.ref 89), some (.ref b), some (.int (nI pts)), some (.int (nI m)), some (.int (nI m))]) (Nat.le_of_ble_eq_true rfl) rfl ?_
      refine wg_iinc (d77_58 L xs) (y := (nI m - 1)) (ls' := [some (.ref 89), some (.ref b), some (.int (nI pts)), some (.int (nI m)), some (.int (nI m - 1))]) rfl (ty_d1 _) rfl ?_
      refine wg_goto (d77_61 L xs) (t := 11) (by decide) ?_
      rw [if_pos (by omega)]
      refine wp_mono (ih m (cur ++ seg src (m + 1) e ++ [46]) s2 (Nat.le_refl _) (by omega) hs2 e2.has) (fun v s' h => ⟨h.1, ?_⟩)
      have h9 := (e1.trans e2).trans h.2
      rw [List.append_assoc, List.append_assoc] at h9
      exact h9
theorem ts_rev {s : mg_s} {pts : Nat} {cur : List Nat} (Hb : isT b) (hb : ¬ b = 89) (hp : pts < 2 ^ 30) (hs : hold s b src) (hc : hold s 89 (cur.take 49)) : ca L xs (d + 3) 77 [.ref 89, .ref b, .int (nI pts)] s (fun v s' => v = none ∧ tset s 89 ((cur ++ f_rv src (f_first (gl src) pts 0 0 src.length) (f_first (gl src) pts 0 0 src.length)).take 49) s') := by
  refine wg_call (Nat.le_of_ble_eq_true rfl) ?_
  show wp L xs (d + 2) 77 0 [some (.ref 89), some (.ref b), some (.int (nI pts)), none, none] [] s _
  refine wg_aload_n (d77_0 L xs) rfl ?_
  refine wg_iload_n (d77_1 L xs) rfl ?_
  refine wg_invv (d77_2 L xs) (kd := 7) (mj := 78) (n := 1) rfl (Or.inl rfl) (ys := [.int (nI pts)]) (r := []) rfl rfl Hb.1 (tx_c Hb) rfl (Nat.le_of_ble_eq_true rfl) (ts_first Hb hs (by omega)) ?_
  rintro _ _ ⟨rfl, rfl⟩
  refine wg_istore_n (d77_5 L xs) (ls' := [some (.ref 89), some (.ref b), some (.int (nI pts)), some (.int (nI (f_first (gl src) pts 0 0 src.length))), none]) (Nat.le_of_ble_eq_true rfl) rfl ?_
  refine wg_iload_n (d77_6 L xs) rfl ?_
  refine wg_iconst (d77_7 L xs) (x := 1) (by decide) ?_
  refine wg_isub (d77_8 L xs) ?_
  refine wg_top (y := (nI (f_first (gl src) pts 0 0 src.length) - 1)) rfl ?_
  refine wg_istore (d77_9 L xs) (ls' := [some (.ref 89), some (.ref b), some (.int (nI pts)), some (.int (nI (f_first (gl src) pts 0 0 src.length))), some (.int (nI (f_first (gl src) pts 0 0 src.length) - 1))]) (Nat.le_of_ble_eq_true rfl) rfl ?_
  exact ts_rev_l Hb hb _ _ cur s (Nat.le_refl _) (by have := (f_first_le (g := gl src) (parts := pts) src.length 0 0).2; omega) hs hc
theorem ck_mac_d {s : mg_s} {i e : Nat} {cur : List Nat} (Ha : isT a) (hl : hold s a l) (Hb : isT b) (hd : hold s b dom) (hb : ¬ b = 89) (hi : hold s 91 ip) (hf : hold s 94 fst) (hv0 : s.2.2.2.1 0 = some 93) (hc : hold s 89 (cur.take 49)) (hi9 : i < 2 ^ 29) (he9 : e < 2 ^ 29) (he1 : 1 ≤ e) (h2 : gl l (i + 2) = 100) : ca L xs (d + 4) 76 [.ref 87, .ref a, .int (nI i), .int (nI e), .ref b] s (fun v s' => v = none ∧ tset s 89 ((cur ++ x_mac (gl l) i e dom ip fst).take 49) s') := by
  refine wg_call (Nat.le_of_ble_eq_true rfl) ?_
  have hg2 := gl_lt hl.2.1 (i + 2)
  have hg3 := gl_lt hl.2.1 (i + 3)
  have hg4 := gl_lt hl.2.1 (e - 1)
  have hxl := hd.1.2
  have hxm : tlim b ≤ 100 := tx_m Hb
  have hfl : ∀ q, f_last (gl dom) q 0 dom.length ≤ dom.length := fun q => f_last_le _ _
  have hl1 := hfl (gl l (i + 3) - 48)
  have hl2 := hfl 48
  have hsrc : x_src (gl l) i dom ip fst = dom := by unfold x_src; rw [if_pos h2]
  show wp L xs (d + 3) 76 0 [some (.ref 87), some (.ref a), some (.int (nI i)), some (.int (nI e)), some (.ref b), none, none, none, none] [] s _
  refine wg_aload_n (d76_0 L xs) rfl ?_
  refine wg_iload_n (d76_1 L xs) rfl ?_
  refine wg_iconst (d76_2 L xs) (x := 2) (by decide) ?_
  refine wg_iadd (d76_3 L xs) ?_
  refine wg_top (y := (nI (i + 2))) (nI_add i 2) ?_
  refine wg_invv (d76_4 L xs) (kd := 7) (mj := 31) (n := 1) rfl (Or.inl rfl) (ys := [.int (nI (i + 2))]) (r := []) rfl rfl Ha.1 (tx_c Ha) rfl (Nat.le_of_ble_eq_true rfl) (ts_at Ha hl (by omega)) ?_
  rintro _ _ ⟨rfl, rfl⟩
  refine wg_istore (d76_7 L xs) (ls' := [some (.ref 87), some (.ref a), some (.int (nI i)), some (.int (nI e)), some (.ref b), some (.int (nI (gl l (i + 2)))), none, none, none]) (Nat.le_of_ble_eq_true rfl) rfl ?_
  refine wg_aload_n (d76_9 L xs) rfl ?_
  refine wg_iload_n (d76_10 L xs) rfl ?_
  refine wg_iconst (d76_11 L xs) (x := 3) (by decide) ?_
  refine wg_iadd (d76_12 L xs) ?_
  refine wg_top (y := (nI (i + 3))) (nI_add i 3) ?_
  refine wg_invv (d76_13 L xs) (kd := 7) (mj := 31) (n := 1) rfl (Or.inl rfl) (ys := [.int (nI (i + 3))]) (r := []) rfl rfl Ha.1 (tx_c Ha) rfl (Nat.le_of_ble_eq_true rfl) (ts_at Ha hl (by omega)) ?_
  rintro _ _ ⟨rfl, rfl⟩
  refine wg_istore (d76_16 L xs) (ls' := [some (.ref 87), some (.ref a), some (.int (nI i)), some (.int (nI e)), some (.ref b), some (.int (nI (gl l (i + 2)))), some (.int (nI (gl l (i + 3)))), none, none]) (Nat.le_of_ble_eq_true rfl) rfl ?_
  refine wg_iload (d76_18 L xs) rfl ?_
  refine wg_bipush (d76_20 L xs) (x := 100) (by decide) ?_
  refine wn_icmp_ne (d76_22 L xs) (x := gl l (i + 2)) (y := 100) (by omega) (by omega) (t := 30) (by decide) (fun h1 => by omega) (fun h1 => ?_)
  refine wg_aload (d76_25 L xs) rfl ?_
  refine wg_goto (d76_27 L xs) (t := 48) (by decide) ?_
  refine wg_astore (d76_48 L xs) (ls' := [some (.ref 87), some (.ref a), some (.int (nI i)), some (.int (nI e)), some (.ref b), some (.int (nI (gl l (i + 2)))), some (.int (nI (gl l (i + 3)))), some (.ref b), none]) (Nat.le_of_ble_eq_true rfl) rfl ?_
  refine wg_iload (d76_50 L xs) rfl ?_
  refine wg_bipush (d76_52 L xs) (x := 49) (by decide) ?_
  refine wn_icmp_lt (d76_54 L xs) (x := gl l (i + 3)) (y := 49) (by omega) (by omega) (t := 72) (by decide) (fun h2 => ?_) (fun h2 => ?_)
  · refine wg_bipush (d76_72 L xs) (x := 48) (by decide) ?_
    refine wg_istore (d76_74 L xs) (ls' := [some (.ref 87), some (.ref a), some (.int (nI i)), some (.int (nI e)), some (.ref b), some (.int (nI (gl l (i + 2)))), some (.int (nI (gl l (i + 3)))), some (.ref b), some (.int 48)]) (Nat.le_of_ble_eq_true rfl) rfl ?_
    refine wg_aload_n (d76_76 L xs) rfl ?_
    refine wg_iload_n (d76_77 L xs) rfl ?_
    refine wg_iconst (d76_78 L xs) (x := 1) (by decide) ?_
    refine wg_isub (d76_79 L xs) ?_
    refine wg_top (y := (nI (e - 1))) (pk_sub (a := e) (b := 1) (by omega)) ?_
    refine wg_invv (d76_80 L xs) (kd := 7) (mj := 31) (n := 1) rfl (Or.inl rfl) (ys := [.int (nI (e - 1))]) (r := []) rfl rfl Ha.1 (tx_c Ha) rfl (Nat.le_of_ble_eq_true rfl) (ts_at Ha hl (by omega)) ?_
    rintro _ _ ⟨rfl, rfl⟩
    refine wg_bipush (d76_83 L xs) (x := 114) (by decide) ?_
    refine wn_icmp_ne (d76_85 L xs) (x := gl l (e - 1)) (y := 114) (by omega) (by omega) (t := 102) (by decide) (fun h3 => ?_) (fun h3 => ?_)
    · refine wg_aload_n (d76_102 L xs) rfl ?_
      refine wg_get (d76_103 L xs) (kd := 1) (cj := 6) (k0 := 2) rfl (Or.inl rfl) (by decide) rfl rfl ?_
      refine wg_aload (d76_106 L xs) rfl ?_
      refine wg_aload (d76_108 L xs) rfl ?_
      refine wg_iload (d76_110 L xs) rfl ?_
      refine wg_invv (d76_112 L xs) (kd := 7) (mj := 52) (n := 1) rfl (Or.inl rfl) (ys := [.int 48]) (r := [.ref b, .ref 89]) rfl rfl Hb.1 (tx_c Hb) rfl (Nat.le_of_ble_eq_true rfl) (ts_last (parts := 48) Hb hd (by omega)) ?_
      rintro _ _ ⟨rfl, rfl⟩
      refine wg_aload (d76_115 L xs) rfl ?_
      refine wg_invv (d76_117 L xs) (kd := 7) (mj := 15) (n := 0) rfl (Or.inl rfl) (ys := []) (r := [.int (nI (f_last (gl dom) 48 0 dom.length)), .ref b, .ref 89]) rfl rfl Hb.1 (tx_c Hb) rfl (Nat.le_of_ble_eq_true rfl) (ts_size Hb hd) ?_
      rintro _ _ ⟨rfl, rfl⟩
      refine wg_invv (d76_120 L xs) (kd := 7) (mj := 44) (n := 3) rfl (Or.inl rfl) (ys := [.int (nI dom.length), .int (nI (f_last (gl dom) 48 0 dom.length)), .ref b]) (r := []) rfl rfl (by decide) rfl rfl (Nat.le_of_ble_eq_true rfl) (ts_addPartT hc Hb hd hb (by omega) (by omega)) ?_
      rintro _ s1 ⟨rfl, e1⟩
      exact wg_vret (d76_123 L xs) rfl ⟨rfl, by rw [x_mac, hsrc]; first | (rw [if_pos (by omega), x_pts, if_pos (by omega)]; exact e1) | (rw [if_pos (by omega), x_pts, if_neg (by omega)]; exact e1) | (rw [if_neg (by omega), x_pts, if_pos (by omega)]; exact e1) | (rw [if_neg (by omega), x_pts, if_neg (by omega)]; exact e1)⟩
    · refine wg_aload_n (d76_88 L xs) rfl ?_
      refine wg_get (d76_89 L xs) (kd := 1) (cj := 6) (k0 := 2) rfl (Or.inl rfl) (by decide) rfl rfl ?_
      refine wg_aload (d76_92 L xs) rfl ?_
      refine wg_iload (d76_94 L xs) rfl ?_
      refine wg_invv (d76_96 L xs) (kd := 7) (mj := 77) (n := 2) rfl (Or.inl rfl) (ys := [.int 48, .ref b]) (r := []) rfl rfl (by decide) rfl rfl (Nat.le_of_ble_eq_true rfl) (ts_rev (pts := 48) Hb hb (by omega) hd hc) ?_
      rintro _ s1 ⟨rfl, e1⟩
      refine wg_goto (d76_99 L xs) (t := 123) (by decide) ?_
      exact wg_vret (d76_123 L xs) rfl ⟨rfl, by rw [x_mac, hsrc]; first | (rw [if_pos (by omega), x_pts, if_pos (by omega)]; exact e1) | (rw [if_pos (by omega), x_pts, if_neg (by omega)]; exact e1) | (rw [if_neg (by omega), x_pts, if_pos (by omega)]; exact e1) | (rw [if_neg (by omega), x_pts, if_neg (by omega)]; exact e1)⟩
  · refine wg_iload (d76_57 L xs) rfl ?_
    refine wg_bipush (d76_59 L xs) (x := 57) (by decide) ?_
    refine wn_icmp_gt (d76_61 L xs) (x := gl l (i + 3)) (y := 57) (by omega) (by omega) (t := 72) (by decide) (fun h4 => ?_) (fun h4 => ?_)
    · refine wg_bipush (d76_72 L xs) (x := 48) (by decide) ?_
      refine wg_istore (d76_74 L xs) (ls' := [some (.ref 87), some (.ref a), some (.int (nI i)), some (.int (nI e)), some (.ref b), some (.int (nI (gl l (i + 2)))), some (.int (nI (gl l (i + 3)))), some (.ref b), some (.int 48)]) (Nat.le_of_ble_eq_true rfl) rfl ?_
      refine wg_aload_n (d76_76 L xs) rfl ?_
      refine wg_iload_n (d76_77 L xs) rfl ?_
      refine wg_iconst (d76_78 L xs) (x := 1) (by decide) ?_
      refine wg_isub (d76_79 L xs) ?_
      refine wg_top (y := (nI (e - 1))) (pk_sub (a := e) (b := 1) (by omega)) ?_
      refine wg_invv (d76_80 L xs) (kd := 7) (mj := 31) (n := 1) rfl (Or.inl rfl) (ys := [.int (nI (e - 1))]) (r := []) rfl rfl Ha.1 (tx_c Ha) rfl (Nat.le_of_ble_eq_true rfl) (ts_at Ha hl (by omega)) ?_
      rintro _ _ ⟨rfl, rfl⟩
      refine wg_bipush (d76_83 L xs) (x := 114) (by decide) ?_
      refine wn_icmp_ne (d76_85 L xs) (x := gl l (e - 1)) (y := 114) (by omega) (by omega) (t := 102) (by decide) (fun h5 => ?_) (fun h5 => ?_)
      · refine wg_aload_n (d76_102 L xs) rfl ?_
        refine wg_get (d76_103 L xs) (kd := 1) (cj := 6) (k0 := 2) rfl (Or.inl rfl) (by decide) rfl rfl ?_
        refine wg_aload (d76_106 L xs) rfl ?_
        refine wg_aload (d76_108 L xs) rfl ?_
        refine wg_iload (d76_110 L xs) rfl ?_
        refine wg_invv (d76_112 L xs) (kd := 7) (mj := 52) (n := 1) rfl (Or.inl rfl) (ys := [.int 48]) (r := [.ref b, .ref 89]) rfl rfl Hb.1 (tx_c Hb) rfl (Nat.le_of_ble_eq_true rfl) (ts_last (parts := 48) Hb hd (by omega)) ?_
        rintro _ _ ⟨rfl, rfl⟩
        refine wg_aload (d76_115 L xs) rfl ?_
        refine wg_invv (d76_117 L xs) (kd := 7) (mj := 15) (n := 0) rfl (Or.inl rfl) (ys := []) (r := [.int (nI (f_last (gl dom) 48 0 dom.length)), .ref b, .ref 89]) rfl rfl Hb.1 (tx_c Hb) rfl (Nat.le_of_ble_eq_true rfl) (ts_size Hb hd) ?_
        rintro _ _ ⟨rfl, rfl⟩
        refine wg_invv (d76_120 L xs) (kd := 7) (mj := 44) (n := 3) rfl (Or.inl rfl) (ys := [.int (nI dom.length), .int (nI (f_last (gl dom) 48 0 dom.length)), .ref b]) (r := []) rfl rfl (by decide) rfl rfl (Nat.le_of_ble_eq_true rfl) (ts_addPartT hc Hb hd hb (by omega) (by omega)) ?_
        rintro _ s1 ⟨rfl, e1⟩
        exact wg_vret (d76_123 L xs) rfl ⟨rfl, by rw [x_mac, hsrc]; first | (rw [if_pos (by omega), x_pts, if_pos (by omega)]; exact e1) | (rw [if_pos (by omega), x_pts, if_neg (by omega)]; exact e1) | (rw [if_neg (by omega), x_pts, if_pos (by omega)]; exact e1) | (rw [if_neg (by omega), x_pts, if_neg (by omega)]; exact e1)⟩
      · refine wg_aload_n (d76_88 L xs) rfl ?_
        refine wg_get (d76_89 L xs) (kd := 1) (cj := 6) (k0 := 2) rfl (Or.inl rfl) (by decide) rfl rfl ?_
        refine wg_aload (d76_92 L xs) rfl ?_
        refine wg_iload (d76_94 L xs) rfl ?_
        refine wg_invv (d76_96 L xs) (kd := 7) (mj := 77) (n := 2) rfl (Or.inl rfl) (ys := [.int 48, .ref b]) (r := []) rfl rfl (by decide) rfl rfl (Nat.le_of_ble_eq_true rfl) (ts_rev (pts := 48) Hb hb (by omega) hd hc) ?_
        rintro _ s1 ⟨rfl, e1⟩
        refine wg_goto (d76_99 L xs) (t := 123) (by decide) ?_
        exact wg_vret (d76_123 L xs) rfl ⟨rfl, by rw [x_mac, hsrc]; first | (rw [if_pos (by omega), x_pts, if_pos (by omega)]; exact e1) | (rw [if_pos (by omega), x_pts, if_neg (by omega)]; exact e1) | (rw [if_neg (by omega), x_pts, if_pos (by omega)]; exact e1) | (rw [if_neg (by omega), x_pts, if_neg (by omega)]; exact e1)⟩
    · refine wg_iload (d76_64 L xs) rfl ?_
      refine wg_bipush (d76_66 L xs) (x := 48) (by decide) ?_
      refine wg_isub (d76_68 L xs) ?_
      refine wg_top (y := (nI ((gl l (i + 3)) - 48))) (pk_sub (a := gl l (i + 3)) (b := 48) (by omega)) ?_
      refine wg_goto (d76_69 L xs) (t := 74) (by decide) ?_
      refine wg_istore (d76_74 L xs) (ls' := [some (.ref 87), some (.ref a), some (.int (nI i)), some (.int (nI e)), some (.ref b), some (.int (nI (gl l (i + 2)))), some (.int (nI (gl l (i + 3)))), some (.ref b), some (.int (nI ((gl l (i + 3)) - 48)))]) (Nat.le_of_ble_eq_true rfl) rfl ?_
      refine wg_aload_n (d76_76 L xs) rfl ?_
      refine wg_iload_n (d76_77 L xs) rfl ?_
      refine wg_iconst (d76_78 L xs) (x := 1) (by decide) ?_
      refine wg_isub (d76_79 L xs) ?_
      refine wg_top (y := (nI (e - 1))) (pk_sub (a := e) (b := 1) (by omega)) ?_
      refine wg_invv (d76_80 L xs) (kd := 7) (mj := 31) (n := 1) rfl (Or.inl rfl) (ys := [.int (nI (e - 1))]) (r := []) rfl rfl Ha.1 (tx_c Ha) rfl (Nat.le_of_ble_eq_true rfl) (ts_at Ha hl (by omega)) ?_
      rintro _ _ ⟨rfl, rfl⟩
      refine wg_bipush (d76_83 L xs) (x := 114) (by decide) ?_
      refine wn_icmp_ne (d76_85 L xs) (x := gl l (e - 1)) (y := 114) (by omega) (by omega) (t := 102) (by decide) (fun h6 => ?_) (fun h6 => ?_)
      · refine wg_aload_n (d76_102 L xs) rfl ?_
        refine wg_get (d76_103 L xs) (kd := 1) (cj := 6) (k0 := 2) rfl (Or.inl rfl) (by decide) rfl rfl ?_
        refine wg_aload (d76_106 L xs) rfl ?_
        refine wg_aload (d76_108 L xs) rfl ?_
        refine wg_iload (d76_110 L xs) rfl ?_
        refine wg_invv (d76_112 L xs) (kd := 7) (mj := 52) (n := 1) rfl (Or.inl rfl) (ys := [.int (nI ((gl l (i + 3)) - 48))]) (r := [.ref b, .ref 89]) rfl rfl Hb.1 (tx_c Hb) rfl (Nat.le_of_ble_eq_true rfl) (ts_last (parts := (gl l (i + 3)) - 48) Hb hd (by omega)) ?_
        rintro _ _ ⟨rfl, rfl⟩
        refine wg_aload (d76_115 L xs) rfl ?_
        refine wg_invv (d76_117 L xs) (kd := 7) (mj := 15) (n := 0) rfl (Or.inl rfl) (ys := []) (r := [.int (nI (f_last (gl dom) ((gl l (i + 3)) - 48) 0 dom.length)), .ref b, .ref 89]) rfl rfl Hb.1 (tx_c Hb) rfl (Nat.le_of_ble_eq_true rfl) (ts_size Hb hd) ?_
        rintro _ _ ⟨rfl, rfl⟩
        refine wg_invv (d76_120 L xs) (kd := 7) (mj := 44) (n := 3) rfl (Or.inl rfl) (ys := [.int (nI dom.length), .int (nI (f_last (gl dom) ((gl l (i + 3)) - 48) 0 dom.length)), .ref b]) (r := []) rfl rfl (by decide) rfl rfl (Nat.le_of_ble_eq_true rfl) (ts_addPartT hc Hb hd hb (by omega) (by omega)) ?_
        rintro _ s1 ⟨rfl, e1⟩
        exact wg_vret (d76_123 L xs) rfl ⟨rfl, by rw [x_mac, hsrc]; first | (rw [if_pos (by omega), x_pts, if_pos (by omega)]; exact e1) | (rw [if_pos (by omega), x_pts, if_neg (by omega)]; exact e1) | (rw [if_neg (by omega), x_pts, if_pos (by omega)]; exact e1) | (rw [if_neg (by omega), x_pts, if_neg (by omega)]; exact e1)⟩
      · refine wg_aload_n (d76_88 L xs) rfl ?_
        refine wg_get (d76_89 L xs) (kd := 1) (cj := 6) (k0 := 2) rfl (Or.inl rfl) (by decide) rfl rfl ?_
        refine wg_aload (d76_92 L xs) rfl ?_
        refine wg_iload (d76_94 L xs) rfl ?_
        refine wg_invv (d76_96 L xs) (kd := 7) (mj := 77) (n := 2) rfl (Or.inl rfl) (ys := [.int (nI ((gl l (i + 3)) - 48)), .ref b]) (r := []) rfl rfl (by decide) rfl rfl (Nat.le_of_ble_eq_true rfl) (ts_rev (pts := (gl l (i + 3)) - 48) Hb hb (by omega) hd hc) ?_
        rintro _ s1 ⟨rfl, e1⟩
        refine wg_goto (d76_99 L xs) (t := 123) (by decide) ?_
        exact wg_vret (d76_123 L xs) rfl ⟨rfl, by rw [x_mac, hsrc]; first | (rw [if_pos (by omega), x_pts, if_pos (by omega)]; exact e1) | (rw [if_pos (by omega), x_pts, if_neg (by omega)]; exact e1) | (rw [if_neg (by omega), x_pts, if_pos (by omega)]; exact e1) | (rw [if_neg (by omega), x_pts, if_neg (by omega)]; exact e1)⟩
theorem ck_mac_i {s : mg_s} {i e : Nat} {cur : List Nat} (Ha : isT a) (hl : hold s a l) (Hb : isT b) (hd : hold s b dom) (hb : ¬ b = 89) (hi : hold s 91 ip) (hf : hold s 94 fst) (hv0 : s.2.2.2.1 0 = some 93) (hc : hold s 89 (cur.take 49)) (hi9 : i < 2 ^ 29) (he9 : e < 2 ^ 29) (he1 : 1 ≤ e) (h2 : gl l (i + 2) = 105) : ca L xs (d + 4) 76 [.ref 87, .ref a, .int (nI i), .int (nI e), .ref b] s (fun v s' => v = none ∧ tset s 89 ((cur ++ x_mac (gl l) i e dom ip fst).take 49) s') := by
  refine wg_call (Nat.le_of_ble_eq_true rfl) ?_
  have hg2 := gl_lt hl.2.1 (i + 2)
  have hg3 := gl_lt hl.2.1 (i + 3)
  have hg4 := gl_lt hl.2.1 (e - 1)
  have hxl := hi.1.2
  have hxm : tlim 91 ≤ 100 := tx_m isT_all.2.2.2.1
  have hfl : ∀ q, f_last (gl ip) q 0 ip.length ≤ ip.length := fun q => f_last_le _ _
  have hl1 := hfl (gl l (i + 3) - 48)
  have hl2 := hfl 48
  have hsrc : x_src (gl l) i dom ip fst = ip := by unfold x_src; rw [if_neg (by omega), if_pos h2]
  show wp L xs (d + 3) 76 0 [some (.ref 87), some (.ref a), some (.int (nI i)), some (.int (nI e)), some (.ref b), none, none, none, none] [] s _
  refine wg_aload_n (d76_0 L xs) rfl ?_
  refine wg_iload_n (d76_1 L xs) rfl ?_
  refine wg_iconst (d76_2 L xs) (x := 2) (by decide) ?_
  refine wg_iadd (d76_3 L xs) ?_
  refine wg_top (y := (nI (i + 2))) (nI_add i 2) ?_
  refine wg_invv (d76_4 L xs) (kd := 7) (mj := 31) (n := 1) rfl (Or.inl rfl) (ys := [.int (nI (i + 2))]) (r := []) rfl rfl Ha.1 (tx_c Ha) rfl (Nat.le_of_ble_eq_true rfl) (ts_at Ha hl (by omega)) ?_
  rintro _ _ ⟨rfl, rfl⟩
  refine wg_istore (d76_7 L xs) (ls' := [some (.ref 87), some (.ref a), some (.int (nI i)), some (.int (nI e)), some (.ref b), some (.int (nI (gl l (i + 2)))), none, none, none]) (Nat.le_of_ble_eq_true rfl) rfl ?_
  refine wg_aload_n (d76_9 L xs) rfl ?_
  refine wg_iload_n (d76_10 L xs) rfl ?_
  refine wg_iconst (d76_11 L xs) (x := 3) (by decide) ?_
  refine wg_iadd (d76_12 L xs) ?_
  refine wg_top (y := (nI (i + 3))) (nI_add i 3) ?_
  refine wg_invv (d76_13 L xs) (kd := 7) (mj := 31) (n := 1) rfl (Or.inl rfl) (ys := [.int (nI (i + 3))]) (r := []) rfl rfl Ha.1 (tx_c Ha) rfl (Nat.le_of_ble_eq_true rfl) (ts_at Ha hl (by omega)) ?_
  rintro _ _ ⟨rfl, rfl⟩
  refine wg_istore (d76_16 L xs) (ls' := [some (.ref 87), some (.ref a), some (.int (nI i)), some (.int (nI e)), some (.ref b), some (.int (nI (gl l (i + 2)))), some (.int (nI (gl l (i + 3)))), none, none]) (Nat.le_of_ble_eq_true rfl) rfl ?_
  refine wg_iload (d76_18 L xs) rfl ?_
  refine wg_bipush (d76_20 L xs) (x := 100) (by decide) ?_
  refine wn_icmp_ne (d76_22 L xs) (x := gl l (i + 2)) (y := 100) (by omega) (by omega) (t := 30) (by decide) (fun h1 => ?_) (fun h1 => by omega)
  refine wg_iload (d76_30 L xs) rfl ?_
  refine wg_bipush (d76_32 L xs) (x := 105) (by decide) ?_
  refine wn_icmp_ne (d76_34 L xs) (x := gl l (i + 2)) (y := 105) (by omega) (by omega) (t := 44) (by decide) (fun h2 => by omega) (fun h2 => ?_)
  refine wg_aload_n (d76_37 L xs) rfl ?_
  refine wg_get (d76_38 L xs) (kd := 1) (cj := 6) (k0 := 3) rfl (Or.inl rfl) (by decide) rfl rfl ?_
  refine wg_goto (d76_41 L xs) (t := 48) (by decide) ?_
  refine wg_astore (d76_48 L xs) (ls' := [some (.ref 87), some (.ref a), some (.int (nI i)), some (.int (nI e)), some (.ref b), some (.int (nI (gl l (i + 2)))), some (.int (nI (gl l (i + 3)))), some (.ref 91), none]) (Nat.le_of_ble_eq_true rfl) rfl ?_
  refine wg_iload (d76_50 L xs) rfl ?_
  refine wg_bipush (d76_52 L xs) (x := 49) (by decide) ?_
  refine wn_icmp_lt (d76_54 L xs) (x := gl l (i + 3)) (y := 49) (by omega) (by omega) (t := 72) (by decide) (fun h3 => ?_) (fun h3 => ?_)
  · refine wg_bipush (d76_72 L xs) (x := 48) (by decide) ?_
    refine wg_istore (d76_74 L xs) (ls' := [some (.ref 87), some (.ref a), some (.int (nI i)), some (.int (nI e)), some (.ref b), some (.int (nI (gl l (i + 2)))), some (.int (nI (gl l (i + 3)))), some (.ref 91), some (.int 48)]) (Nat.le_of_ble_eq_true rfl) rfl ?_
    refine wg_aload_n (d76_76 L xs) rfl ?_
    refine wg_iload_n (d76_77 L xs) rfl ?_
    refine wg_iconst (d76_78 L xs) (x := 1) (by decide) ?_
    refine wg_isub (d76_79 L xs) ?_
    refine wg_top (y := (nI (e - 1))) (pk_sub (a := e) (b := 1) (by omega)) ?_
    refine wg_invv (d76_80 L xs) (kd := 7) (mj := 31) (n := 1) rfl (Or.inl rfl) (ys := [.int (nI (e - 1))]) (r := []) rfl rfl Ha.1 (tx_c Ha) rfl (Nat.le_of_ble_eq_true rfl) (ts_at Ha hl (by omega)) ?_
    rintro _ _ ⟨rfl, rfl⟩
    refine wg_bipush (d76_83 L xs) (x := 114) (by decide) ?_
    refine wn_icmp_ne (d76_85 L xs) (x := gl l (e - 1)) (y := 114) (by omega) (by omega) (t := 102) (by decide) (fun h4 => ?_) (fun h4 => ?_)
    · refine wg_aload_n (d76_102 L xs) rfl ?_
      refine wg_get (d76_103 L xs) (kd := 1) (cj := 6) (k0 := 2) rfl (Or.inl rfl) (by decide) rfl rfl ?_
      refine wg_aload (d76_106 L xs) rfl ?_
      refine wg_aload (d76_108 L xs) rfl ?_
      refine wg_iload (d76_110 L xs) rfl ?_
      refine wg_invv (d76_112 L xs) (kd := 7) (mj := 52) (n := 1) rfl (Or.inl rfl) (ys := [.int 48]) (r := [.ref 91, .ref 89]) rfl rfl (by decide) rfl rfl (Nat.le_of_ble_eq_true rfl) (ts_last (parts := 48) isT_all.2.2.2.1 hi (by omega)) ?_
      rintro _ _ ⟨rfl, rfl⟩
      refine wg_aload (d76_115 L xs) rfl ?_
      refine wg_invv (d76_117 L xs) (kd := 7) (mj := 15) (n := 0) rfl (Or.inl rfl) (ys := []) (r := [.int (nI (f_last (gl ip) 48 0 ip.length)), .ref 91, .ref 89]) rfl rfl (by decide) rfl rfl (Nat.le_of_ble_eq_true rfl) (ts_size isT_all.2.2.2.1 hi) ?_
      rintro _ _ ⟨rfl, rfl⟩
      refine wg_invv (d76_120 L xs) (kd := 7) (mj := 44) (n := 3) rfl (Or.inl rfl) (ys := [.int (nI ip.length), .int (nI (f_last (gl ip) 48 0 ip.length)), .ref 91]) (r := []) rfl rfl (by decide) rfl rfl (Nat.le_of_ble_eq_true rfl) (ts_addPartT hc isT_all.2.2.2.1 hi (by decide) (by omega) (by omega)) ?_
      rintro _ s1 ⟨rfl, e1⟩
      exact wg_vret (d76_123 L xs) rfl ⟨rfl, by rw [x_mac, hsrc]; first | (rw [if_pos (by omega), x_pts, if_pos (by omega)]; exact e1) | (rw [if_pos (by omega), x_pts, if_neg (by omega)]; exact e1) | (rw [if_neg (by omega), x_pts, if_pos (by omega)]; exact e1) | (rw [if_neg (by omega), x_pts, if_neg (by omega)]; exact e1)⟩
    · refine wg_aload_n (d76_88 L xs) rfl ?_
      refine wg_get (d76_89 L xs) (kd := 1) (cj := 6) (k0 := 2) rfl (Or.inl rfl) (by decide) rfl rfl ?_
      refine wg_aload (d76_92 L xs) rfl ?_
      refine wg_iload (d76_94 L xs) rfl ?_
      refine wg_invv (d76_96 L xs) (kd := 7) (mj := 77) (n := 2) rfl (Or.inl rfl) (ys := [.int 48, .ref 91]) (r := []) rfl rfl (by decide) rfl rfl (Nat.le_of_ble_eq_true rfl) (ts_rev (pts := 48) isT_all.2.2.2.1 (by decide) (by omega) hi hc) ?_
      rintro _ s1 ⟨rfl, e1⟩
      refine wg_goto (d76_99 L xs) (t := 123) (by decide) ?_
      exact wg_vret (d76_123 L xs) rfl ⟨rfl, by rw [x_mac, hsrc]; first | (rw [if_pos (by omega), x_pts, if_pos (by omega)]; exact e1) | (rw [if_pos (by omega), x_pts, if_neg (by omega)]; exact e1) | (rw [if_neg (by omega), x_pts, if_pos (by omega)]; exact e1) | (rw [if_neg (by omega), x_pts, if_neg (by omega)]; exact e1)⟩
  · refine wg_iload (d76_57 L xs) rfl ?_
    refine wg_bipush (d76_59 L xs) (x := 57) (by decide) ?_
    refine wn_icmp_gt (d76_61 L xs) (x := gl l (i + 3)) (y := 57) (by omega) (by omega) (t := 72) (by decide) (fun h5 => ?_) (fun h5 => ?_)
    · refine wg_bipush (d76_72 L xs) (x := 48) (by decide) ?_
      refine wg_istore (d76_74 L xs) (ls' := [some (.ref 87), some (.ref a), some (.int (nI i)), some (.int (nI e)), some (.ref b), some (.int (nI (gl l (i + 2)))), some (.int (nI (gl l (i + 3)))), some (.ref 91), some (.int 48)]) (Nat.le_of_ble_eq_true rfl) rfl ?_
      refine wg_aload_n (d76_76 L xs) rfl ?_
      refine wg_iload_n (d76_77 L xs) rfl ?_
      refine wg_iconst (d76_78 L xs) (x := 1) (by decide) ?_
      refine wg_isub (d76_79 L xs) ?_
      refine wg_top (y := (nI (e - 1))) (pk_sub (a := e) (b := 1) (by omega)) ?_
      refine wg_invv (d76_80 L xs) (kd := 7) (mj := 31) (n := 1) rfl (Or.inl rfl) (ys := [.int (nI (e - 1))]) (r := []) rfl rfl Ha.1 (tx_c Ha) rfl (Nat.le_of_ble_eq_true rfl) (ts_at Ha hl (by omega)) ?_
      rintro _ _ ⟨rfl, rfl⟩
      refine wg_bipush (d76_83 L xs) (x := 114) (by decide) ?_
      refine wn_icmp_ne (d76_85 L xs) (x := gl l (e - 1)) (y := 114) (by omega) (by omega) (t := 102) (by decide) (fun h6 => ?_) (fun h6 => ?_)
      · refine wg_aload_n (d76_102 L xs) rfl ?_
        refine wg_get (d76_103 L xs) (kd := 1) (cj := 6) (k0 := 2) rfl (Or.inl rfl) (by decide) rfl rfl ?_
        refine wg_aload (d76_106 L xs) rfl ?_
        refine wg_aload (d76_108 L xs) rfl ?_
        refine wg_iload (d76_110 L xs) rfl ?_
        refine wg_invv (d76_112 L xs) (kd := 7) (mj := 52) (n := 1) rfl (Or.inl rfl) (ys := [.int 48]) (r := [.ref 91, .ref 89]) rfl rfl (by decide) rfl rfl (Nat.le_of_ble_eq_true rfl) (ts_last (parts := 48) isT_all.2.2.2.1 hi (by omega)) ?_
        rintro _ _ ⟨rfl, rfl⟩
        refine wg_aload (d76_115 L xs) rfl ?_
        refine wg_invv (d76_117 L xs) (kd := 7) (mj := 15) (n := 0) rfl (Or.inl rfl) (ys := []) (r := [.int (nI (f_last (gl ip) 48 0 ip.length)), .ref 91, .ref 89]) rfl rfl (by decide) rfl rfl (Nat.le_of_ble_eq_true rfl) (ts_size isT_all.2.2.2.1 hi) ?_
        rintro _ _ ⟨rfl, rfl⟩
        refine wg_invv (d76_120 L xs) (kd := 7) (mj := 44) (n := 3) rfl (Or.inl rfl) (ys := [.int (nI ip.length), .int (nI (f_last (gl ip) 48 0 ip.length)), .ref 91]) (r := []) rfl rfl (by decide) rfl rfl (Nat.le_of_ble_eq_true rfl) (ts_addPartT hc isT_all.2.2.2.1 hi (by decide) (by omega) (by omega)) ?_
        rintro _ s1 ⟨rfl, e1⟩
        exact wg_vret (d76_123 L xs) rfl ⟨rfl, by rw [x_mac, hsrc]; first | (rw [if_pos (by omega), x_pts, if_pos (by omega)]; exact e1) | (rw [if_pos (by omega), x_pts, if_neg (by omega)]; exact e1) | (rw [if_neg (by omega), x_pts, if_pos (by omega)]; exact e1) | (rw [if_neg (by omega), x_pts, if_neg (by omega)]; exact e1)⟩
      · refine wg_aload_n (d76_88 L xs) rfl ?_
        refine wg_get (d76_89 L xs) (kd := 1) (cj := 6) (k0 := 2) rfl (Or.inl rfl) (by decide) rfl rfl ?_
        refine wg_aload (d76_92 L xs) rfl ?_
        refine wg_iload (d76_94 L xs) rfl ?_
        refine wg_invv (d76_96 L xs) (kd := 7) (mj := 77) (n := 2) rfl (Or.inl rfl) (ys := [.int 48, .ref 91]) (r := []) rfl rfl (by decide) rfl rfl (Nat.le_of_ble_eq_true rfl) (ts_rev (pts := 48) isT_all.2.2.2.1 (by decide) (by omega) hi hc) ?_
        rintro _ s1 ⟨rfl, e1⟩
        refine wg_goto (d76_99 L xs) (t := 123) (by decide) ?_
        exact wg_vret (d76_123 L xs) rfl ⟨rfl, by rw [x_mac, hsrc]; first | (rw [if_pos (by omega), x_pts, if_pos (by omega)]; exact e1) | (rw [if_pos (by omega), x_pts, if_neg (by omega)]; exact e1) | (rw [if_neg (by omega), x_pts, if_pos (by omega)]; exact e1) | (rw [if_neg (by omega), x_pts, if_neg (by omega)]; exact e1)⟩
    · refine wg_iload (d76_64 L xs) rfl ?_
      refine wg_bipush (d76_66 L xs) (x := 48) (by decide) ?_
      refine wg_isub (d76_68 L xs) ?_
      refine wg_top (y := (nI ((gl l (i + 3)) - 48))) (pk_sub (a := gl l (i + 3)) (b := 48) (by omega)) ?_
      refine wg_goto (d76_69 L xs) (t := 74) (by decide) ?_
      refine wg_istore (d76_74 L xs) (ls' := [some (.ref 87), some (.ref a), some (.int (nI i)), some (.int (nI e)), some (.ref b), some (.int (nI (gl l (i + 2)))), some (.int (nI (gl l (i + 3)))), some (.ref 91), some (.int (nI ((gl l (i + 3)) - 48)))]) (Nat.le_of_ble_eq_true rfl) rfl ?_
      refine wg_aload_n (d76_76 L xs) rfl ?_
      refine wg_iload_n (d76_77 L xs) rfl ?_
      refine wg_iconst (d76_78 L xs) (x := 1) (by decide) ?_
      refine wg_isub (d76_79 L xs) ?_
      refine wg_top (y := (nI (e - 1))) (pk_sub (a := e) (b := 1) (by omega)) ?_
      refine wg_invv (d76_80 L xs) (kd := 7) (mj := 31) (n := 1) rfl (Or.inl rfl) (ys := [.int (nI (e - 1))]) (r := []) rfl rfl Ha.1 (tx_c Ha) rfl (Nat.le_of_ble_eq_true rfl) (ts_at Ha hl (by omega)) ?_
      rintro _ _ ⟨rfl, rfl⟩
      refine wg_bipush (d76_83 L xs) (x := 114) (by decide) ?_
      refine wn_icmp_ne (d76_85 L xs) (x := gl l (e - 1)) (y := 114) (by omega) (by omega) (t := 102) (by decide) (fun h7 => ?_) (fun h7 => ?_)
      · refine wg_aload_n (d76_102 L xs) rfl ?_
        refine wg_get (d76_103 L xs) (kd := 1) (cj := 6) (k0 := 2) rfl (Or.inl rfl) (by decide) rfl rfl ?_
        refine wg_aload (d76_106 L xs) rfl ?_
        refine wg_aload (d76_108 L xs) rfl ?_
        refine wg_iload (d76_110 L xs) rfl ?_
        refine wg_invv (d76_112 L xs) (kd := 7) (mj := 52) (n := 1) rfl (Or.inl rfl) (ys := [.int (nI ((gl l (i + 3)) - 48))]) (r := [.ref 91, .ref 89]) rfl rfl (by decide) rfl rfl (Nat.le_of_ble_eq_true rfl) (ts_last (parts := (gl l (i + 3)) - 48) isT_all.2.2.2.1 hi (by omega)) ?_
        rintro _ _ ⟨rfl, rfl⟩
        refine wg_aload (d76_115 L xs) rfl ?_
        refine wg_invv (d76_117 L xs) (kd := 7) (mj := 15) (n := 0) rfl (Or.inl rfl) (ys := []) (r := [.int (nI (f_last (gl ip) ((gl l (i + 3)) - 48) 0 ip.length)), .ref 91, .ref 89]) rfl rfl (by decide) rfl rfl (Nat.le_of_ble_eq_true rfl) (ts_size isT_all.2.2.2.1 hi) ?_
        rintro _ _ ⟨rfl, rfl⟩
        refine wg_invv (d76_120 L xs) (kd := 7) (mj := 44) (n := 3) rfl (Or.inl rfl) (ys := [.int (nI ip.length), .int (nI (f_last (gl ip) ((gl l (i + 3)) - 48) 0 ip.length)), .ref 91]) (r := []) rfl rfl (by decide) rfl rfl (Nat.le_of_ble_eq_true rfl) (ts_addPartT hc isT_all.2.2.2.1 hi (by decide) (by omega) (by omega)) ?_
        rintro _ s1 ⟨rfl, e1⟩
        exact wg_vret (d76_123 L xs) rfl ⟨rfl, by rw [x_mac, hsrc]; first | (rw [if_pos (by omega), x_pts, if_pos (by omega)]; exact e1) | (rw [if_pos (by omega), x_pts, if_neg (by omega)]; exact e1) | (rw [if_neg (by omega), x_pts, if_pos (by omega)]; exact e1) | (rw [if_neg (by omega), x_pts, if_neg (by omega)]; exact e1)⟩
      · refine wg_aload_n (d76_88 L xs) rfl ?_
        refine wg_get (d76_89 L xs) (kd := 1) (cj := 6) (k0 := 2) rfl (Or.inl rfl) (by decide) rfl rfl ?_
        refine wg_aload (d76_92 L xs) rfl ?_
        refine wg_iload (d76_94 L xs) rfl ?_
        refine wg_invv (d76_96 L xs) (kd := 7) (mj := 77) (n := 2) rfl (Or.inl rfl) (ys := [.int (nI ((gl l (i + 3)) - 48)), .ref 91]) (r := []) rfl rfl (by decide) rfl rfl (Nat.le_of_ble_eq_true rfl) (ts_rev (pts := (gl l (i + 3)) - 48) isT_all.2.2.2.1 (by decide) (by omega) hi hc) ?_
        rintro _ s1 ⟨rfl, e1⟩
        refine wg_goto (d76_99 L xs) (t := 123) (by decide) ?_
        exact wg_vret (d76_123 L xs) rfl ⟨rfl, by rw [x_mac, hsrc]; first | (rw [if_pos (by omega), x_pts, if_pos (by omega)]; exact e1) | (rw [if_pos (by omega), x_pts, if_neg (by omega)]; exact e1) | (rw [if_neg (by omega), x_pts, if_pos (by omega)]; exact e1) | (rw [if_neg (by omega), x_pts, if_neg (by omega)]; exact e1)⟩
theorem ck_mac_o {s : mg_s} {i e : Nat} {cur : List Nat} (Ha : isT a) (hl : hold s a l) (Hb : isT b) (hd : hold s b dom) (hb : ¬ b = 89) (hi : hold s 91 ip) (hf : hold s 94 fst) (hv0 : s.2.2.2.1 0 = some 93) (hc : hold s 89 (cur.take 49)) (hi9 : i < 2 ^ 29) (he9 : e < 2 ^ 29) (he1 : 1 ≤ e) (h2 : ¬ gl l (i + 2) = 100) (h3 : ¬ gl l (i + 2) = 105) : ca L xs (d + 4) 76 [.ref 87, .ref a, .int (nI i), .int (nI e), .ref b] s (fun v s' => v = none ∧ tset s 89 ((cur ++ x_mac (gl l) i e dom ip fst).take 49) s') := by
  refine wg_call (Nat.le_of_ble_eq_true rfl) ?_
  have hg2 := gl_lt hl.2.1 (i + 2)
  have hg3 := gl_lt hl.2.1 (i + 3)
  have hg4 := gl_lt hl.2.1 (e - 1)
  have hxl := hf.1.2
  have hxm : tlim 94 ≤ 100 := tx_m (lf_n isL93)
  have hfl : ∀ q, f_last (gl fst) q 0 fst.length ≤ fst.length := fun q => f_last_le _ _
  have hl1 := hfl (gl l (i + 3) - 48)
  have hl2 := hfl 48
  have hsrc : x_src (gl l) i dom ip fst = fst := by unfold x_src; rw [if_neg h2, if_neg h3]
  show wp L xs (d + 3) 76 0 [some (.ref 87), some (.ref a), some (.int (nI i)), some (.int (nI e)), some (.ref b), none, none, none, none] [] s _
  refine wg_aload_n (d76_0 L xs) rfl ?_
  refine wg_iload_n (d76_1 L xs) rfl ?_
  refine wg_iconst (d76_2 L xs) (x := 2) (by decide) ?_
  refine wg_iadd (d76_3 L xs) ?_
  refine wg_top (y := (nI (i + 2))) (nI_add i 2) ?_
  refine wg_invv (d76_4 L xs) (kd := 7) (mj := 31) (n := 1) rfl (Or.inl rfl) (ys := [.int (nI (i + 2))]) (r := []) rfl rfl Ha.1 (tx_c Ha) rfl (Nat.le_of_ble_eq_true rfl) (ts_at Ha hl (by omega)) ?_
  rintro _ _ ⟨rfl, rfl⟩
  refine wg_istore (d76_7 L xs) (ls' := [some (.ref 87), some (.ref a), some (.int (nI i)), some (.int (nI e)), some (.ref b), some (.int (nI (gl l (i + 2)))), none, none, none]) (Nat.le_of_ble_eq_true rfl) rfl ?_
  refine wg_aload_n (d76_9 L xs) rfl ?_
  refine wg_iload_n (d76_10 L xs) rfl ?_
  refine wg_iconst (d76_11 L xs) (x := 3) (by decide) ?_
  refine wg_iadd (d76_12 L xs) ?_
  refine wg_top (y := (nI (i + 3))) (nI_add i 3) ?_
  refine wg_invv (d76_13 L xs) (kd := 7) (mj := 31) (n := 1) rfl (Or.inl rfl) (ys := [.int (nI (i + 3))]) (r := []) rfl rfl Ha.1 (tx_c Ha) rfl (Nat.le_of_ble_eq_true rfl) (ts_at Ha hl (by omega)) ?_
  rintro _ _ ⟨rfl, rfl⟩
  refine wg_istore (d76_16 L xs) (ls' := [some (.ref 87), some (.ref a), some (.int (nI i)), some (.int (nI e)), some (.ref b), some (.int (nI (gl l (i + 2)))), some (.int (nI (gl l (i + 3)))), none, none]) (Nat.le_of_ble_eq_true rfl) rfl ?_
  refine wg_iload (d76_18 L xs) rfl ?_
  refine wg_bipush (d76_20 L xs) (x := 100) (by decide) ?_
  refine wn_icmp_ne (d76_22 L xs) (x := gl l (i + 2)) (y := 100) (by omega) (by omega) (t := 30) (by decide) (fun h1 => ?_) (fun h1 => by omega)
  refine wg_iload (d76_30 L xs) rfl ?_
  refine wg_bipush (d76_32 L xs) (x := 105) (by decide) ?_
  refine wn_icmp_ne (d76_34 L xs) (x := gl l (i + 2)) (y := 105) (by omega) (by omega) (t := 44) (by decide) (fun h2 => ?_) (fun h2 => by omega)
  refine wg_aload_n (d76_44 L xs) rfl ?_
  refine wg_invv (d76_45 L xs) (kd := 7) (mj := 49) (n := 0) rfl (Or.inl rfl) (ys := []) (r := []) rfl rfl (by decide) rfl rfl (Nat.le_of_ble_eq_true rfl) (ck_first hv0) ?_
  rintro _ _ ⟨rfl, rfl⟩
  refine wg_astore (d76_48 L xs) (ls' := [some (.ref 87), some (.ref a), some (.int (nI i)), some (.int (nI e)), some (.ref b), some (.int (nI (gl l (i + 2)))), some (.int (nI (gl l (i + 3)))), some (.ref 94), none]) (Nat.le_of_ble_eq_true rfl) rfl ?_
  refine wg_iload (d76_50 L xs) rfl ?_
  refine wg_bipush (d76_52 L xs) (x := 49) (by decide) ?_
  refine wn_icmp_lt (d76_54 L xs) (x := gl l (i + 3)) (y := 49) (by omega) (by omega) (t := 72) (by decide) (fun h3 => ?_) (fun h3 => ?_)
  · refine wg_bipush (d76_72 L xs) (x := 48) (by decide) ?_
    refine wg_istore (d76_74 L xs) (ls' := [some (.ref 87), some (.ref a), some (.int (nI i)), some (.int (nI e)), some (.ref b), some (.int (nI (gl l (i + 2)))), some (.int (nI (gl l (i + 3)))), some (.ref 94), some (.int 48)]) (Nat.le_of_ble_eq_true rfl) rfl ?_
    refine wg_aload_n (d76_76 L xs) rfl ?_
    refine wg_iload_n (d76_77 L xs) rfl ?_
    refine wg_iconst (d76_78 L xs) (x := 1) (by decide) ?_
    refine wg_isub (d76_79 L xs) ?_
    refine wg_top (y := (nI (e - 1))) (pk_sub (a := e) (b := 1) (by omega)) ?_
    refine wg_invv (d76_80 L xs) (kd := 7) (mj := 31) (n := 1) rfl (Or.inl rfl) (ys := [.int (nI (e - 1))]) (r := []) rfl rfl Ha.1 (tx_c Ha) rfl (Nat.le_of_ble_eq_true rfl) (ts_at Ha hl (by omega)) ?_
    rintro _ _ ⟨rfl, rfl⟩
    refine wg_bipush (d76_83 L xs) (x := 114) (by decide) ?_
    refine wn_icmp_ne (d76_85 L xs) (x := gl l (e - 1)) (y := 114) (by omega) (by omega) (t := 102) (by decide) (fun h4 => ?_) (fun h4 => ?_)
    · refine wg_aload_n (d76_102 L xs) rfl ?_
      refine wg_get (d76_103 L xs) (kd := 1) (cj := 6) (k0 := 2) rfl (Or.inl rfl) (by decide) rfl rfl ?_
      refine wg_aload (d76_106 L xs) rfl ?_
      refine wg_aload (d76_108 L xs) rfl ?_
      refine wg_iload (d76_110 L xs) rfl ?_
      refine wg_invv (d76_112 L xs) (kd := 7) (mj := 52) (n := 1) rfl (Or.inl rfl) (ys := [.int 48]) (r := [.ref 94, .ref 89]) rfl rfl (by decide) rfl rfl (Nat.le_of_ble_eq_true rfl) (ts_last (parts := 48) (lf_n isL93) hf (by omega)) ?_
      rintro _ _ ⟨rfl, rfl⟩
      refine wg_aload (d76_115 L xs) rfl ?_
      refine wg_invv (d76_117 L xs) (kd := 7) (mj := 15) (n := 0) rfl (Or.inl rfl) (ys := []) (r := [.int (nI (f_last (gl fst) 48 0 fst.length)), .ref 94, .ref 89]) rfl rfl (by decide) rfl rfl (Nat.le_of_ble_eq_true rfl) (ts_size (lf_n isL93) hf) ?_
      rintro _ _ ⟨rfl, rfl⟩
      refine wg_invv (d76_120 L xs) (kd := 7) (mj := 44) (n := 3) rfl (Or.inl rfl) (ys := [.int (nI fst.length), .int (nI (f_last (gl fst) 48 0 fst.length)), .ref 94]) (r := []) rfl rfl (by decide) rfl rfl (Nat.le_of_ble_eq_true rfl) (ts_addPartT hc (lf_n isL93) hf (by decide) (by omega) (by omega)) ?_
      rintro _ s1 ⟨rfl, e1⟩
      exact wg_vret (d76_123 L xs) rfl ⟨rfl, by rw [x_mac, hsrc]; first | (rw [if_pos (by omega), x_pts, if_pos (by omega)]; exact e1) | (rw [if_pos (by omega), x_pts, if_neg (by omega)]; exact e1) | (rw [if_neg (by omega), x_pts, if_pos (by omega)]; exact e1) | (rw [if_neg (by omega), x_pts, if_neg (by omega)]; exact e1)⟩
    · refine wg_aload_n (d76_88 L xs) rfl ?_
      refine wg_get (d76_89 L xs) (kd := 1) (cj := 6) (k0 := 2) rfl (Or.inl rfl) (by decide) rfl rfl ?_
      refine wg_aload (d76_92 L xs) rfl ?_
      refine wg_iload (d76_94 L xs) rfl ?_
      refine wg_invv (d76_96 L xs) (kd := 7) (mj := 77) (n := 2) rfl (Or.inl rfl) (ys := [.int 48, .ref 94]) (r := []) rfl rfl (by decide) rfl rfl (Nat.le_of_ble_eq_true rfl) (ts_rev (pts := 48) (lf_n isL93) (by decide) (by omega) hf hc) ?_
      rintro _ s1 ⟨rfl, e1⟩
      refine wg_goto (d76_99 L xs) (t := 123) (by decide) ?_
      exact wg_vret (d76_123 L xs) rfl ⟨rfl, by rw [x_mac, hsrc]; first | (rw [if_pos (by omega), x_pts, if_pos (by omega)]; exact e1) | (rw [if_pos (by omega), x_pts, if_neg (by omega)]; exact e1) | (rw [if_neg (by omega), x_pts, if_pos (by omega)]; exact e1) | (rw [if_neg (by omega), x_pts, if_neg (by omega)]; exact e1)⟩
  · refine wg_iload (d76_57 L xs) rfl ?_
    refine wg_bipush (d76_59 L xs) (x := 57) (by decide) ?_
    refine wn_icmp_gt (d76_61 L xs) (x := gl l (i + 3)) (y := 57) (by omega) (by omega) (t := 72) (by decide) (fun h5 => ?_) (fun h5 => ?_)
    · refine wg_bipush (d76_72 L xs) (x := 48) (by decide) ?_
      refine wg_istore (d76_74 L xs) (ls' := [some (.ref 87), some (.ref a), some (.int (nI i)), some (.int (nI e)), some (.ref b), some (.int (nI (gl l (i + 2)))), some (.int (nI (gl l (i + 3)))), some (.ref 94), some (.int 48)]) (Nat.le_of_ble_eq_true rfl) rfl ?_
      refine wg_aload_n (d76_76 L xs) rfl ?_
      refine wg_iload_n (d76_77 L xs) rfl ?_
      refine wg_iconst (d76_78 L xs) (x := 1) (by decide) ?_
      refine wg_isub (d76_79 L xs) ?_
      refine wg_top (y := (nI (e - 1))) (pk_sub (a := e) (b := 1) (by omega)) ?_
      refine wg_invv (d76_80 L xs) (kd := 7) (mj := 31) (n := 1) rfl (Or.inl rfl) (ys := [.int (nI (e - 1))]) (r := []) rfl rfl Ha.1 (tx_c Ha) rfl (Nat.le_of_ble_eq_true rfl) (ts_at Ha hl (by omega)) ?_
      rintro _ _ ⟨rfl, rfl⟩
      refine wg_bipush (d76_83 L xs) (x := 114) (by decide) ?_
      refine wn_icmp_ne (d76_85 L xs) (x := gl l (e - 1)) (y := 114) (by omega) (by omega) (t := 102) (by decide) (fun h6 => ?_) (fun h6 => ?_)
      · refine wg_aload_n (d76_102 L xs) rfl ?_
        refine wg_get (d76_103 L xs) (kd := 1) (cj := 6) (k0 := 2) rfl (Or.inl rfl) (by decide) rfl rfl ?_
        refine wg_aload (d76_106 L xs) rfl ?_
        refine wg_aload (d76_108 L xs) rfl ?_
        refine wg_iload (d76_110 L xs) rfl ?_
        refine wg_invv (d76_112 L xs) (kd := 7) (mj := 52) (n := 1) rfl (Or.inl rfl) (ys := [.int 48]) (r := [.ref 94, .ref 89]) rfl rfl (by decide) rfl rfl (Nat.le_of_ble_eq_true rfl) (ts_last (parts := 48) (lf_n isL93) hf (by omega)) ?_
        rintro _ _ ⟨rfl, rfl⟩
        refine wg_aload (d76_115 L xs) rfl ?_
        refine wg_invv (d76_117 L xs) (kd := 7) (mj := 15) (n := 0) rfl (Or.inl rfl) (ys := []) (r := [.int (nI (f_last (gl fst) 48 0 fst.length)), .ref 94, .ref 89]) rfl rfl (by decide) rfl rfl (Nat.le_of_ble_eq_true rfl) (ts_size (lf_n isL93) hf) ?_
        rintro _ _ ⟨rfl, rfl⟩
        refine wg_invv (d76_120 L xs) (kd := 7) (mj := 44) (n := 3) rfl (Or.inl rfl) (ys := [.int (nI fst.length), .int (nI (f_last (gl fst) 48 0 fst.length)), .ref 94]) (r := []) rfl rfl (by decide) rfl rfl (Nat.le_of_ble_eq_true rfl) (ts_addPartT hc (lf_n isL93) hf (by decide) (by omega) (by omega)) ?_
        rintro _ s1 ⟨rfl, e1⟩
        exact wg_vret (d76_123 L xs) rfl ⟨rfl, by rw [x_mac, hsrc]; first | (rw [if_pos (by omega), x_pts, if_pos (by omega)]; exact e1) | (rw [if_pos (by omega), x_pts, if_neg (by omega)]; exact e1) | (rw [if_neg (by omega), x_pts, if_pos (by omega)]; exact e1) | (rw [if_neg (by omega), x_pts, if_neg (by omega)]; exact e1)⟩
      · refine wg_aload_n (d76_88 L xs) rfl ?_
        refine wg_get (d76_89 L xs) (kd := 1) (cj := 6) (k0 := 2) rfl (Or.inl rfl) (by decide) rfl rfl ?_
        refine wg_aload (d76_92 L xs) rfl ?_
        refine wg_iload (d76_94 L xs) rfl ?_
        refine wg_invv (d76_96 L xs) (kd := 7) (mj := 77) (n := 2) rfl (Or.inl rfl) (ys := [.int 48, .ref 94]) (r := []) rfl rfl (by decide) rfl rfl (Nat.le_of_ble_eq_true rfl) (ts_rev (pts := 48) (lf_n isL93) (by decide) (by omega) hf hc) ?_
        rintro _ s1 ⟨rfl, e1⟩
        refine wg_goto (d76_99 L xs) (t := 123) (by decide) ?_
        exact wg_vret (d76_123 L xs) rfl ⟨rfl, by rw [x_mac, hsrc]; first | (rw [if_pos (by omega), x_pts, if_pos (by omega)]; exact e1) | (rw [if_pos (by omega), x_pts, if_neg (by omega)]; exact e1) | (rw [if_neg (by omega), x_pts, if_pos (by omega)]; exact e1) | (rw [if_neg (by omega), x_pts, if_neg (by omega)]; exact e1)⟩
    · refine wg_iload (d76_64 L xs) rfl ?_
      refine wg_bipush (d76_66 L xs) (x := 48) (by decide) ?_
      refine wg_isub (d76_68 L xs) ?_
      refine wg_top (y := (nI ((gl l (i + 3)) - 48))) (pk_sub (a := gl l (i + 3)) (b := 48) (by omega)) ?_
      refine wg_goto (d76_69 L xs) (t := 74) (by decide) ?_
      refine wg_istore (d76_74 L xs) (ls' := [some (.ref 87), some (.ref a), some (.int (nI i)), some (.int (nI e)), some (.ref b), some (.int (nI (gl l (i + 2)))), some (.int (nI (gl l (i + 3)))), some (.ref 94), some (.int (nI ((gl l (i + 3)) - 48)))]) (Nat.le_of_ble_eq_true rfl) rfl ?_
      refine wg_aload_n (d76_76 L xs) rfl ?_
      refine wg_iload_n (d76_77 L xs) rfl ?_
      refine wg_iconst (d76_78 L xs) (x := 1) (by decide) ?_
      refine wg_isub (d76_79 L xs) ?_
      refine wg_top (y := (nI (e - 1))) (pk_sub (a := e) (b := 1) (by omega)) ?_
      refine wg_invv (d76_80 L xs) (kd := 7) (mj := 31) (n := 1) rfl (Or.inl rfl) (ys := [.int (nI (e - 1))]) (r := []) rfl rfl Ha.1 (tx_c Ha) rfl (Nat.le_of_ble_eq_true rfl) (ts_at Ha hl (by omega)) ?_
      rintro _ _ ⟨rfl, rfl⟩
      refine wg_bipush (d76_83 L xs) (x := 114) (by decide) ?_
      refine wn_icmp_ne (d76_85 L xs) (x := gl l (e - 1)) (y := 114) (by omega) (by omega) (t := 102) (by decide) (fun h7 => ?_) (fun h7 => ?_)
      · refine wg_aload_n (d76_102 L xs) rfl ?_
        refine wg_get (d76_103 L xs) (kd := 1) (cj := 6) (k0 := 2) rfl (Or.inl rfl) (by decide) rfl rfl ?_
        refine wg_aload (d76_106 L xs) rfl ?_
        refine wg_aload (d76_108 L xs) rfl ?_
        refine wg_iload (d76_110 L xs) rfl ?_
        refine wg_invv (d76_112 L xs) (kd := 7) (mj := 52) (n := 1) rfl (Or.inl rfl) (ys := [.int (nI ((gl l (i + 3)) - 48))]) (r := [.ref 94, .ref 89]) rfl rfl (by decide) rfl rfl (Nat.le_of_ble_eq_true rfl) (ts_last (parts := (gl l (i + 3)) - 48) (lf_n isL93) hf (by omega)) ?_
        rintro _ _ ⟨rfl, rfl⟩
        refine wg_aload (d76_115 L xs) rfl ?_
        refine wg_invv (d76_117 L xs) (kd := 7) (mj := 15) (n := 0) rfl (Or.inl rfl) (ys := []) (r := [.int (nI (f_last (gl fst) ((gl l (i + 3)) - 48) 0 fst.length)), .ref 94, .ref 89]) rfl rfl (by decide) rfl rfl (Nat.le_of_ble_eq_true rfl) (ts_size (lf_n isL93) hf) ?_
        rintro _ _ ⟨rfl, rfl⟩
        refine wg_invv (d76_120 L xs) (kd := 7) (mj := 44) (n := 3) rfl (Or.inl rfl) (ys := [.int (nI fst.length), .int (nI (f_last (gl fst) ((gl l (i + 3)) - 48) 0 fst.length)), .ref 94]) (r := []) rfl rfl (by decide) rfl rfl (Nat.le_of_ble_eq_true rfl) (ts_addPartT hc (lf_n isL93) hf (by decide) (by omega) (by omega)) ?_
        rintro _ s1 ⟨rfl, e1⟩
        exact wg_vret (d76_123 L xs) rfl ⟨rfl, by rw [x_mac, hsrc]; first | (rw [if_pos (by omega), x_pts, if_pos (by omega)]; exact e1) | (rw [if_pos (by omega), x_pts, if_neg (by omega)]; exact e1) | (rw [if_neg (by omega), x_pts, if_pos (by omega)]; exact e1) | (rw [if_neg (by omega), x_pts, if_neg (by omega)]; exact e1)⟩
      · refine wg_aload_n (d76_88 L xs) rfl ?_
        refine wg_get (d76_89 L xs) (kd := 1) (cj := 6) (k0 := 2) rfl (Or.inl rfl) (by decide) rfl rfl ?_
        refine wg_aload (d76_92 L xs) rfl ?_
        refine wg_iload (d76_94 L xs) rfl ?_
        refine wg_invv (d76_96 L xs) (kd := 7) (mj := 77) (n := 2) rfl (Or.inl rfl) (ys := [.int (nI ((gl l (i + 3)) - 48)), .ref 94]) (r := []) rfl rfl (by decide) rfl rfl (Nat.le_of_ble_eq_true rfl) (ts_rev (pts := (gl l (i + 3)) - 48) (lf_n isL93) (by decide) (by omega) hf hc) ?_
        rintro _ s1 ⟨rfl, e1⟩
        refine wg_goto (d76_99 L xs) (t := 123) (by decide) ?_
        exact wg_vret (d76_123 L xs) rfl ⟨rfl, by rw [x_mac, hsrc]; first | (rw [if_pos (by omega), x_pts, if_pos (by omega)]; exact e1) | (rw [if_pos (by omega), x_pts, if_neg (by omega)]; exact e1) | (rw [if_neg (by omega), x_pts, if_pos (by omega)]; exact e1) | (rw [if_neg (by omega), x_pts, if_neg (by omega)]; exact e1)⟩
theorem ck_mac {s : mg_s} {i e : Nat} {cur : List Nat} (Ha : isT a) (hl : hold s a l) (Hb : isT b) (hd : hold s b dom) (hb : ¬ b = 89) (hi : hold s 91 ip) (hf : hold s 94 fst) (hv0 : s.2.2.2.1 0 = some 93) (hc : hold s 89 (cur.take 49)) (hi9 : i < 2 ^ 29) (he9 : e < 2 ^ 29) (he1 : 1 ≤ e) : ca L xs (d + 4) 76 [.ref 87, .ref a, .int (nI i), .int (nI e), .ref b] s (fun v s' => v = none ∧ tset s 89 ((cur ++ x_mac (gl l) i e dom ip fst).take 49) s') := by
  by_cases h2 : gl l (i + 2) = 100
  · exact ck_mac_d Ha hl Hb hd hb hi hf hv0 hc hi9 he9 he1 h2
  · by_cases h3 : gl l (i + 2) = 105
    · exact ck_mac_i Ha hl Hb hd hb hi hf hv0 hc hi9 he9 he1 h3
    · exact ck_mac_o Ha hl Hb hd hb hi hf hv0 hc hi9 he9 he1 h2 h3
theorem ck_exp_l {fr to : Nat} (Ha : isT a) (ha : ¬ a = 89) (Hb : isT b) (hb : ¬ b = 89) (hto : to < 2 ^ 28) : ∀ (m i : Nat) (c6 c7 : Option Value) (cur : List Nat) (s : mg_s), to ≤ i + m → i ≤ to → f_tgt (gl l) to m i = true → hold s a l → hold s b dom → hold s 91 ip → hold s 94 fst → s.2.2.2.1 0 = some 93 → hold s 89 (cur.take 49) → wp L xs (d + 4) 75 10 [some (.ref 87), some (.ref a), some (.int (nI fr)), some (.int (nI to)), some (.ref b), some (.int (nI i)), c6, c7] [] s (fun v s' => v = none ∧ tset s 89 ((cur ++ f_exp (gl l) to dom ip fst m i).take 49) s') := by
  have hend : ∀ {s : mg_s} {cur : List Nat}, hold s 89 (cur.take 49) → tset s 89 ((cur ++ []).take 49) s := by
    intro s cur hc
    rw [List.append_nil]
    exact ⟨s.2.1 90, mg_T_self hc.1.1, hc.1.2, hc.2.1, hc.2.2⟩
  intro m
  induction m with
  | zero =>
    intro i c6 c7 cur s hm hit hT hl hd hi hf hv0 hc
    refine wg_iload (d75_10 L xs) rfl ?_
    refine wg_iload_n (d75_12 L xs) rfl ?_
    refine wn_icmp_ge (d75_13 L xs) (x := i) (y := to) (by omega) (by omega) (t := 92) (by decide) (fun h1 => ?_) (fun h1 => by omega)
    exact wg_vret (d75_92 L xs) rfl ⟨rfl, hend hc⟩
  | succ m ih =>
    intro i c6 c7 cur s hm hit hT hl hd hi hf hv0 hc
    have hg := gl_lt hl.2.1 i
    rw [f_tgt] at hT
    rw [f_exp]
    refine wg_iload (d75_10 L xs) rfl ?_
    refine wg_iload_n (d75_12 L xs) rfl ?_
    refine wn_icmp_ge (d75_13 L xs) (x := i) (y := to) (by omega) (by omega) (t := 92) (by decide) (fun h1 => ?_) (fun h1 => ?_)
    · exact wg_vret (d75_92 L xs) rfl ⟨rfl, by rw [if_neg (by omega)]; exact hend hc⟩
    · refine wg_aload_n (d75_16 L xs) rfl ?_
      refine wg_iload (d75_17 L xs) rfl ?_
      refine wg_invv (d75_19 L xs) (kd := 7) (mj := 31) (n := 1) rfl (Or.inl rfl) (ys := [.int (nI i)]) (r := []) rfl rfl Ha.1 (tx_c Ha) rfl (Nat.le_of_ble_eq_true rfl) (ts_at Ha hl (by omega)) ?_
      rintro _ _ ⟨rfl, rfl⟩
      refine wg_istore (d75_22 L xs) (ls' := [some (.ref 87), some (.ref a), some (.int (nI fr)), some (.int (nI to)), some (.ref b), some (.int (nI i)), some (.int (nI (gl l i))), c7]) (Nat.le_of_ble_eq_true rfl) rfl ?_
      refine wg_iload (d75_24 L xs) rfl ?_
      refine wg_bipush (d75_26 L xs) (x := 37) (by decide) ?_
      refine wn_icmp_ne (d75_28 L xs) (x := gl l i) (y := 37) (by omega) (by omega) (t := 41) (by decide) (fun h2 => ?_) (fun h2 => ?_)
      · refine wg_iload (d75_41 L xs) rfl ?_
        refine wg_istore (d75_43 L xs) (ls' := [some (.ref 87), some (.ref a), some (.int (nI fr)), some (.int (nI to)), some (.ref b), some (.int (nI i)), some (.int (nI (gl l i))), some (.int (nI i))]) (Nat.le_of_ble_eq_true rfl) rfl ?_
        refine wg_iload (d75_45 L xs) rfl ?_
        refine wg_iload (d75_47 L xs) rfl ?_
        refine wg_iconst (d75_49 L xs) (x := 1) (by decide) ?_
        refine wg_iadd (d75_50 L xs) ?_
        refine wg_top (y := (nI (i + 1))) (nI_add i 1) ?_
        refine wn_icmp_le (d75_51 L xs) (x := i) (y := i + 1) (by omega) (by omega) (t := 68) (by decide) (fun h3 => ?_) (fun h3 => by omega)
        refine wg_aload_n (d75_68 L xs) rfl ?_
        refine wg_get (d75_69 L xs) (kd := 1) (cj := 6) (k0 := 2) rfl (Or.inl rfl) (by decide) rfl rfl ?_
        refine wg_iload (d75_72 L xs) rfl ?_
        refine wg_invv (d75_74 L xs) (kd := 7) (mj := 16) (n := 1) rfl (Or.inl rfl) (ys := [.int (nI (gl l i))]) (r := []) rfl rfl (by decide) rfl rfl (Nat.le_of_ble_eq_true rfl) (ts_addT hc (by omega)) ?_
        rintro _ s1 ⟨rfl, e1⟩
        refine wg_iload (d75_77 L xs) rfl ?_
        refine wg_iload (d75_79 L xs) rfl ?_
        refine wg_mmax (d75_81 L xs) rfl (Nat.le_of_ble_eq_true rfl) (z := (nI (max i i))) (mg_max (x := i) (y := i) (by omega) (by omega)) ?_
        refine wg_istore (d75_84 L xs) (ls' := [some (.ref 87), some (.ref a), some (.int (nI fr)), some (.int (nI to)), some (.ref b), some (.int (nI (max i i))), some (.int (nI (gl l i))), some (.int (nI i))]) (Nat.le_of_ble_eq_true rfl) rfl ?_
        refine wg_iinc (d75_86 L xs) (y := (nI ((max i i) + 1))) (ls' := [some (.ref 87), some (.ref a), some (.int (nI fr)), some (.int (nI to)), some (.ref b), some (.int (nI ((max i i) + 1))), some (.int (nI (gl l i))), some (.int (nI i))]) rfl (nI_add (max i i) 1) rfl ?_
        refine wg_goto (d75_89 L xs) (t := 10) (by decide) ?_
        rw [show max i i = i by omega]
        rw [if_pos (by omega), if_neg (by omega)] at hT
        rw [if_pos (by omega), if_neg (by omega)]
        refine wp_mono (ih (i + 1) _ _ (cur ++ [gl l i]) s1 (by omega) (by omega) hT (e1.other ha hl) (e1.other hb hd) (e1.other (by decide) hi) (e1.other (by decide) hf) (by rw [e1.r]; exact hv0) e1.has) (fun v s' h => ⟨h.1, ?_⟩)
        have h9 := e1.trans h.2
        rw [List.append_assoc] at h9
        exact h9
      · rw [if_pos (by omega), if_pos (by omega)] at hT
        rw [if_pos (by omega), if_pos (by omega)]
        cases hq : t_mac (gl l) i to with
        | none => rw [hq] at hT; cases hT
        | some e =>
          rw [hq] at hT
          have he := t_mac_lt hq
          show wp L xs (d + 4) 75 31 [some (.ref 87), some (.ref a), some (.int (nI fr)), some (.int (nI to)), some (.ref b), some (.int (nI i)), some (.int (nI (gl l i))), c7] [] s (fun v s' => v = none ∧ tset s 89 ((cur ++ (if i + 1 < e then x_mac (gl l) i e dom ip fst ++ f_exp (gl l) to dom ip fst m (e + 1) else 37 :: f_exp (gl l) to dom ip fst m (e + 1))).take 49) s')
          refine wg_aload_n (d75_31 L xs) rfl ?_
          refine wg_iload (d75_32 L xs) rfl ?_
          refine wg_iload_n (d75_34 L xs) rfl ?_
          refine wg_invs (d75_35 L xs) (kd := 6) (mj := 65) (n := 3) rfl (Or.inl rfl) (ys := [.int (nI to), .int (nI i), .ref a]) (r := []) rfl rfl (Nat.le_of_ble_eq_true rfl) (by have h := tm_mac (L := L) (xs := xs) (d := d + 2) (i := i) (j := to) Ha hl (by omega) (by omega); rw [hq] at h; exact h) ?_
          rintro _ _ ⟨rfl, rfl⟩
          refine wg_goto (d75_38 L xs) (t := 43) (by decide) ?_
          refine wg_istore (d75_43 L xs) (ls' := [some (.ref 87), some (.ref a), some (.int (nI fr)), some (.int (nI to)), some (.ref b), some (.int (nI i)), some (.int (nI (gl l i))), some (.int (nI e))]) (Nat.le_of_ble_eq_true rfl) rfl ?_
          refine wg_iload (d75_45 L xs) rfl ?_
          refine wg_iload (d75_47 L xs) rfl ?_
          refine wg_iconst (d75_49 L xs) (x := 1) (by decide) ?_
          refine wg_iadd (d75_50 L xs) ?_
          refine wg_top (y := (nI (i + 1))) (nI_add i 1) ?_
          refine wn_icmp_le (d75_51 L xs) (x := e) (y := i + 1) (by omega) (by omega) (t := 68) (by decide) (fun h1 => ?_) (fun h1 => ?_)
          · refine wg_aload_n (d75_68 L xs) rfl ?_
            refine wg_get (d75_69 L xs) (kd := 1) (cj := 6) (k0 := 2) rfl (Or.inl rfl) (by decide) rfl rfl ?_
            refine wg_iload (d75_72 L xs) rfl ?_
            refine wg_invv (d75_74 L xs) (kd := 7) (mj := 16) (n := 1) rfl (Or.inl rfl) (ys := [.int (nI (gl l i))]) (r := []) rfl rfl (by decide) rfl rfl (Nat.le_of_ble_eq_true rfl) (ts_addT (c := gl l i) hc (by omega)) ?_
            rintro _ s1 ⟨rfl, e1⟩
            refine wg_iload (d75_77 L xs) rfl ?_
            refine wg_iload (d75_79 L xs) rfl ?_
            refine wg_mmax (d75_81 L xs) rfl (Nat.le_of_ble_eq_true rfl) (z := (nI (max i e))) (mg_max (x := i) (y := e) (by omega) (by omega)) ?_
            refine wg_istore (d75_84 L xs) (ls' := [some (.ref 87), some (.ref a), some (.int (nI fr)), some (.int (nI to)), some (.ref b), some (.int (nI (max i e))), some (.int (nI (gl l i))), some (.int (nI e))]) (Nat.le_of_ble_eq_true rfl) rfl ?_
            refine wg_iinc (d75_86 L xs) (y := (nI ((max i e) + 1))) (ls' := [some (.ref 87), some (.ref a), some (.int (nI fr)), some (.int (nI to)), some (.ref b), some (.int (nI ((max i e) + 1))), some (.int (nI (gl l i))), some (.int (nI e))]) rfl (nI_add (max i e) 1) rfl ?_
            refine wg_goto (d75_89 L xs) (t := 10) (by decide) ?_
            rw [show max i e = e by omega]
            rw [if_neg (by omega)]
            refine wp_mono (ih (e + 1) _ _ (cur ++ [gl l i]) s1 (by omega) (by omega) hT (e1.other ha hl) (e1.other hb hd) (e1.other (by decide) hi) (e1.other (by decide) hf) (by rw [e1.r]; exact hv0) e1.has) (fun v s' h => ⟨h.1, ?_⟩)
            have h9 := e1.trans h.2
            rw [List.append_assoc, show gl l i = 37 by omega] at h9
            exact h9
          · refine wg_aload_n (d75_54 L xs) rfl ?_
            refine wg_aload_n (d75_55 L xs) rfl ?_
            refine wg_iload (d75_56 L xs) rfl ?_
            refine wg_iload (d75_58 L xs) rfl ?_
            refine wg_aload (d75_60 L xs) rfl ?_
            refine wg_invv (d75_62 L xs) (kd := 7) (mj := 76) (n := 4) rfl (Or.inl rfl) (ys := [.ref b, .int (nI e), .int (nI i), .ref a]) (r := []) rfl rfl (by decide) rfl rfl (Nat.le_of_ble_eq_true rfl) (ck_mac Ha hl Hb hd hb hi hf hv0 hc (by omega) (by omega) (by omega)) ?_
            rintro _ s1 ⟨rfl, e1⟩
            refine wg_goto (d75_65 L xs) (t := 77) (by decide) ?_
            refine wg_iload (d75_77 L xs) rfl ?_
            refine wg_iload (d75_79 L xs) rfl ?_
            refine wg_mmax (d75_81 L xs) rfl (Nat.le_of_ble_eq_true rfl) (z := (nI (max i e))) (mg_max (x := i) (y := e) (by omega) (by omega)) ?_
            refine wg_istore (d75_84 L xs) (ls' := [some (.ref 87), some (.ref a), some (.int (nI fr)), some (.int (nI to)), some (.ref b), some (.int (nI (max i e))), some (.int (nI (gl l i))), some (.int (nI e))]) (Nat.le_of_ble_eq_true rfl) rfl ?_
            refine wg_iinc (d75_86 L xs) (y := (nI ((max i e) + 1))) (ls' := [some (.ref 87), some (.ref a), some (.int (nI fr)), some (.int (nI to)), some (.ref b), some (.int (nI ((max i e) + 1))), some (.int (nI (gl l i))), some (.int (nI e))]) rfl (nI_add (max i e) 1) rfl ?_
            refine wg_goto (d75_89 L xs) (t := 10) (by decide) ?_
            rw [show max i e = e by omega]
            rw [if_pos (by omega)]
            refine wp_mono (ih (e + 1) _ _ (cur ++ x_mac (gl l) i e dom ip fst) s1 (by omega) (by omega) hT (e1.other ha hl) (e1.other hb hd) (e1.other (by decide) hi) (e1.other (by decide) hf) (by rw [e1.r]; exact hv0) e1.has) (fun v s' h => ⟨h.1, ?_⟩)
            have h9 := e1.trans h.2
            rw [List.append_assoc] at h9
            exact h9
theorem ck_exp {s : mg_s} {fr to : Nat} (Ha : isT a) (ha : ¬ a = 89) (Hb : isT b) (hb : ¬ b = 89) (hto : to < 2 ^ 28) (hf9 : fr ≤ to) (hT : f_tgt (gl l) to (to - fr) fr = true) (hl : hold s a l) (hd : hold s b dom) (hi : hold s 91 ip) (hf : hold s 94 fst) (hv0 : s.2.2.2.1 0 = some 93) : ca L xs (d + 5) 75 [.ref 87, .ref a, .int (nI fr), .int (nI to), .ref b] s (fun v s' => v = none ∧ tset s 89 ((f_exp (gl l) to dom ip fst (to - fr) fr).take 49) s') := by
  refine wg_call (Nat.le_of_ble_eq_true rfl) ?_
  show wp L xs (d + 4) 75 0 [some (.ref 87), some (.ref a), some (.int (nI fr)), some (.int (nI to)), some (.ref b), none, none, none] [] s _
  refine wg_aload_n (d75_0 L xs) rfl ?_
  refine wg_get (d75_1 L xs) (kd := 1) (cj := 6) (k0 := 2) rfl (Or.inl rfl) (by decide) rfl rfl ?_
  refine wg_invv (d75_4 L xs) (kd := 7) (mj := 18) (n := 0) rfl (Or.inl rfl) (ys := []) (r := []) rfl rfl (by decide) rfl rfl (Nat.le_of_ble_eq_true rfl) (ts_clear isT_all.2.2.1) ?_
  rintro _ s1 ⟨rfl, e1⟩
  refine wg_iload_n (d75_7 L xs) rfl ?_
  refine wg_istore (d75_8 L xs) (ls' := [some (.ref 87), some (.ref a), some (.int (nI fr)), some (.int (nI to)), some (.ref b), some (.int (nI fr)), none, none]) (Nat.le_of_ble_eq_true rfl) rfl ?_
  exact wp_mono (ck_exp_l Ha ha Hb hb hto (to - fr) fr none none [] s1 (by omega) hf9 hT (e1.other ha hl) (e1.other hb hd) (e1.other (by decide) hi) (e1.other (by decide) hf) (by rw [e1.r]; exact hv0) e1.has) (fun v s' h => ⟨h.1, by have h9 := e1.trans h.2; rw [List.nil_append] at h9; exact h9⟩)
end XP
