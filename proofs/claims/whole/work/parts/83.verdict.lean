/-! the class: the verdict -/
theorem d86_46 (L : Nat) (xs : Nat → Int32) : decode (ax_code (mgT L xs) 86) 46 = .ok (.aload_n 0, 1) := by
  show decode prog_1_method_10_code 46 = _
  decide +kernel
theorem d86_47 (L : Nat) (xs : Nat → Int32) : decode (ax_code (mgT L xs) 86) 47 = .ok (.getfield 39, 3) := by
  show decode prog_1_method_10_code 47 = _
  decide +kernel
theorem d86_50 (L : Nat) (xs : Nat → Int32) : decode (ax_code (mgT L xs) 86) 50 = .ok (.aload_n 0, 1) := by
  show decode prog_1_method_10_code 50 = _
  decide +kernel
theorem d86_51 (L : Nat) (xs : Nat → Int32) : decode (ax_code (mgT L xs) 86) 51 = .ok (.getfield 14, 3) := by
  show decode prog_1_method_10_code 51 = _
  decide +kernel
theorem d86_54 (L : Nat) (xs : Nat → Int32) : decode (ax_code (mgT L xs) 86) 54 = .ok (.iload_n 1, 1) := by
  show decode prog_1_method_10_code 54 = _
  decide +kernel
theorem d86_55 (L : Nat) (xs : Nat → Int32) : decode (ax_code (mgT L xs) 86) 55 = .ok (.invokevirtual 118, 3) := by
  show decode prog_1_method_10_code 55 = _
  decide +kernel
theorem d86_58 (L : Nat) (xs : Nat → Int32) : decode (ax_code (mgT L xs) 86) 58 = .ok (.istore_n 2, 1) := by
  show decode prog_1_method_10_code 58 = _
  decide +kernel
theorem d86_59 (L : Nat) (xs : Nat → Int32) : decode (ax_code (mgT L xs) 86) 59 = .ok (.aload_n 0, 1) := by
  show decode prog_1_method_10_code 59 = _
  decide +kernel
theorem d86_60 (L : Nat) (xs : Nat → Int32) : decode (ax_code (mgT L xs) 86) 60 = .ok (.getfield 14, 3) := by
  show decode prog_1_method_10_code 60 = _
  decide +kernel
theorem d86_63 (L : Nat) (xs : Nat → Int32) : decode (ax_code (mgT L xs) 86) 63 = .ok (.invokevirtual 55, 3) := by
  show decode prog_1_method_10_code 63 = _
  decide +kernel
theorem d86_66 (L : Nat) (xs : Nat → Int32) : decode (ax_code (mgT L xs) 86) 66 = .ok (.iload_n 2, 1) := by
  show decode prog_1_method_10_code 66 = _
  decide +kernel
theorem d86_67 (L : Nat) (xs : Nat → Int32) : decode (ax_code (mgT L xs) 86) 67 = .ok (.ireturn, 1) := by
  show decode prog_1_method_10_code 67 = _
  decide +kernel
theorem d87_0 (L : Nat) (xs : Nat → Int32) : decode (ax_code (mgT L xs) 87) 0 = .ok (.aload_n 0, 1) := by
  show decode prog_3_method_2_code 0 = _
  decide +kernel
theorem d87_1 (L : Nat) (xs : Nat → Int32) : decode (ax_code (mgT L xs) 87) 1 = .ok (.getfield 27, 3) := by
  show decode prog_3_method_2_code 1 = _
  decide +kernel
theorem d87_4 (L : Nat) (xs : Nat → Int32) : decode (ax_code (mgT L xs) 87) 4 = .ok (.aload_n 1, 1) := by
  show decode prog_3_method_2_code 4 = _
  decide +kernel
theorem d87_5 (L : Nat) (xs : Nat → Int32) : decode (ax_code (mgT L xs) 87) 5 = .ok (.invokevirtual 35, 3) := by
  show decode prog_3_method_2_code 5 = _
  decide +kernel
theorem d87_8 (L : Nat) (xs : Nat → Int32) : decode (ax_code (mgT L xs) 87) 8 = .ok (.istore_n 3, 1) := by
  show decode prog_3_method_2_code 8 = _
  decide +kernel
theorem d87_9 (L : Nat) (xs : Nat → Int32) : decode (ax_code (mgT L xs) 87) 9 = .ok (.iconst 0, 1) := by
  show decode prog_3_method_2_code 9 = _
  decide +kernel
theorem d87_10 (L : Nat) (xs : Nat → Int32) : decode (ax_code (mgT L xs) 87) 10 = .ok (.istore 4, 2) := by
  show decode prog_3_method_2_code 10 = _
  decide +kernel
theorem d87_12 (L : Nat) (xs : Nat → Int32) : decode (ax_code (mgT L xs) 87) 12 = .ok (.aload_n 0, 1) := by
  show decode prog_3_method_2_code 12 = _
  decide +kernel
theorem d87_13 (L : Nat) (xs : Nat → Int32) : decode (ax_code (mgT L xs) 87) 13 = .ok (.aload_n 1, 1) := by
  show decode prog_3_method_2_code 13 = _
  decide +kernel
theorem d87_14 (L : Nat) (xs : Nat → Int32) : decode (ax_code (mgT L xs) 87) 14 = .ok (.iconst 0, 1) := by
  show decode prog_3_method_2_code 14 = _
  decide +kernel
theorem d87_15 (L : Nat) (xs : Nat → Int32) : decode (ax_code (mgT L xs) 87) 15 = .ok (.invokevirtual 41, 3) := by
  show decode prog_3_method_2_code 15 = _
  decide +kernel
theorem d87_18 (L : Nat) (xs : Nat → Int32) : decode (ax_code (mgT L xs) 87) 18 = .ok (.istore 5, 2) := by
  show decode prog_3_method_2_code 18 = _
  decide +kernel
theorem d87_20 (L : Nat) (xs : Nat → Int32) : decode (ax_code (mgT L xs) 87) 20 = .ok (.iload 5, 2) := by
  show decode prog_3_method_2_code 20 = _
  decide +kernel
theorem d87_22 (L : Nat) (xs : Nat → Int32) : decode (ax_code (mgT L xs) 87) 22 = .ok (.ifCond .ne 18, 3) := by
  show decode prog_3_method_2_code 22 = _
  decide +kernel
theorem d87_25 (L : Nat) (xs : Nat → Int32) : decode (ax_code (mgT L xs) 87) 25 = .ok (.iload_n 3, 1) := by
  show decode prog_3_method_2_code 25 = _
  decide +kernel
theorem d87_26 (L : Nat) (xs : Nat → Int32) : decode (ax_code (mgT L xs) 87) 26 = .ok (.ifCond .le 14, 3) := by
  show decode prog_3_method_2_code 26 = _
  decide +kernel
theorem d87_29 (L : Nat) (xs : Nat → Int32) : decode (ax_code (mgT L xs) 87) 29 = .ok (.iconst 1, 1) := by
  show decode prog_3_method_2_code 29 = _
  decide +kernel
theorem d87_30 (L : Nat) (xs : Nat → Int32) : decode (ax_code (mgT L xs) 87) 30 = .ok (.istore 4, 2) := by
  show decode prog_3_method_2_code 30 = _
  decide +kernel
theorem d87_32 (L : Nat) (xs : Nat → Int32) : decode (ax_code (mgT L xs) 87) 32 = .ok (.aload_n 0, 1) := by
  show decode prog_3_method_2_code 32 = _
  decide +kernel
theorem d87_33 (L : Nat) (xs : Nat → Int32) : decode (ax_code (mgT L xs) 87) 33 = .ok (.aload_n 1, 1) := by
  show decode prog_3_method_2_code 33 = _
  decide +kernel
theorem d87_34 (L : Nat) (xs : Nat → Int32) : decode (ax_code (mgT L xs) 87) 34 = .ok (.iload_n 3, 1) := by
  show decode prog_3_method_2_code 34 = _
  decide +kernel
theorem d87_35 (L : Nat) (xs : Nat → Int32) : decode (ax_code (mgT L xs) 87) 35 = .ok (.invokevirtual 41, 3) := by
  show decode prog_3_method_2_code 35 = _
  decide +kernel
theorem d87_38 (L : Nat) (xs : Nat → Int32) : decode (ax_code (mgT L xs) 87) 38 = .ok (.istore 5, 2) := by
  show decode prog_3_method_2_code 38 = _
  decide +kernel
theorem d87_40 (L : Nat) (xs : Nat → Int32) : decode (ax_code (mgT L xs) 87) 40 = .ok (.iload 5, 2) := by
  show decode prog_3_method_2_code 40 = _
  decide +kernel
theorem d87_42 (L : Nat) (xs : Nat → Int32) : decode (ax_code (mgT L xs) 87) 42 = .ok (.iconst 5, 1) := by
  show decode prog_3_method_2_code 42 = _
  decide +kernel
theorem d87_43 (L : Nat) (xs : Nat → Int32) : decode (ax_code (mgT L xs) 87) 43 = .ok (.if_icmp .ne 5, 3) := by
  show decode prog_3_method_2_code 43 = _
  decide +kernel
theorem d87_46 (L : Nat) (xs : Nat → Int32) : decode (ax_code (mgT L xs) 87) 46 = .ok (.iconst 5, 1) := by
  show decode prog_3_method_2_code 46 = _
  decide +kernel
theorem d87_47 (L : Nat) (xs : Nat → Int32) : decode (ax_code (mgT L xs) 87) 47 = .ok (.ireturn, 1) := by
  show decode prog_3_method_2_code 47 = _
  decide +kernel
theorem d87_48 (L : Nat) (xs : Nat → Int32) : decode (ax_code (mgT L xs) 87) 48 = .ok (.iload 5, 2) := by
  show decode prog_3_method_2_code 48 = _
  decide +kernel
theorem d87_50 (L : Nat) (xs : Nat → Int32) : decode (ax_code (mgT L xs) 87) 50 = .ok (.ifCond .ne 5, 3) := by
  show decode prog_3_method_2_code 50 = _
  decide +kernel
theorem d87_53 (L : Nat) (xs : Nat → Int32) : decode (ax_code (mgT L xs) 87) 53 = .ok (.iconst 0, 1) := by
  show decode prog_3_method_2_code 53 = _
  decide +kernel
theorem d87_54 (L : Nat) (xs : Nat → Int32) : decode (ax_code (mgT L xs) 87) 54 = .ok (.ireturn, 1) := by
  show decode prog_3_method_2_code 54 = _
  decide +kernel
theorem d87_55 (L : Nat) (xs : Nat → Int32) : decode (ax_code (mgT L xs) 87) 55 = .ok (.aload_n 0, 1) := by
  show decode prog_3_method_2_code 55 = _
  decide +kernel
theorem d87_56 (L : Nat) (xs : Nat → Int32) : decode (ax_code (mgT L xs) 87) 56 = .ok (.aload_n 1, 1) := by
  show decode prog_3_method_2_code 56 = _
  decide +kernel
theorem d87_57 (L : Nat) (xs : Nat → Int32) : decode (ax_code (mgT L xs) 87) 57 = .ok (.iload_n 3, 1) := by
  show decode prog_3_method_2_code 57 = _
  decide +kernel
theorem d87_58 (L : Nat) (xs : Nat → Int32) : decode (ax_code (mgT L xs) 87) 58 = .ok (.invokevirtual 45, 3) := by
  show decode prog_3_method_2_code 58 = _
  decide +kernel
theorem d87_61 (L : Nat) (xs : Nat → Int32) : decode (ax_code (mgT L xs) 87) 61 = .ok (.ifCond .eq 5, 3) := by
  show decode prog_3_method_2_code 61 = _
  decide +kernel
theorem d87_64 (L : Nat) (xs : Nat → Int32) : decode (ax_code (mgT L xs) 87) 64 = .ok (.iconst 1, 1) := by
  show decode prog_3_method_2_code 64 = _
  decide +kernel
theorem d87_65 (L : Nat) (xs : Nat → Int32) : decode (ax_code (mgT L xs) 87) 65 = .ok (.ireturn, 1) := by
  show decode prog_3_method_2_code 65 = _
  decide +kernel
theorem d87_66 (L : Nat) (xs : Nat → Int32) : decode (ax_code (mgT L xs) 87) 66 = .ok (.iload 4, 2) := by
  show decode prog_3_method_2_code 66 = _
  decide +kernel
theorem d87_68 (L : Nat) (xs : Nat → Int32) : decode (ax_code (mgT L xs) 87) 68 = .ok (.ifCond .eq 13, 3) := by
  show decode prog_3_method_2_code 68 = _
  decide +kernel
theorem d87_71 (L : Nat) (xs : Nat → Int32) : decode (ax_code (mgT L xs) 87) 71 = .ok (.aload_n 0, 1) := by
  show decode prog_3_method_2_code 71 = _
  decide +kernel
theorem d87_72 (L : Nat) (xs : Nat → Int32) : decode (ax_code (mgT L xs) 87) 72 = .ok (.getfield 12, 3) := by
  show decode prog_3_method_2_code 72 = _
  decide +kernel
theorem d87_75 (L : Nat) (xs : Nat → Int32) : decode (ax_code (mgT L xs) 87) 75 = .ok (.invokevirtual 49, 3) := by
  show decode prog_3_method_2_code 75 = _
  decide +kernel
theorem d87_78 (L : Nat) (xs : Nat → Int32) : decode (ax_code (mgT L xs) 87) 78 = .ok (.goto 10, 3) := by
  show decode prog_3_method_2_code 78 = _
  decide +kernel
theorem d87_81 (L : Nat) (xs : Nat → Int32) : decode (ax_code (mgT L xs) 87) 81 = .ok (.aload_n 0, 1) := by
  show decode prog_3_method_2_code 81 = _
  decide +kernel
theorem d87_82 (L : Nat) (xs : Nat → Int32) : decode (ax_code (mgT L xs) 87) 82 = .ok (.getfield 12, 3) := by
  show decode prog_3_method_2_code 82 = _
  decide +kernel
theorem d87_85 (L : Nat) (xs : Nat → Int32) : decode (ax_code (mgT L xs) 87) 85 = .ok (.invokevirtual 53, 3) := by
  show decode prog_3_method_2_code 85 = _
  decide +kernel
theorem d87_88 (L : Nat) (xs : Nat → Int32) : decode (ax_code (mgT L xs) 87) 88 = .ok (.istore 6, 2) := by
  show decode prog_3_method_2_code 88 = _
  decide +kernel
theorem d87_90 (L : Nat) (xs : Nat → Int32) : decode (ax_code (mgT L xs) 87) 90 = .ok (.iload 6, 2) := by
  show decode prog_3_method_2_code 90 = _
  decide +kernel
theorem d87_92 (L : Nat) (xs : Nat → Int32) : decode (ax_code (mgT L xs) 87) 92 = .ok (.iconst 2, 1) := by
  show decode prog_3_method_2_code 92 = _
  decide +kernel
theorem d87_93 (L : Nat) (xs : Nat → Int32) : decode (ax_code (mgT L xs) 87) 93 = .ok (.if_icmp .le 21, 3) := by
  show decode prog_3_method_2_code 93 = _
  decide +kernel
theorem d87_96 (L : Nat) (xs : Nat → Int32) : decode (ax_code (mgT L xs) 87) 96 = .ok (.iload_n 2, 1) := by
  show decode prog_3_method_2_code 96 = _
  decide +kernel
theorem d87_97 (L : Nat) (xs : Nat → Int32) : decode (ax_code (mgT L xs) 87) 97 = .ok (.aload_n 0, 1) := by
  show decode prog_3_method_2_code 97 = _
  decide +kernel
theorem d87_98 (L : Nat) (xs : Nat → Int32) : decode (ax_code (mgT L xs) 87) 98 = .ok (.getfield 12, 3) := by
  show decode prog_3_method_2_code 98 = _
  decide +kernel
theorem d87_101 (L : Nat) (xs : Nat → Int32) : decode (ax_code (mgT L xs) 87) 101 = .ok (.invokevirtual 56, 3) := by
  show decode prog_3_method_2_code 101 = _
  decide +kernel
theorem d87_104 (L : Nat) (xs : Nat → Int32) : decode (ax_code (mgT L xs) 87) 104 = .ok (.if_icmp .lt 10, 3) := by
  show decode prog_3_method_2_code 104 = _
  decide +kernel
theorem d87_107 (L : Nat) (xs : Nat → Int32) : decode (ax_code (mgT L xs) 87) 107 = .ok (.iload 6, 2) := by
  show decode prog_3_method_2_code 107 = _
  decide +kernel
theorem d87_109 (L : Nat) (xs : Nat → Int32) : decode (ax_code (mgT L xs) 87) 109 = .ok (.iconst 1, 1) := by
  show decode prog_3_method_2_code 109 = _
  decide +kernel
theorem d87_110 (L : Nat) (xs : Nat → Int32) : decode (ax_code (mgT L xs) 87) 110 = .ok (.isub, 1) := by
  show decode prog_3_method_2_code 110 = _
  decide +kernel
theorem d87_111 (L : Nat) (xs : Nat → Int32) : decode (ax_code (mgT L xs) 87) 111 = .ok (.goto 5, 3) := by
  show decode prog_3_method_2_code 111 = _
  decide +kernel
theorem d87_114 (L : Nat) (xs : Nat → Int32) : decode (ax_code (mgT L xs) 87) 114 = .ok (.iload 6, 2) := by
  show decode prog_3_method_2_code 114 = _
  decide +kernel
theorem d87_116 (L : Nat) (xs : Nat → Int32) : decode (ax_code (mgT L xs) 87) 116 = .ok (.ireturn, 1) := by
  show decode prog_3_method_2_code 116 = _
  decide +kernel
theorem d91_0 (L : Nat) (xs : Nat → Int32) : decode (ax_code (mgT L xs) 91) 0 = .ok (.aload_n 0, 1) := by
  show decode prog_3_method_3_code 0 = _
  decide +kernel
theorem d91_1 (L : Nat) (xs : Nat → Int32) : decode (ax_code (mgT L xs) 91) 1 = .ok (.getfield 23, 3) := by
  show decode prog_3_method_3_code 1 = _
  decide +kernel
theorem d91_4 (L : Nat) (xs : Nat → Int32) : decode (ax_code (mgT L xs) 91) 4 = .ok (.invokevirtual 59, 3) := by
  show decode prog_3_method_3_code 4 = _
  decide +kernel
theorem d91_7 (L : Nat) (xs : Nat → Int32) : decode (ax_code (mgT L xs) 91) 7 = .ok (.aload_n 0, 1) := by
  show decode prog_3_method_3_code 7 = _
  decide +kernel
theorem d91_8 (L : Nat) (xs : Nat → Int32) : decode (ax_code (mgT L xs) 91) 8 = .ok (.getfield 23, 3) := by
  show decode prog_3_method_3_code 8 = _
  decide +kernel
theorem d91_11 (L : Nat) (xs : Nat → Int32) : decode (ax_code (mgT L xs) 91) 11 = .ok (.ldc 62, 2) := by
  show decode prog_3_method_3_code 11 = _
  decide +kernel
theorem d91_13 (L : Nat) (xs : Nat → Int32) : decode (ax_code (mgT L xs) 91) 13 = .ok (.invokevirtual 64, 3) := by
  show decode prog_3_method_3_code 13 = _
  decide +kernel
theorem d91_16 (L : Nat) (xs : Nat → Int32) : decode (ax_code (mgT L xs) 91) 16 = .ok (.aload_n 0, 1) := by
  show decode prog_3_method_3_code 16 = _
  decide +kernel
theorem d91_17 (L : Nat) (xs : Nat → Int32) : decode (ax_code (mgT L xs) 91) 17 = .ok (.getfield 23, 3) := by
  show decode prog_3_method_3_code 17 = _
  decide +kernel
theorem d91_20 (L : Nat) (xs : Nat → Int32) : decode (ax_code (mgT L xs) 91) 20 = .ok (.aload_n 1, 1) := by
  show decode prog_3_method_3_code 20 = _
  decide +kernel
theorem d91_21 (L : Nat) (xs : Nat → Int32) : decode (ax_code (mgT L xs) 91) 21 = .ok (.iload_n 2, 1) := by
  show decode prog_3_method_3_code 21 = _
  decide +kernel
theorem d91_22 (L : Nat) (xs : Nat → Int32) : decode (ax_code (mgT L xs) 91) 22 = .ok (.aload_n 1, 1) := by
  show decode prog_3_method_3_code 22 = _
  decide +kernel
theorem d91_23 (L : Nat) (xs : Nat → Int32) : decode (ax_code (mgT L xs) 91) 23 = .ok (.invokevirtual 68, 3) := by
  show decode prog_3_method_3_code 23 = _
  decide +kernel
theorem d91_26 (L : Nat) (xs : Nat → Int32) : decode (ax_code (mgT L xs) 91) 26 = .ok (.invokevirtual 71, 3) := by
  show decode prog_3_method_3_code 26 = _
  decide +kernel
theorem d91_29 (L : Nat) (xs : Nat → Int32) : decode (ax_code (mgT L xs) 91) 29 = .ok (.aload_n 0, 1) := by
  show decode prog_3_method_3_code 29 = _
  decide +kernel
theorem d91_30 (L : Nat) (xs : Nat → Int32) : decode (ax_code (mgT L xs) 91) 30 = .ok (.getfield 27, 3) := by
  show decode prog_3_method_3_code 30 = _
  decide +kernel
theorem d91_33 (L : Nat) (xs : Nat → Int32) : decode (ax_code (mgT L xs) 91) 33 = .ok (.aload_n 0, 1) := by
  show decode prog_3_method_3_code 33 = _
  decide +kernel
theorem d91_34 (L : Nat) (xs : Nat → Int32) : decode (ax_code (mgT L xs) 91) 34 = .ok (.getfield 23, 3) := by
  show decode prog_3_method_3_code 34 = _
  decide +kernel
theorem d91_37 (L : Nat) (xs : Nat → Int32) : decode (ax_code (mgT L xs) 91) 37 = .ok (.iconst 2, 1) := by
  show decode prog_3_method_3_code 37 = _
  decide +kernel
theorem d91_38 (L : Nat) (xs : Nat → Int32) : decode (ax_code (mgT L xs) 91) 38 = .ok (.invokevirtual 75, 3) := by
  show decode prog_3_method_3_code 38 = _
  decide +kernel
theorem d91_41 (L : Nat) (xs : Nat → Int32) : decode (ax_code (mgT L xs) 91) 41 = .ok (.iconst (-1), 1) := by
  show decode prog_3_method_3_code 41 = _
  decide +kernel
theorem d91_42 (L : Nat) (xs : Nat → Int32) : decode (ax_code (mgT L xs) 91) 42 = .ok (.if_icmp .ne 5, 3) := by
  show decode prog_3_method_3_code 42 = _
  decide +kernel
theorem d91_45 (L : Nat) (xs : Nat → Int32) : decode (ax_code (mgT L xs) 91) 45 = .ok (.iconst 5, 1) := by
  show decode prog_3_method_3_code 45 = _
  decide +kernel
theorem d91_46 (L : Nat) (xs : Nat → Int32) : decode (ax_code (mgT L xs) 91) 46 = .ok (.ireturn, 1) := by
  show decode prog_3_method_3_code 46 = _
  decide +kernel
theorem d91_47 (L : Nat) (xs : Nat → Int32) : decode (ax_code (mgT L xs) 91) 47 = .ok (.iconst 0, 1) := by
  show decode prog_3_method_3_code 47 = _
  decide +kernel
theorem d91_48 (L : Nat) (xs : Nat → Int32) : decode (ax_code (mgT L xs) 91) 48 = .ok (.istore_n 3, 1) := by
  show decode prog_3_method_3_code 48 = _
  decide +kernel
theorem d91_49 (L : Nat) (xs : Nat → Int32) : decode (ax_code (mgT L xs) 91) 49 = .ok (.aconst_null, 1) := by
  show decode prog_3_method_3_code 49 = _
  decide +kernel
theorem d91_50 (L : Nat) (xs : Nat → Int32) : decode (ax_code (mgT L xs) 91) 50 = .ok (.astore 4, 2) := by
  show decode prog_3_method_3_code 50 = _
  decide +kernel
theorem d91_52 (L : Nat) (xs : Nat → Int32) : decode (ax_code (mgT L xs) 91) 52 = .ok (.iconst 0, 1) := by
  show decode prog_3_method_3_code 52 = _
  decide +kernel
theorem d91_53 (L : Nat) (xs : Nat → Int32) : decode (ax_code (mgT L xs) 91) 53 = .ok (.istore 5, 2) := by
  show decode prog_3_method_3_code 53 = _
  decide +kernel
theorem d91_55 (L : Nat) (xs : Nat → Int32) : decode (ax_code (mgT L xs) 91) 55 = .ok (.iload 5, 2) := by
  show decode prog_3_method_3_code 55 = _
  decide +kernel
theorem d91_57 (L : Nat) (xs : Nat → Int32) : decode (ax_code (mgT L xs) 91) 57 = .ok (.aload_n 0, 1) := by
  show decode prog_3_method_3_code 57 = _
  decide +kernel
theorem d91_58 (L : Nat) (xs : Nat → Int32) : decode (ax_code (mgT L xs) 91) 58 = .ok (.getfield 27, 3) := by
  show decode prog_3_method_3_code 58 = _
  decide +kernel
theorem d91_61 (L : Nat) (xs : Nat → Int32) : decode (ax_code (mgT L xs) 91) 61 = .ok (.invokevirtual 78, 3) := by
  show decode prog_3_method_3_code 61 = _
  decide +kernel
theorem d91_64 (L : Nat) (xs : Nat → Int32) : decode (ax_code (mgT L xs) 91) 64 = .ok (.if_icmp .ge 60, 3) := by
  show decode prog_3_method_3_code 64 = _
  decide +kernel
theorem d91_67 (L : Nat) (xs : Nat → Int32) : decode (ax_code (mgT L xs) 91) 67 = .ok (.aload_n 0, 1) := by
  show decode prog_3_method_3_code 67 = _
  decide +kernel
theorem d91_68 (L : Nat) (xs : Nat → Int32) : decode (ax_code (mgT L xs) 91) 68 = .ok (.getfield 27, 3) := by
  show decode prog_3_method_3_code 68 = _
  decide +kernel
theorem d91_71 (L : Nat) (xs : Nat → Int32) : decode (ax_code (mgT L xs) 91) 71 = .ok (.iload 5, 2) := by
  show decode prog_3_method_3_code 71 = _
  decide +kernel
theorem d91_73 (L : Nat) (xs : Nat → Int32) : decode (ax_code (mgT L xs) 91) 73 = .ok (.invokevirtual 81, 3) := by
  show decode prog_3_method_3_code 73 = _
  decide +kernel
theorem d91_76 (L : Nat) (xs : Nat → Int32) : decode (ax_code (mgT L xs) 91) 76 = .ok (.astore 6, 2) := by
  show decode prog_3_method_3_code 76 = _
  decide +kernel
theorem d91_78 (L : Nat) (xs : Nat → Int32) : decode (ax_code (mgT L xs) 91) 78 = .ok (.aload 6, 2) := by
  show decode prog_3_method_3_code 78 = _
  decide +kernel
theorem d91_80 (L : Nat) (xs : Nat → Int32) : decode (ax_code (mgT L xs) 91) 80 = .ok (.ifnull 38, 3) := by
  show decode prog_3_method_3_code 80 = _
  decide +kernel
theorem d91_83 (L : Nat) (xs : Nat → Int32) : decode (ax_code (mgT L xs) 91) 83 = .ok (.aload 6, 2) := by
  show decode prog_3_method_3_code 83 = _
  decide +kernel
theorem d91_85 (L : Nat) (xs : Nat → Int32) : decode (ax_code (mgT L xs) 91) 85 = .ok (.iconst 2, 1) := by
  show decode prog_3_method_3_code 85 = _
  decide +kernel
theorem d91_86 (L : Nat) (xs : Nat → Int32) : decode (ax_code (mgT L xs) 91) 86 = .ok (.aload_n 0, 1) := by
  show decode prog_3_method_3_code 86 = _
  decide +kernel
theorem d91_87 (L : Nat) (xs : Nat → Int32) : decode (ax_code (mgT L xs) 91) 87 = .ok (.getfield 23, 3) := by
  show decode prog_3_method_3_code 87 = _
  decide +kernel
theorem d91_90 (L : Nat) (xs : Nat → Int32) : decode (ax_code (mgT L xs) 91) 90 = .ok (.invokevirtual 85, 3) := by
  show decode prog_3_method_3_code 90 = _
  decide +kernel
theorem d91_93 (L : Nat) (xs : Nat → Int32) : decode (ax_code (mgT L xs) 91) 93 = .ok (.ifCond .eq 25, 3) := by
  show decode prog_3_method_3_code 93 = _
  decide +kernel
theorem d91_96 (L : Nat) (xs : Nat → Int32) : decode (ax_code (mgT L xs) 91) 96 = .ok (.aload_n 0, 1) := by
  show decode prog_3_method_3_code 96 = _
  decide +kernel
theorem d91_97 (L : Nat) (xs : Nat → Int32) : decode (ax_code (mgT L xs) 91) 97 = .ok (.getfield 12, 3) := by
  show decode prog_3_method_3_code 97 = _
  decide +kernel
theorem d91_100 (L : Nat) (xs : Nat → Int32) : decode (ax_code (mgT L xs) 91) 100 = .ok (.aload 6, 2) := by
  show decode prog_3_method_3_code 100 = _
  decide +kernel
theorem d91_102 (L : Nat) (xs : Nat → Int32) : decode (ax_code (mgT L xs) 91) 102 = .ok (.getfield 91, 3) := by
  show decode prog_3_method_3_code 102 = _
  decide +kernel
theorem d91_105 (L : Nat) (xs : Nat → Int32) : decode (ax_code (mgT L xs) 91) 105 = .ok (.invokevirtual 94, 3) := by
  show decode prog_3_method_3_code 105 = _
  decide +kernel
theorem d91_108 (L : Nat) (xs : Nat → Int32) : decode (ax_code (mgT L xs) 91) 108 = .ok (.ifCond .eq 10, 3) := by
  show decode prog_3_method_3_code 108 = _
  decide +kernel
theorem d91_111 (L : Nat) (xs : Nat → Int32) : decode (ax_code (mgT L xs) 91) 111 = .ok (.iinc 3 1, 3) := by
  show decode prog_3_method_3_code 111 = _
  decide +kernel
theorem d91_114 (L : Nat) (xs : Nat → Int32) : decode (ax_code (mgT L xs) 91) 114 = .ok (.aload 6, 2) := by
  show decode prog_3_method_3_code 114 = _
  decide +kernel
theorem d91_116 (L : Nat) (xs : Nat → Int32) : decode (ax_code (mgT L xs) 91) 116 = .ok (.astore 4, 2) := by
  show decode prog_3_method_3_code 116 = _
  decide +kernel
theorem d91_118 (L : Nat) (xs : Nat → Int32) : decode (ax_code (mgT L xs) 91) 118 = .ok (.iinc 5 1, 3) := by
  show decode prog_3_method_3_code 118 = _
  decide +kernel
theorem d91_121 (L : Nat) (xs : Nat → Int32) : decode (ax_code (mgT L xs) 91) 121 = .ok (.goto (-66), 3) := by
  show decode prog_3_method_3_code 121 = _
  decide +kernel
theorem d91_124 (L : Nat) (xs : Nat → Int32) : decode (ax_code (mgT L xs) 91) 124 = .ok (.iload_n 3, 1) := by
  show decode prog_3_method_3_code 124 = _
  decide +kernel
theorem d91_125 (L : Nat) (xs : Nat → Int32) : decode (ax_code (mgT L xs) 91) 125 = .ok (.iconst 1, 1) := by
  show decode prog_3_method_3_code 125 = _
  decide +kernel
theorem d91_126 (L : Nat) (xs : Nat → Int32) : decode (ax_code (mgT L xs) 91) 126 = .ok (.if_icmp .ne 27, 3) := by
  show decode prog_3_method_3_code 126 = _
  decide +kernel
theorem d91_129 (L : Nat) (xs : Nat → Int32) : decode (ax_code (mgT L xs) 91) 129 = .ok (.aload 4, 2) := by
  show decode prog_3_method_3_code 129 = _
  decide +kernel
theorem d91_131 (L : Nat) (xs : Nat → Int32) : decode (ax_code (mgT L xs) 91) 131 = .ok (.ifnull 22, 3) := by
  show decode prog_3_method_3_code 131 = _
  decide +kernel
theorem d91_134 (L : Nat) (xs : Nat → Int32) : decode (ax_code (mgT L xs) 91) 134 = .ok (.aload_n 0, 1) := by
  show decode prog_3_method_3_code 134 = _
  decide +kernel
theorem d91_135 (L : Nat) (xs : Nat → Int32) : decode (ax_code (mgT L xs) 91) 135 = .ok (.getfield 12, 3) := by
  show decode prog_3_method_3_code 135 = _
  decide +kernel
theorem d91_138 (L : Nat) (xs : Nat → Int32) : decode (ax_code (mgT L xs) 91) 138 = .ok (.aload 4, 2) := by
  show decode prog_3_method_3_code 138 = _
  decide +kernel
theorem d91_140 (L : Nat) (xs : Nat → Int32) : decode (ax_code (mgT L xs) 91) 140 = .ok (.getfield 91, 3) := by
  show decode prog_3_method_3_code 140 = _
  decide +kernel
theorem d91_143 (L : Nat) (xs : Nat → Int32) : decode (ax_code (mgT L xs) 91) 143 = .ok (.invokevirtual 94, 3) := by
  show decode prog_3_method_3_code 143 = _
  decide +kernel
theorem d91_146 (L : Nat) (xs : Nat → Int32) : decode (ax_code (mgT L xs) 91) 146 = .ok (.ifCond .eq 7, 3) := by
  show decode prog_3_method_3_code 146 = _
  decide +kernel
theorem d91_149 (L : Nat) (xs : Nat → Int32) : decode (ax_code (mgT L xs) 91) 149 = .ok (.iconst 1, 1) := by
  show decode prog_3_method_3_code 149 = _
  decide +kernel
theorem d91_150 (L : Nat) (xs : Nat → Int32) : decode (ax_code (mgT L xs) 91) 150 = .ok (.goto 4, 3) := by
  show decode prog_3_method_3_code 150 = _
  decide +kernel
theorem d91_153 (L : Nat) (xs : Nat → Int32) : decode (ax_code (mgT L xs) 91) 153 = .ok (.iconst 0, 1) := by
  show decode prog_3_method_3_code 153 = _
  decide +kernel
theorem d91_154 (L : Nat) (xs : Nat → Int32) : decode (ax_code (mgT L xs) 91) 154 = .ok (.ireturn, 1) := by
  show decode prog_3_method_3_code 154 = _
  decide +kernel
theorem d99_0 (L : Nat) (xs : Nat → Int32) : decode (ax_code (mgT L xs) 99) 0 = .ok (.aload_n 0, 1) := by
  show decode prog_3_method_4_code 0 = _
  decide +kernel
theorem d99_1 (L : Nat) (xs : Nat → Int32) : decode (ax_code (mgT L xs) 99) 1 = .ok (.getfield 31, 3) := by
  show decode prog_3_method_4_code 1 = _
  decide +kernel
theorem d99_4 (L : Nat) (xs : Nat → Int32) : decode (ax_code (mgT L xs) 99) 4 = .ok (.invokevirtual 98, 3) := by
  show decode prog_3_method_4_code 4 = _
  decide +kernel
theorem d99_7 (L : Nat) (xs : Nat → Int32) : decode (ax_code (mgT L xs) 99) 7 = .ok (.iconst 2, 1) := by
  show decode prog_3_method_4_code 7 = _
  decide +kernel
theorem d99_8 (L : Nat) (xs : Nat → Int32) : decode (ax_code (mgT L xs) 99) 8 = .ok (.if_icmp .eq 5, 3) := by
  show decode prog_3_method_4_code 8 = _
  decide +kernel
theorem d99_11 (L : Nat) (xs : Nat → Int32) : decode (ax_code (mgT L xs) 99) 11 = .ok (.iconst 0, 1) := by
  show decode prog_3_method_4_code 11 = _
  decide +kernel
theorem d99_12 (L : Nat) (xs : Nat → Int32) : decode (ax_code (mgT L xs) 99) 12 = .ok (.ireturn, 1) := by
  show decode prog_3_method_4_code 12 = _
  decide +kernel
theorem d99_13 (L : Nat) (xs : Nat → Int32) : decode (ax_code (mgT L xs) 99) 13 = .ok (.aload_n 0, 1) := by
  show decode prog_3_method_4_code 13 = _
  decide +kernel
theorem d99_14 (L : Nat) (xs : Nat → Int32) : decode (ax_code (mgT L xs) 99) 14 = .ok (.getfield 31, 3) := by
  show decode prog_3_method_4_code 14 = _
  decide +kernel
theorem d99_17 (L : Nat) (xs : Nat → Int32) : decode (ax_code (mgT L xs) 99) 17 = .ok (.invokevirtual 103, 3) := by
  show decode prog_3_method_4_code 17 = _
  decide +kernel
theorem d99_20 (L : Nat) (xs : Nat → Int32) : decode (ax_code (mgT L xs) 99) 20 = .ok (.astore_n 3, 1) := by
  show decode prog_3_method_4_code 20 = _
  decide +kernel
theorem d99_21 (L : Nat) (xs : Nat → Int32) : decode (ax_code (mgT L xs) 99) 21 = .ok (.aload_n 0, 1) := by
  show decode prog_3_method_4_code 21 = _
  decide +kernel
theorem d99_22 (L : Nat) (xs : Nat → Int32) : decode (ax_code (mgT L xs) 99) 22 = .ok (.getfield 12, 3) := by
  show decode prog_3_method_4_code 22 = _
  decide +kernel
theorem d99_25 (L : Nat) (xs : Nat → Int32) : decode (ax_code (mgT L xs) 99) 25 = .ok (.invokevirtual 107, 3) := by
  show decode prog_3_method_4_code 25 = _
  decide +kernel
theorem d99_28 (L : Nat) (xs : Nat → Int32) : decode (ax_code (mgT L xs) 99) 28 = .ok (.ifCond .eq 11, 3) := by
  show decode prog_3_method_4_code 28 = _
  decide +kernel
theorem d99_31 (L : Nat) (xs : Nat → Int32) : decode (ax_code (mgT L xs) 99) 31 = .ok (.aload_n 3, 1) := by
  show decode prog_3_method_4_code 31 = _
  decide +kernel
theorem d99_32 (L : Nat) (xs : Nat → Int32) : decode (ax_code (mgT L xs) 99) 32 = .ok (.iconst 0, 1) := by
  show decode prog_3_method_4_code 32 = _
  decide +kernel
theorem d99_33 (L : Nat) (xs : Nat → Int32) : decode (ax_code (mgT L xs) 99) 33 = .ok (.aload_n 1, 1) := by
  show decode prog_3_method_4_code 33 = _
  decide +kernel
theorem d99_34 (L : Nat) (xs : Nat → Int32) : decode (ax_code (mgT L xs) 99) 34 = .ok (.iconst 0, 1) := by
  show decode prog_3_method_4_code 34 = _
  decide +kernel
theorem d99_35 (L : Nat) (xs : Nat → Int32) : decode (ax_code (mgT L xs) 99) 35 = .ok (.invokevirtual 111, 3) := by
  show decode prog_3_method_4_code 35 = _
  decide +kernel
theorem d99_38 (L : Nat) (xs : Nat → Int32) : decode (ax_code (mgT L xs) 99) 38 = .ok (.ireturn, 1) := by
  show decode prog_3_method_4_code 38 = _
  decide +kernel
theorem d99_39 (L : Nat) (xs : Nat → Int32) : decode (ax_code (mgT L xs) 99) 39 = .ok (.aload_n 3, 1) := by
  show decode prog_3_method_4_code 39 = _
  decide +kernel
theorem d99_40 (L : Nat) (xs : Nat → Int32) : decode (ax_code (mgT L xs) 99) 40 = .ok (.aload_n 0, 1) := by
  show decode prog_3_method_4_code 40 = _
  decide +kernel
theorem d99_41 (L : Nat) (xs : Nat → Int32) : decode (ax_code (mgT L xs) 99) 41 = .ok (.getfield 27, 3) := by
  show decode prog_3_method_4_code 41 = _
  decide +kernel
theorem d99_44 (L : Nat) (xs : Nat → Int32) : decode (ax_code (mgT L xs) 99) 44 = .ok (.aload_n 3, 1) := by
  show decode prog_3_method_4_code 44 = _
  decide +kernel
theorem d99_45 (L : Nat) (xs : Nat → Int32) : decode (ax_code (mgT L xs) 99) 45 = .ok (.invokevirtual 35, 3) := by
  show decode prog_3_method_4_code 45 = _
  decide +kernel
theorem d99_48 (L : Nat) (xs : Nat → Int32) : decode (ax_code (mgT L xs) 99) 48 = .ok (.aload_n 1, 1) := by
  show decode prog_3_method_4_code 48 = _
  decide +kernel
theorem d99_49 (L : Nat) (xs : Nat → Int32) : decode (ax_code (mgT L xs) 99) 49 = .ok (.iload_n 2, 1) := by
  show decode prog_3_method_4_code 49 = _
  decide +kernel
theorem d99_50 (L : Nat) (xs : Nat → Int32) : decode (ax_code (mgT L xs) 99) 50 = .ok (.invokevirtual 111, 3) := by
  show decode prog_3_method_4_code 50 = _
  decide +kernel
theorem d99_53 (L : Nat) (xs : Nat → Int32) : decode (ax_code (mgT L xs) 99) 53 = .ok (.ireturn, 1) := by
  show decode prog_3_method_4_code 53 = _
  decide +kernel
theorem d100_0 (L : Nat) (xs : Nat → Int32) : decode (ax_code (mgT L xs) 100) 0 = .ok (.aload_n 0, 1) := by
  show decode prog_5_method_4_code 0 = _
  decide +kernel
theorem d100_1 (L : Nat) (xs : Nat → Int32) : decode (ax_code (mgT L xs) 100) 1 = .ok (.getfield 18, 3) := by
  show decode prog_5_method_4_code 1 = _
  decide +kernel
theorem d100_4 (L : Nat) (xs : Nat → Int32) : decode (ax_code (mgT L xs) 100) 4 = .ok (.iconst 1, 1) := by
  show decode prog_5_method_4_code 4 = _
  decide +kernel
theorem d100_5 (L : Nat) (xs : Nat → Int32) : decode (ax_code (mgT L xs) 100) 5 = .ok (.if_icmp .ne 7, 3) := by
  show decode prog_5_method_4_code 5 = _
  decide +kernel
theorem d100_8 (L : Nat) (xs : Nat → Int32) : decode (ax_code (mgT L xs) 100) 8 = .ok (.iconst 1, 1) := by
  show decode prog_5_method_4_code 8 = _
  decide +kernel
theorem d100_9 (L : Nat) (xs : Nat → Int32) : decode (ax_code (mgT L xs) 100) 9 = .ok (.goto 4, 3) := by
  show decode prog_5_method_4_code 9 = _
  decide +kernel
theorem d100_12 (L : Nat) (xs : Nat → Int32) : decode (ax_code (mgT L xs) 100) 12 = .ok (.iconst 0, 1) := by
  show decode prog_5_method_4_code 12 = _
  decide +kernel
theorem d100_13 (L : Nat) (xs : Nat → Int32) : decode (ax_code (mgT L xs) 100) 13 = .ok (.ireturn, 1) := by
  show decode prog_5_method_4_code 13 = _
  decide +kernel
theorem d101_0 (L : Nat) (xs : Nat → Int32) : decode (ax_code (mgT L xs) 101) 0 = .ok (.aload_n 0, 1) := by
  show decode prog_5_method_3_code 0 = _
  decide +kernel
theorem d101_1 (L : Nat) (xs : Nat → Int32) : decode (ax_code (mgT L xs) 101) 1 = .ok (.getfield 15, 3) := by
  show decode prog_5_method_3_code 1 = _
  decide +kernel
theorem d101_4 (L : Nat) (xs : Nat → Int32) : decode (ax_code (mgT L xs) 101) 4 = .ok (.iconst (-1), 1) := by
  show decode prog_5_method_3_code 4 = _
  decide +kernel
theorem d101_5 (L : Nat) (xs : Nat → Int32) : decode (ax_code (mgT L xs) 101) 5 = .ok (.if_icmp .ne 10, 3) := by
  show decode prog_5_method_3_code 5 = _
  decide +kernel
theorem d101_8 (L : Nat) (xs : Nat → Int32) : decode (ax_code (mgT L xs) 101) 8 = .ok (.aload_n 0, 1) := by
  show decode prog_5_method_3_code 8 = _
  decide +kernel
theorem d101_9 (L : Nat) (xs : Nat → Int32) : decode (ax_code (mgT L xs) 101) 9 = .ok (.getfield 9, 3) := by
  show decode prog_5_method_3_code 9 = _
  decide +kernel
theorem d101_12 (L : Nat) (xs : Nat → Int32) : decode (ax_code (mgT L xs) 101) 12 = .ok (.goto 7, 3) := by
  show decode prog_5_method_3_code 12 = _
  decide +kernel
theorem d101_15 (L : Nat) (xs : Nat → Int32) : decode (ax_code (mgT L xs) 101) 15 = .ok (.aload_n 0, 1) := by
  show decode prog_5_method_3_code 15 = _
  decide +kernel
theorem d101_16 (L : Nat) (xs : Nat → Int32) : decode (ax_code (mgT L xs) 101) 16 = .ok (.getfield 15, 3) := by
  show decode prog_5_method_3_code 16 = _
  decide +kernel
theorem d101_19 (L : Nat) (xs : Nat → Int32) : decode (ax_code (mgT L xs) 101) 19 = .ok (.ireturn, 1) := by
  show decode prog_5_method_3_code 19 = _
  decide +kernel
theorem d102_0 (L : Nat) (xs : Nat → Int32) : decode (ax_code (mgT L xs) 102) 0 = .ok (.aload_n 0, 1) := by
  show decode prog_5_method_2_code 0 = _
  decide +kernel
theorem d102_1 (L : Nat) (xs : Nat → Int32) : decode (ax_code (mgT L xs) 102) 1 = .ok (.getfield 9, 3) := by
  show decode prog_5_method_2_code 1 = _
  decide +kernel
theorem d102_4 (L : Nat) (xs : Nat → Int32) : decode (ax_code (mgT L xs) 102) 4 = .ok (.ireturn, 1) := by
  show decode prog_5_method_2_code 4 = _
  decide +kernel
theorem d103_0 (L : Nat) (xs : Nat → Int32) : decode (ax_code (mgT L xs) 103) 0 = .ok (.aload_n 0, 1) := by
  show decode prog_5_method_5_code 0 = _
  decide +kernel
theorem d103_1 (L : Nat) (xs : Nat → Int32) : decode (ax_code (mgT L xs) 103) 1 = .ok (.getfield 21, 3) := by
  show decode prog_5_method_5_code 1 = _
  decide +kernel
theorem d103_4 (L : Nat) (xs : Nat → Int32) : decode (ax_code (mgT L xs) 103) 4 = .ok (.iconst (-1), 1) := by
  show decode prog_5_method_5_code 4 = _
  decide +kernel
theorem d103_5 (L : Nat) (xs : Nat → Int32) : decode (ax_code (mgT L xs) 103) 5 = .ok (.if_icmp .ne 8, 3) := by
  show decode prog_5_method_5_code 5 = _
  decide +kernel
theorem d103_8 (L : Nat) (xs : Nat → Int32) : decode (ax_code (mgT L xs) 103) 8 = .ok (.bipush 100, 2) := by
  show decode prog_5_method_5_code 8 = _
  decide +kernel
theorem d103_10 (L : Nat) (xs : Nat → Int32) : decode (ax_code (mgT L xs) 103) 10 = .ok (.goto 7, 3) := by
  show decode prog_5_method_5_code 10 = _
  decide +kernel
theorem d103_13 (L : Nat) (xs : Nat → Int32) : decode (ax_code (mgT L xs) 103) 13 = .ok (.aload_n 0, 1) := by
  show decode prog_5_method_5_code 13 = _
  decide +kernel
theorem d103_14 (L : Nat) (xs : Nat → Int32) : decode (ax_code (mgT L xs) 103) 14 = .ok (.getfield 21, 3) := by
  show decode prog_5_method_5_code 14 = _
  decide +kernel
theorem d103_17 (L : Nat) (xs : Nat → Int32) : decode (ax_code (mgT L xs) 103) 17 = .ok (.ireturn, 1) := by
  show decode prog_5_method_5_code 17 = _
  decide +kernel
def f_pls (nm : List Nat) (R : List rowT) : List rowT := R.filter (fun q => (decide (q.1 = 2) && decide (q.2.1 = nm)) && (t_pol q.2.2.1).1)
def x_fp (R : List rowT) (nm : List Nat) : Nat × plT := match f_ask nm 2 R 0 with
  | none => (5, (0, 0, 0, 0))
  | some _ => match f_pls nm R with
    | [q] => (1, (t_pol q.2.2.1).2)
    | _ => (0, (0, 0, 0, 0))
def x_nmp (l : List Nat) (st : Nat) : List Nat := w_dmd ++ seg l st l.length
def x_al (R : List rowT) (fst : List Nat) (r : Int32) (l : List Nat) (org : Nat) (P : plT) : Bool := decide (r = 2) && (if P.2.2.1 = 1 then decide (fst = l) else t_same (gl fst) (x_org R fst) fst.length (gl l) org l.length)
def x_ac (bl : Bool) (P : plT) : Int32 := if bl = true then (if P.2.1 = -1 then P.1 else P.2.1) else P.1
def x_pc (P : plT) : Int32 := if P.2.2.2 = -1 then 100 else P.2.2.2
def x_vq (R : List rowT) (fst : List Nat) (r : Int32) (l : List Nat) (org : Nat) (bl : Bool) (fp : Nat × plT) (c : Nat) : Int32 := if fp.1 = 5 then 5 else if fp.1 = 0 then 0 else if x_al R fst r l org fp.2 = true then 1 else if ¬ x_ac bl fp.2 ≤ 2 ∧ ¬ nI c < x_pc fp.2 then x_ac bl fp.2 - 1 else x_ac bl fp.2
/-- the verdict, and the name asked for last -/
def x_vd (R : List rowT) (fst : List Nat) (r : Int32) (l : List Nat) (c : Nat) : Int32 × List Nat := if (x_fp R (x_nmp l 0)).1 = 0 ∧ 0 < x_org R l then (x_vq R fst r l (x_org R l) true (x_fp R (x_nmp l (x_org R l))) c, x_nmp l (x_org R l)) else (x_vq R fst r l (x_org R l) false (x_fp R (x_nmp l 0)) c, x_nmp l 0)
theorem x_fp_cs (R : List rowT) (nm : List Nat) : (x_fp R nm).1 = 5 ∨ (x_fp R nm).1 = 0 ∨ (x_fp R nm).1 = 1 := by
  unfold x_fp
  split
  · exact Or.inl rfl
  · split
    · exact Or.inr (Or.inr rfl)
    · exact Or.inr (Or.inl rfl)
def plf (s s' : mg_s) (nm : List Nat) : Prop := (∀ a, ¬ a = 5 → ¬ a = 138 → ¬ a = 139 → s'.1 a = s.1 a) ∧ (∀ a, ¬ a = 6 → ¬ a = 140 → s'.2.1 a = s.2.1 a) ∧ s'.2.2 = s.2.2 ∧ hold s' 5 nm
theorem plf.tab {s s' : mg_s} {nm : List Nat} {p : Nat → Nat} {R : List rowT} (h : plf s s' nm) (T : isTab s p R) : isTab s' p R := isTab_of T (h.1 3 (by decide) (by decide) (by decide)) (fun a h1 h2 => ⟨h.1 a (by omega) (by omega) (by omega), h.2.1 a (by omega) (by omega)⟩) (by rw [h.2.2.1])
theorem plf.hold {s s' : mg_s} {nm m : List Nat} {a : Nat} (h : plf s s' nm) (hm : hold s a m) (h5 : ¬ a = 5) (h8 : ¬ a = 138) (h9 : ¬ a = 139) : hold s' a m := hold_of hm (h.1 a h5 h8 h9) (h.2.1 (a + 1) (by omega) (by omega))
theorem plf.trans {s s1 s2 : mg_s} {nm nm' : List Nat} (h : plf s s1 nm) (k : plf s1 s2 nm') : plf s s2 nm' := ⟨fun a h1 h2 h3 => (k.1 a h1 h2 h3).trans (h.1 a h1 h2 h3), fun a h1 h2 => (k.2.1 a h1 h2).trans (h.2.1 a h1 h2), k.2.2.1.trans h.2.2.1, k.2.2.2⟩
section VD
variable {L : Nat} {xs : Nat → Int32} {d a b : Nat} {p : Nat → Nat} {R : List rowT} {l nm fst : List Nat}
theorem tab_M {s : mg_s} {f : Nat → Int32} (T : isTab s p R) : isTab (mg_M s 138 f) p R := isTab_of T (mg_M_oth (by decide)) (fun a h1 h2 => ⟨mg_M_oth (by omega), rfl⟩) rfl
theorem fp_l2 {Q : Option Value → mg_s → Prop} {s : mg_s} {st : Nat} (T : isTab s p R) (hn : hold s 139 nm) (k2 : ∀ f, Q (some (.int 0)) (mg_M s 138 f)) : ∀ (Rs : List rowT) (k n j : Nat) (f : Nat → Int32) (c6 : Option Value), R.drop k = Rs → k ≤ R.length → 1 ≤ n → n ≤ k → (n = 1 → f_pls nm Rs = [] → ∀ f c5 c6, wp L xs (d + 6) 91 124 [some (.ref 137), some (.ref 1), some (.int (nI st)), some (.int 1), some (.ref (p j)), c5, c6] [] (mg_M s 138 f) Q) → wp L xs (d + 6) 91 55 [some (.ref 137), some (.ref 1), some (.int (nI st)), some (.int (nI n)), some (.ref (p j)), some (.int (nI k)), c6] [] (mg_M s 138 f) Q := by
  intro Rs
  induction Rs with
  | nil =>
    intro k n j f c6 hk hkl hn1 hnk k1
    have hR16 := T.2.1
    have hkl2 : R.length ≤ k := List.drop_eq_nil_iff.mp hk
    refine wg_iload (d91_55 L xs) rfl ?_
    refine wg_aload_n (d91_57 L xs) rfl ?_
    refine wg_get (d91_58 L xs) (kd := 1) (cj := 8) (k0 := 0) rfl (Or.inl rfl) (by decide) rfl rfl ?_
    refine wg_invv (d91_61 L xs) (kd := 7) (mj := 33) (n := 0) rfl (Or.inl rfl) (ys := []) (r := [.int (nI k)]) rfl rfl (by decide) rfl rfl (Nat.le_of_ble_eq_true rfl) tb_count ?_
    rintro _ _ ⟨rfl, rfl⟩
    refine wg_top (y := nI R.length) (tab_M T).1 ?_
    refine wn_icmp_ge (d91_64 L xs) (x := k) (y := R.length) (by omega) (by omega) (t := 124) (by decide) (fun h1 => ?_) (fun h1 => by omega)
    by_cases h1 : n = 1
    · subst h1; exact k1 rfl rfl f _ _
    · skip
      refine wg_iload_n (d91_124 L xs) rfl ?_
      refine wg_iconst (d91_125 L xs) (x := 1) (by decide) ?_
      refine wn_icmp_ne (d91_126 L xs) (x := n) (y := 1) (by omega) (by omega) (t := 153) (by decide) (fun h1 => ?_) (fun h1 => by omega)
      refine wg_iconst (d91_153 L xs) (x := 0) (by decide) ?_
      exact wg_iret (d91_154 L xs) rfl rfl (k2 f)
  | cons q Rs ih =>
    intro k n j f c6 hk hkl hn1 hnk k1
    have hR16 := T.2.1
    obtain ⟨hk1, hk2, hk3⟩ := drop_cons hk
    have hq := (tab_M (f := f) T).2.2.2.2 k q hk1
    have hpk := rw_lt (T.2.2.1 k (by omega)).2
    have hb1 := bI_lt (decide (q.1 = 2) && decide (q.2.1 = nm))
    have hb2 := bI_lt (t_pol q.2.2.1).1
    have hcons : f_pls nm (q :: Rs) = if ((decide (q.1 = 2) && decide (q.2.1 = nm)) && (t_pol q.2.2.1).1) = true then q :: f_pls nm Rs else f_pls nm Rs := List.filter_cons
    refine wg_iload (d91_55 L xs) rfl ?_
    refine wg_aload_n (d91_57 L xs) rfl ?_
    refine wg_get (d91_58 L xs) (kd := 1) (cj := 8) (k0 := 0) rfl (Or.inl rfl) (by decide) rfl rfl ?_
    refine wg_invv (d91_61 L xs) (kd := 7) (mj := 33) (n := 0) rfl (Or.inl rfl) (ys := []) (r := [.int (nI k)]) rfl rfl (by decide) rfl rfl (Nat.le_of_ble_eq_true rfl) tb_count ?_
    rintro _ _ ⟨rfl, rfl⟩
    refine wg_top (y := nI R.length) (tab_M T).1 ?_
    refine wn_icmp_ge (d91_64 L xs) (x := k) (y := R.length) (by omega) (by omega) (t := 124) (by decide) (fun h1 => by omega) (fun h1 => ?_)
    refine wg_aload_n (d91_67 L xs) rfl ?_
    refine wg_get (d91_68 L xs) (kd := 1) (cj := 8) (k0 := 0) rfl (Or.inl rfl) (by decide) rfl rfl ?_
    refine wg_iload (d91_71 L xs) rfl ?_
    refine wg_invv (d91_73 L xs) (kd := 7) (mj := 34) (n := 1) rfl (Or.inl rfl) (ys := [.int (nI k)]) (r := []) rfl rfl (by decide) rfl rfl (Nat.le_of_ble_eq_true rfl) (tb_at (tab_M T) hk2) ?_
    rintro _ _ ⟨rfl, rfl⟩
    refine wg_astore (d91_76 L xs) (ls' := [some (.ref 137), some (.ref 1), some (.int (nI st)), some (.int (nI n)), some (.ref (p j)), some (.int (nI k)), some (.ref (p k))]) (Nat.le_of_ble_eq_true rfl) rfl ?_
    refine wg_aload (d91_78 L xs) rfl ?_
    refine wg_ifnull (d91_80 L xs) ?_
    refine wg_aload (d91_83 L xs) rfl ?_
    refine wg_iconst (d91_85 L xs) (x := 2) (by decide) ?_
    refine wg_aload_n (d91_86 L xs) rfl ?_
    refine wg_get (d91_87 L xs) (kd := 1) (cj := 8) (k0 := 3) rfl (Or.inl rfl) (by decide) rfl rfl ?_
    refine wg_invv (d91_90 L xs) (kd := 7) (mj := 55) (n := 2) rfl (Or.inl rfl) (ys := [.ref 139, .int 2]) (r := []) rfl rfl (T.2.2.1 k (by omega)).2.1 (rw_c (T.2.2.1 k (by omega)).2) rfl (Nat.le_of_ble_eq_true rfl) (rw_is (kd := 2) (T.2.2.1 k (by omega)).2 hq isT_all.2.2.2.2.1 (hold_M hn (by decide)) (by decide)) ?_
    rintro _ _ ⟨rfl, rfl⟩
    refine wn_if_eq (d91_93 L xs) (x := bI (decide (q.1 = 2) && decide (q.2.1 = nm))) (by omega) (t := 118) (by decide) (fun h2 => ?_) (fun h2 => ?_)
    · refine wg_iinc (d91_118 L xs) (y := (nI (k + 1))) (ls' := [some (.ref 137), some (.ref 1), some (.int (nI st)), some (.int (nI n)), some (.ref (p j)), some (.int (nI (k + 1))), some (.ref (p k))]) rfl (nI_add k 1) rfl ?_
      refine wg_goto (d91_121 L xs) (t := 55) (by decide) ?_
      have hno : ¬ ((decide (q.1 = 2) && decide (q.2.1 = nm)) && (t_pol q.2.2.1).1) = true := by first | (rw [bI_f (b := decide (q.1 = 2) && decide (q.2.1 = nm)) (by omega), Bool.false_and]; decide) | (rw [bI_f (b := (t_pol q.2.2.1).1) (by omega), Bool.and_false]; decide)
      rw [if_neg hno] at hcons
      exact ih (k + 1) n j _ _ hk3 (by omega) hn1 (by omega) (by rw [← hcons]; exact k1)
    · refine wg_aload_n (d91_96 L xs) rfl ?_
      refine wg_get (d91_97 L xs) (kd := 1) (cj := 8) (k0 := 2) rfl (Or.inl rfl) (by decide) rfl rfl ?_
      refine wg_aload (d91_100 L xs) rfl ?_
      refine wg_get (d91_102 L xs) (kd := 2) (cj := 2) (k0 := 2) rfl (Or.inr rfl) (T.2.2.1 k (by omega)).2.1 (rw_c (T.2.2.1 k (by omega)).2) rfl ?_
      refine wg_invv (d91_105 L xs) (kd := 7) (mj := 93) (n := 1) rfl (Or.inl rfl) (ys := [.ref (p k + 3)]) (r := []) rfl rfl (by decide) rfl rfl (Nat.le_of_ble_eq_true rfl) (pl_read (rw_d (T.2.2.1 k (by omega)).2) hq.2.2.2.1 (by omega)) ?_
      rintro _ _ ⟨rfl, ⟨f1, rfl⟩, -⟩
      rw [mg_M_M]
      refine wn_if_eq (d91_108 L xs) (x := bI (t_pol q.2.2.1).1) (by omega) (t := 118) (by decide) (fun h3 => ?_) (fun h3 => ?_)
      · refine wg_iinc (d91_118 L xs) (y := (nI (k + 1))) (ls' := [some (.ref 137), some (.ref 1), some (.int (nI st)), some (.int (nI n)), some (.ref (p j)), some (.int (nI (k + 1))), some (.ref (p k))]) rfl (nI_add k 1) rfl ?_
        refine wg_goto (d91_121 L xs) (t := 55) (by decide) ?_
        have hno : ¬ ((decide (q.1 = 2) && decide (q.2.1 = nm)) && (t_pol q.2.2.1).1) = true := by first | (rw [bI_f (b := decide (q.1 = 2) && decide (q.2.1 = nm)) (by omega), Bool.false_and]; decide) | (rw [bI_f (b := (t_pol q.2.2.1).1) (by omega), Bool.and_false]; decide)
        rw [if_neg hno] at hcons
        exact ih (k + 1) n j _ _ hk3 (by omega) hn1 (by omega) (by rw [← hcons]; exact k1)
      · refine wg_iinc (d91_111 L xs) (y := (nI (n + 1))) (ls' := [some (.ref 137), some (.ref 1), some (.int (nI st)), some (.int (nI (n + 1))), some (.ref (p j)), some (.int (nI k)), some (.ref (p k))]) rfl (nI_add n 1) rfl ?_
        refine wg_aload (d91_114 L xs) rfl ?_
        refine wg_astore (d91_116 L xs) (ls' := [some (.ref 137), some (.ref 1), some (.int (nI st)), some (.int (nI (n + 1))), some (.ref (p k)), some (.int (nI k)), some (.ref (p k))]) (Nat.le_of_ble_eq_true rfl) rfl ?_
        refine wg_iinc (d91_118 L xs) (y := (nI (k + 1))) (ls' := [some (.ref 137), some (.ref 1), some (.int (nI st)), some (.int (nI (n + 1))), some (.ref (p k)), some (.int (nI (k + 1))), some (.ref (p k))]) rfl (nI_add k 1) rfl ?_
        refine wg_goto (d91_121 L xs) (t := 55) (by decide) ?_
        exact ih (k + 1) (n + 1) k _ _ hk3 (by omega) (by omega) (by omega) (fun e => absurd e (by omega))
theorem fp_l2' {Q : Option Value → mg_s → Prop} {s : mg_s} {st : Nat} (T : isTab s p R) (hn : hold s 139 nm) : ∀ (Rs : List rowT) (k j : Nat) (f : Nat → Int32) (c6 : Option Value), R.drop k = Rs → k ≤ R.length → f_pls nm Rs = [] → (∀ f c5 c6, wp L xs (d + 6) 91 124 [some (.ref 137), some (.ref 1), some (.int (nI st)), some (.int 1), some (.ref (p j)), c5, c6] [] (mg_M s 138 f) Q) → wp L xs (d + 6) 91 55 [some (.ref 137), some (.ref 1), some (.int (nI st)), some (.int 1), some (.ref (p j)), some (.int (nI k)), c6] [] (mg_M s 138 f) Q := by
  intro Rs
  induction Rs with
  | nil =>
    intro k j f c6 hk hkl he k1
    have hR16 := T.2.1
    have hkl2 : R.length ≤ k := List.drop_eq_nil_iff.mp hk
    refine wg_iload (d91_55 L xs) rfl ?_
    refine wg_aload_n (d91_57 L xs) rfl ?_
    refine wg_get (d91_58 L xs) (kd := 1) (cj := 8) (k0 := 0) rfl (Or.inl rfl) (by decide) rfl rfl ?_
    refine wg_invv (d91_61 L xs) (kd := 7) (mj := 33) (n := 0) rfl (Or.inl rfl) (ys := []) (r := [.int (nI k)]) rfl rfl (by decide) rfl rfl (Nat.le_of_ble_eq_true rfl) tb_count ?_
    rintro _ _ ⟨rfl, rfl⟩
    refine wg_top (y := nI R.length) (tab_M T).1 ?_
    refine wn_icmp_ge (d91_64 L xs) (x := k) (y := R.length) (by omega) (by omega) (t := 124) (by decide) (fun h1 => ?_) (fun h1 => by omega)
    exact k1 f _ _
  | cons q Rs ih =>
    intro k j f c6 hk hkl he k1
    have hR16 := T.2.1
    obtain ⟨hk1, hk2, hk3⟩ := drop_cons hk
    have hq := (tab_M (f := f) T).2.2.2.2 k q hk1
    have hpk := rw_lt (T.2.2.1 k (by omega)).2
    have hb1 := bI_lt (decide (q.1 = 2) && decide (q.2.1 = nm))
    have hb2 := bI_lt (t_pol q.2.2.1).1
    have hcons : f_pls nm (q :: Rs) = if ((decide (q.1 = 2) && decide (q.2.1 = nm)) && (t_pol q.2.2.1).1) = true then q :: f_pls nm Rs else f_pls nm Rs := List.filter_cons
    refine wg_iload (d91_55 L xs) rfl ?_
    refine wg_aload_n (d91_57 L xs) rfl ?_
    refine wg_get (d91_58 L xs) (kd := 1) (cj := 8) (k0 := 0) rfl (Or.inl rfl) (by decide) rfl rfl ?_
    refine wg_invv (d91_61 L xs) (kd := 7) (mj := 33) (n := 0) rfl (Or.inl rfl) (ys := []) (r := [.int (nI k)]) rfl rfl (by decide) rfl rfl (Nat.le_of_ble_eq_true rfl) tb_count ?_
    rintro _ _ ⟨rfl, rfl⟩
    refine wg_top (y := nI R.length) (tab_M T).1 ?_
    refine wn_icmp_ge (d91_64 L xs) (x := k) (y := R.length) (by omega) (by omega) (t := 124) (by decide) (fun h1 => by omega) (fun h1 => ?_)
    refine wg_aload_n (d91_67 L xs) rfl ?_
    refine wg_get (d91_68 L xs) (kd := 1) (cj := 8) (k0 := 0) rfl (Or.inl rfl) (by decide) rfl rfl ?_
    refine wg_iload (d91_71 L xs) rfl ?_
    refine wg_invv (d91_73 L xs) (kd := 7) (mj := 34) (n := 1) rfl (Or.inl rfl) (ys := [.int (nI k)]) (r := []) rfl rfl (by decide) rfl rfl (Nat.le_of_ble_eq_true rfl) (tb_at (tab_M T) hk2) ?_
    rintro _ _ ⟨rfl, rfl⟩
    refine wg_astore (d91_76 L xs) (ls' := [some (.ref 137), some (.ref 1), some (.int (nI st)), some (.int 1), some (.ref (p j)), some (.int (nI k)), some (.ref (p k))]) (Nat.le_of_ble_eq_true rfl) rfl ?_
    refine wg_aload (d91_78 L xs) rfl ?_
    refine wg_ifnull (d91_80 L xs) ?_
    refine wg_aload (d91_83 L xs) rfl ?_
    refine wg_iconst (d91_85 L xs) (x := 2) (by decide) ?_
    refine wg_aload_n (d91_86 L xs) rfl ?_
    refine wg_get (d91_87 L xs) (kd := 1) (cj := 8) (k0 := 3) rfl (Or.inl rfl) (by decide) rfl rfl ?_
    refine wg_invv (d91_90 L xs) (kd := 7) (mj := 55) (n := 2) rfl (Or.inl rfl) (ys := [.ref 139, .int 2]) (r := []) rfl rfl (T.2.2.1 k (by omega)).2.1 (rw_c (T.2.2.1 k (by omega)).2) rfl (Nat.le_of_ble_eq_true rfl) (rw_is (kd := 2) (T.2.2.1 k (by omega)).2 hq isT_all.2.2.2.2.1 (hold_M hn (by decide)) (by decide)) ?_
    rintro _ _ ⟨rfl, rfl⟩
    refine wn_if_eq (d91_93 L xs) (x := bI (decide (q.1 = 2) && decide (q.2.1 = nm))) (by omega) (t := 118) (by decide) (fun h2 => ?_) (fun h2 => ?_)
    · refine wg_iinc (d91_118 L xs) (y := (nI (k + 1))) (ls' := [some (.ref 137), some (.ref 1), some (.int (nI st)), some (.int 1), some (.ref (p j)), some (.int (nI (k + 1))), some (.ref (p k))]) rfl (nI_add k 1) rfl ?_
      refine wg_goto (d91_121 L xs) (t := 55) (by decide) ?_
      have hno : ¬ ((decide (q.1 = 2) && decide (q.2.1 = nm)) && (t_pol q.2.2.1).1) = true := by first | (rw [bI_f (b := decide (q.1 = 2) && decide (q.2.1 = nm)) (by omega), Bool.false_and]; decide) | (rw [bI_f (b := (t_pol q.2.2.1).1) (by omega), Bool.and_false]; decide)
      rw [if_neg hno] at hcons
      exact ih (k + 1) j _ _ hk3 (by omega) (by rw [← hcons]; exact he) k1
    · refine wg_aload_n (d91_96 L xs) rfl ?_
      refine wg_get (d91_97 L xs) (kd := 1) (cj := 8) (k0 := 2) rfl (Or.inl rfl) (by decide) rfl rfl ?_
      refine wg_aload (d91_100 L xs) rfl ?_
      refine wg_get (d91_102 L xs) (kd := 2) (cj := 2) (k0 := 2) rfl (Or.inr rfl) (T.2.2.1 k (by omega)).2.1 (rw_c (T.2.2.1 k (by omega)).2) rfl ?_
      refine wg_invv (d91_105 L xs) (kd := 7) (mj := 93) (n := 1) rfl (Or.inl rfl) (ys := [.ref (p k + 3)]) (r := []) rfl rfl (by decide) rfl rfl (Nat.le_of_ble_eq_true rfl) (pl_read (rw_d (T.2.2.1 k (by omega)).2) hq.2.2.2.1 (by omega)) ?_
      rintro _ _ ⟨rfl, ⟨f1, rfl⟩, -⟩
      rw [mg_M_M]
      refine wn_if_eq (d91_108 L xs) (x := bI (t_pol q.2.2.1).1) (by omega) (t := 118) (by decide) (fun h3 => ?_) (fun h3 => ?_)
      · refine wg_iinc (d91_118 L xs) (y := (nI (k + 1))) (ls' := [some (.ref 137), some (.ref 1), some (.int (nI st)), some (.int 1), some (.ref (p j)), some (.int (nI (k + 1))), some (.ref (p k))]) rfl (nI_add k 1) rfl ?_
        refine wg_goto (d91_121 L xs) (t := 55) (by decide) ?_
        have hno : ¬ ((decide (q.1 = 2) && decide (q.2.1 = nm)) && (t_pol q.2.2.1).1) = true := by first | (rw [bI_f (b := decide (q.1 = 2) && decide (q.2.1 = nm)) (by omega), Bool.false_and]; decide) | (rw [bI_f (b := (t_pol q.2.2.1).1) (by omega), Bool.and_false]; decide)
        rw [if_neg hno] at hcons
        exact ih (k + 1) j _ _ hk3 (by omega) (by rw [← hcons]; exact he) k1
      · refine wg_iinc (d91_111 L xs) (y := 2) (ls' := [some (.ref 137), some (.ref 1), some (.int (nI st)), some (.int 2), some (.ref (p j)), some (.int (nI k)), some (.ref (p k))]) rfl (by decide) rfl ?_
        refine wg_aload (d91_114 L xs) rfl ?_
        refine wg_astore (d91_116 L xs) (ls' := [some (.ref 137), some (.ref 1), some (.int (nI st)), some (.int 2), some (.ref (p k)), some (.int (nI k)), some (.ref (p k))]) (Nat.le_of_ble_eq_true rfl) rfl ?_
        refine wg_iinc (d91_118 L xs) (y := (nI (k + 1))) (ls' := [some (.ref 137), some (.ref 1), some (.int (nI st)), some (.int 2), some (.ref (p k)), some (.int (nI (k + 1))), some (.ref (p k))]) rfl (nI_add k 1) rfl ?_
        refine wg_goto (d91_121 L xs) (t := 55) (by decide) ?_
        have ht := bI_t (b := (t_pol q.2.2.1).1) (by omega)
        rw [if_pos (by rw [bI_t (b := decide (q.1 = 2) && decide (q.2.1 = nm)) (by omega), ht]; rfl)] at hcons
        rw [hcons] at he; cases he
theorem fp_l1 {Q : Option Value → mg_s → Prop} {s : mg_s} {st : Nat} (T : isTab s p R) (hn : hold s 139 nm) : ∀ (Rs : List rowT) (k : Nat) (f : Nat → Int32) (c6 : Option Value), R.drop k = Rs → k ≤ R.length → ((∀ q, ¬ f_pls nm Rs = [q]) → ∀ f, Q (some (.int 0)) (mg_M s 138 f)) → (∀ j q, R[j]? = some q → (t_pol q.2.2.1).1 = true → f_pls nm Rs = [q] → ∀ f c5 c6, wp L xs (d + 6) 91 124 [some (.ref 137), some (.ref 1), some (.int (nI st)), some (.int 1), some (.ref (p j)), c5, c6] [] (mg_M s 138 f) Q) → wp L xs (d + 6) 91 55 [some (.ref 137), some (.ref 1), some (.int (nI st)), some (.int 0), some (.null), some (.int (nI k)), c6] [] (mg_M s 138 f) Q := by
  intro Rs
  induction Rs with
  | nil =>
    intro k f c6 hk hkl k0 k1
    have hR16 := T.2.1
    have hkl2 : R.length ≤ k := List.drop_eq_nil_iff.mp hk
    refine wg_iload (d91_55 L xs) rfl ?_
    refine wg_aload_n (d91_57 L xs) rfl ?_
    refine wg_get (d91_58 L xs) (kd := 1) (cj := 8) (k0 := 0) rfl (Or.inl rfl) (by decide) rfl rfl ?_
    refine wg_invv (d91_61 L xs) (kd := 7) (mj := 33) (n := 0) rfl (Or.inl rfl) (ys := []) (r := [.int (nI k)]) rfl rfl (by decide) rfl rfl (Nat.le_of_ble_eq_true rfl) tb_count ?_
    rintro _ _ ⟨rfl, rfl⟩
    refine wg_top (y := nI R.length) (tab_M T).1 ?_
    refine wn_icmp_ge (d91_64 L xs) (x := k) (y := R.length) (by omega) (by omega) (t := 124) (by decide) (fun h1 => ?_) (fun h1 => by omega)
    refine wg_iload_n (d91_124 L xs) rfl ?_
    refine wg_iconst (d91_125 L xs) (x := 1) (by decide) ?_
    refine wg_icmp_ne (d91_126 L xs) (t := 153) (by decide) (fun _ => ?_) (fun hn => absurd (by decide) hn)
    refine wg_iconst (d91_153 L xs) (x := 0) (by decide) ?_
    exact wg_iret (d91_154 L xs) rfl rfl (k0 (fun q e => by cases e) f)
  | cons q Rs ih =>
    intro k f c6 hk hkl k0 k1
    have hR16 := T.2.1
    obtain ⟨hk1, hk2, hk3⟩ := drop_cons hk
    have hq := (tab_M (f := f) T).2.2.2.2 k q hk1
    have hpk := rw_lt (T.2.2.1 k (by omega)).2
    have hb1 := bI_lt (decide (q.1 = 2) && decide (q.2.1 = nm))
    have hb2 := bI_lt (t_pol q.2.2.1).1
    have hcons : f_pls nm (q :: Rs) = if ((decide (q.1 = 2) && decide (q.2.1 = nm)) && (t_pol q.2.2.1).1) = true then q :: f_pls nm Rs else f_pls nm Rs := List.filter_cons
    refine wg_iload (d91_55 L xs) rfl ?_
    refine wg_aload_n (d91_57 L xs) rfl ?_
    refine wg_get (d91_58 L xs) (kd := 1) (cj := 8) (k0 := 0) rfl (Or.inl rfl) (by decide) rfl rfl ?_
    refine wg_invv (d91_61 L xs) (kd := 7) (mj := 33) (n := 0) rfl (Or.inl rfl) (ys := []) (r := [.int (nI k)]) rfl rfl (by decide) rfl rfl (Nat.le_of_ble_eq_true rfl) tb_count ?_
    rintro _ _ ⟨rfl, rfl⟩
    refine wg_top (y := nI R.length) (tab_M T).1 ?_
    refine wn_icmp_ge (d91_64 L xs) (x := k) (y := R.length) (by omega) (by omega) (t := 124) (by decide) (fun h1 => by omega) (fun h1 => ?_)
    refine wg_aload_n (d91_67 L xs) rfl ?_
    refine wg_get (d91_68 L xs) (kd := 1) (cj := 8) (k0 := 0) rfl (Or.inl rfl) (by decide) rfl rfl ?_
    refine wg_iload (d91_71 L xs) rfl ?_
    refine wg_invv (d91_73 L xs) (kd := 7) (mj := 34) (n := 1) rfl (Or.inl rfl) (ys := [.int (nI k)]) (r := []) rfl rfl (by decide) rfl rfl (Nat.le_of_ble_eq_true rfl) (tb_at (tab_M T) hk2) ?_
    rintro _ _ ⟨rfl, rfl⟩
    refine wg_astore (d91_76 L xs) (ls' := [some (.ref 137), some (.ref 1), some (.int (nI st)), some (.int 0), some (.null), some (.int (nI k)), some (.ref (p k))]) (Nat.le_of_ble_eq_true rfl) rfl ?_
    refine wg_aload (d91_78 L xs) rfl ?_
    refine wg_ifnull (d91_80 L xs) ?_
    refine wg_aload (d91_83 L xs) rfl ?_
    refine wg_iconst (d91_85 L xs) (x := 2) (by decide) ?_
    refine wg_aload_n (d91_86 L xs) rfl ?_
    refine wg_get (d91_87 L xs) (kd := 1) (cj := 8) (k0 := 3) rfl (Or.inl rfl) (by decide) rfl rfl ?_
    refine wg_invv (d91_90 L xs) (kd := 7) (mj := 55) (n := 2) rfl (Or.inl rfl) (ys := [.ref 139, .int 2]) (r := []) rfl rfl (T.2.2.1 k (by omega)).2.1 (rw_c (T.2.2.1 k (by omega)).2) rfl (Nat.le_of_ble_eq_true rfl) (rw_is (kd := 2) (T.2.2.1 k (by omega)).2 hq isT_all.2.2.2.2.1 (hold_M hn (by decide)) (by decide)) ?_
    rintro _ _ ⟨rfl, rfl⟩
    refine wn_if_eq (d91_93 L xs) (x := bI (decide (q.1 = 2) && decide (q.2.1 = nm))) (by omega) (t := 118) (by decide) (fun h2 => ?_) (fun h2 => ?_)
    · refine wg_iinc (d91_118 L xs) (y := (nI (k + 1))) (ls' := [some (.ref 137), some (.ref 1), some (.int (nI st)), some (.int 0), some (.null), some (.int (nI (k + 1))), some (.ref (p k))]) rfl (nI_add k 1) rfl ?_
      refine wg_goto (d91_121 L xs) (t := 55) (by decide) ?_
      have hno : ¬ ((decide (q.1 = 2) && decide (q.2.1 = nm)) && (t_pol q.2.2.1).1) = true := by first | (rw [bI_f (b := decide (q.1 = 2) && decide (q.2.1 = nm)) (by omega), Bool.false_and]; decide) | (rw [bI_f (b := (t_pol q.2.2.1).1) (by omega), Bool.and_false]; decide)
      rw [if_neg hno] at hcons
      exact ih (k + 1) _ _ hk3 (by omega) (by rw [← hcons]; exact k0) (by rw [← hcons]; exact k1)
    · refine wg_aload_n (d91_96 L xs) rfl ?_
      refine wg_get (d91_97 L xs) (kd := 1) (cj := 8) (k0 := 2) rfl (Or.inl rfl) (by decide) rfl rfl ?_
      refine wg_aload (d91_100 L xs) rfl ?_
      refine wg_get (d91_102 L xs) (kd := 2) (cj := 2) (k0 := 2) rfl (Or.inr rfl) (T.2.2.1 k (by omega)).2.1 (rw_c (T.2.2.1 k (by omega)).2) rfl ?_
      refine wg_invv (d91_105 L xs) (kd := 7) (mj := 93) (n := 1) rfl (Or.inl rfl) (ys := [.ref (p k + 3)]) (r := []) rfl rfl (by decide) rfl rfl (Nat.le_of_ble_eq_true rfl) (pl_read (rw_d (T.2.2.1 k (by omega)).2) hq.2.2.2.1 (by omega)) ?_
      rintro _ _ ⟨rfl, ⟨f1, rfl⟩, -⟩
      rw [mg_M_M]
      refine wn_if_eq (d91_108 L xs) (x := bI (t_pol q.2.2.1).1) (by omega) (t := 118) (by decide) (fun h3 => ?_) (fun h3 => ?_)
      · refine wg_iinc (d91_118 L xs) (y := (nI (k + 1))) (ls' := [some (.ref 137), some (.ref 1), some (.int (nI st)), some (.int 0), some (.null), some (.int (nI (k + 1))), some (.ref (p k))]) rfl (nI_add k 1) rfl ?_
        refine wg_goto (d91_121 L xs) (t := 55) (by decide) ?_
        have hno : ¬ ((decide (q.1 = 2) && decide (q.2.1 = nm)) && (t_pol q.2.2.1).1) = true := by first | (rw [bI_f (b := decide (q.1 = 2) && decide (q.2.1 = nm)) (by omega), Bool.false_and]; decide) | (rw [bI_f (b := (t_pol q.2.2.1).1) (by omega), Bool.and_false]; decide)
        rw [if_neg hno] at hcons
        exact ih (k + 1) _ _ hk3 (by omega) (by rw [← hcons]; exact k0) (by rw [← hcons]; exact k1)
      · refine wg_iinc (d91_111 L xs) (y := 1) (ls' := [some (.ref 137), some (.ref 1), some (.int (nI st)), some (.int 1), some (.null), some (.int (nI k)), some (.ref (p k))]) rfl (by decide) rfl ?_
        refine wg_aload (d91_114 L xs) rfl ?_
        refine wg_astore (d91_116 L xs) (ls' := [some (.ref 137), some (.ref 1), some (.int (nI st)), some (.int 1), some (.ref (p k)), some (.int (nI k)), some (.ref (p k))]) (Nat.le_of_ble_eq_true rfl) rfl ?_
        refine wg_iinc (d91_118 L xs) (y := (nI (k + 1))) (ls' := [some (.ref 137), some (.ref 1), some (.int (nI st)), some (.int 1), some (.ref (p k)), some (.int (nI (k + 1))), some (.ref (p k))]) rfl (nI_add k 1) rfl ?_
        refine wg_goto (d91_121 L xs) (t := 55) (by decide) ?_
        have ht := bI_t (b := (t_pol q.2.2.1).1) (by omega)
        rw [if_pos (by rw [bI_t (b := decide (q.1 = 2) && decide (q.2.1 = nm)) (by omega), ht]; rfl)] at hcons
        by_cases he : f_pls nm Rs = []
        · refine fp_l2' T hn Rs (k + 1) k _ _ hk3 (by omega) he (fun f c5 c6 => k1 k q hk1 ht (by rw [hcons, he]) f c5 c6)
        · exact fp_l2 T hn (k0 (fun q2 e2 => by rw [hcons] at e2; exact he (List.cons.inj e2).2)) Rs (k + 1) 1 k _ _ hk3 (by omega) (Nat.le_refl _) (by omega) (fun _ e => absurd e he)
theorem fp_124 {Q : Option Value → mg_s → Prop} {s : mg_s} {st j : Nat} {q : rowT} {f : Nat → Int32} {c5 c6 : Option Value} (T : isTab s p R) (hj : R[j]? = some q) (ht : (t_pol q.2.2.1).1 = true) (k1 : ∀ f, isPol (mg_M s 138 f) (t_pol q.2.2.1).2 → Q (some (.int 1)) (mg_M s 138 f)) : wp L xs (d + 6) 91 124 [some (.ref 137), some (.ref 1), some (.int (nI st)), some (.int 1), some (.ref (p j)), c5, c6] [] (mg_M s 138 f) Q := by
  have hj16 : j < 16 := Nat.lt_of_lt_of_le (List.getElem?_eq_some_iff.mp hj).1 T.2.1
  have Hj := (T.2.2.1 j hj16).2
  have hjl := rw_lt Hj
  have hq := (tab_M (f := f) T).2.2.2.2 j q hj
  refine wg_iload_n (d91_124 L xs) rfl ?_
  refine wg_iconst (d91_125 L xs) (x := 1) (by decide) ?_
  refine wg_icmp_ne (d91_126 L xs) (t := 153) (by decide) (fun hp => absurd hp (by decide)) (fun _ => ?_)
  refine wg_aload (d91_129 L xs) rfl ?_
  refine wg_ifnull (d91_131 L xs) ?_
  refine wg_aload_n (d91_134 L xs) rfl ?_
  refine wg_get (d91_135 L xs) (kd := 1) (cj := 8) (k0 := 2) rfl (Or.inl rfl) (by decide) rfl rfl ?_
  refine wg_aload (d91_138 L xs) rfl ?_
  refine wg_get (d91_140 L xs) (kd := 2) (cj := 2) (k0 := 2) rfl (Or.inr rfl) Hj.1 (rw_c Hj) rfl ?_
  refine wg_invv (d91_143 L xs) (kd := 7) (mj := 93) (n := 1) rfl (Or.inl rfl) (ys := [.ref (p j + 3)]) (r := []) rfl rfl (by decide) rfl rfl (Nat.le_of_ble_eq_true rfl) (pl_read (rw_d Hj) hq.2.2.2.1 (by omega)) ?_
  rintro _ _ ⟨rfl, ⟨f1, rfl⟩, hP⟩
  rw [mg_M_M] at hP
  rw [mg_M_M]
  rw [ht]
  refine wg_top (y := 1) rfl ?_
  refine wg_if_eq (d91_146 L xs) (t := 153) (by decide) (fun hp => absurd hp (by decide)) (fun _ => ?_)
  refine wg_iconst (d91_149 L xs) (x := 1) (by decide) ?_
  refine wg_goto (d91_150 L xs) (t := 154) (by decide) ?_
  exact wg_iret (d91_154 L xs) rfl rfl (k1 f1 hP)
theorem jd_fp {s : mg_s} {st : Nat} (T : isTab s p R) (hl : hold s 1 l) (h48 : l.length ≤ 48) (hst : st ≤ l.length) : ca L xs (d + 7) 91 [.ref 137, .ref 1, .int (nI st)] s (fun v s' => v = some (.int (nI (x_fp R (x_nmp l st)).1)) ∧ ((x_fp R (x_nmp l st)).1 = 1 → isPol s' (x_fp R (x_nmp l st)).2) ∧ plf s s' (x_nmp l st)) := by
  refine wg_call (Nat.le_of_ble_eq_true rfl) ?_
  have hnl : (x_nmp l st).length ≤ 55 := by
    unfold x_nmp
    rw [List.length_append, seg_len]
    have : w_dmd.length = 7 := rfl
    omega
  have hcap : (w_dmd ++ seg l st l.length).length ≤ tlim 139 := by rw [isT_all.2.2.2.2.2.2.2.2.2]; exact hnl
  show wp L xs (d + 6) 91 0 [some (.ref 137), some (.ref 1), some (.int (nI st)), none, none, none, none] [] s _
  refine wg_aload_n (d91_0 L xs) rfl ?_
  refine wg_get (d91_1 L xs) (kd := 1) (cj := 8) (k0 := 3) rfl (Or.inl rfl) (by decide) rfl rfl ?_
  refine wg_invv (d91_4 L xs) (kd := 7) (mj := 18) (n := 0) rfl (Or.inl rfl) (ys := []) (r := []) rfl rfl (by decide) rfl rfl (Nat.le_of_ble_eq_true rfl) (ts_clear isT_all.2.2.2.2.1) ?_
  rintro _ s1 ⟨rfl, e1⟩
  have hl1 := e1.other (b := 1) (by decide) hl
  refine wg_aload_n (d91_7 L xs) rfl ?_
  refine wg_get (d91_8 L xs) (kd := 1) (cj := 8) (k0 := 3) rfl (Or.inl rfl) (by decide) rfl rfl ?_
  refine wg_ldcs (d91_11 L xs) (k0 := 8) rfl ?_
  refine wg_invv (d91_13 L xs) (kd := 7) (mj := 92) (n := 1) rfl (Or.inl rfl) (ys := [.ref (ax_big + 1 + 8)]) (r := []) rfl rfl (by decide) rfl rfl (Nat.le_of_ble_eq_true rfl) (ts_addW (k0 := 8) (l := []) isT_all.2.2.2.2.1 e1.has rfl (by decide) (by unfold okc; decide) (by decide)) ?_
  rintro _ s2 ⟨rfl, e2⟩
  have e2 : tset s1 139 w_dmd s2 := e2
  have hl2 := e2.other (b := 1) (by decide) hl1
  refine wg_aload_n (d91_16 L xs) rfl ?_
  refine wg_get (d91_17 L xs) (kd := 1) (cj := 8) (k0 := 3) rfl (Or.inl rfl) (by decide) rfl rfl ?_
  refine wg_aload_n (d91_20 L xs) rfl ?_
  refine wg_iload_n (d91_21 L xs) rfl ?_
  refine wg_aload_n (d91_22 L xs) rfl ?_
  refine wg_invv (d91_23 L xs) (kd := 7) (mj := 15) (n := 0) rfl (Or.inl rfl) (ys := []) (r := [.int (nI st), .ref 1, .ref 139]) rfl rfl (by decide) rfl rfl (Nat.le_of_ble_eq_true rfl) (ts_size isT_all.1 hl2) ?_
  rintro _ _ ⟨rfl, rfl⟩
  refine wg_invv (d91_26 L xs) (kd := 7) (mj := 44) (n := 3) rfl (Or.inl rfl) (ys := [.int (nI l.length), .int (nI st), .ref 1]) (r := []) rfl rfl (by decide) rfl rfl (Nat.le_of_ble_eq_true rfl) (ts_addPart (fr := st) (to := l.length) isT_all.2.2.2.2.1 e2.has isT_all.1 hl2 (by decide) (by omega) (by omega)) ?_
  rintro _ s3 ⟨rfl, e3⟩
  rw [List.take_of_length_le hcap] at e3
  have g3 : tset s 139 (x_nmp l st) s3 := (e1.trans e2).trans e3
  have T3 := tset_tab g3 (by decide) (by decide) T
  refine wg_aload_n (d91_29 L xs) rfl ?_
  refine wg_get (d91_30 L xs) (kd := 1) (cj := 8) (k0 := 0) rfl (Or.inl rfl) (by decide) rfl rfl ?_
  refine wg_aload_n (d91_33 L xs) rfl ?_
  refine wg_get (d91_34 L xs) (kd := 1) (cj := 8) (k0 := 3) rfl (Or.inl rfl) (by decide) rfl rfl ?_
  refine wg_iconst (d91_37 L xs) (x := 2) (by decide) ?_
  refine wg_invv (d91_38 L xs) (kd := 7) (mj := 53) (n := 2) rfl (Or.inl rfl) (ys := [.int 2, .ref 139]) (r := []) rfl rfl (by decide) rfl rfl (Nat.le_of_ble_eq_true rfl) (tb_ask (kd := 2) T3 isT_all.2.2.2.2.1 g3.has (by decide) hnl (by decide)) ?_
  rintro _ s4 ⟨rfl, e4⟩
  have T4 := tset_tab e4 (by decide) (by decide) T3
  have hn4 := e4.other (b := 139) (by decide) g3.has
  have F : ∀ f, plf s (mg_M s4 138 f) (x_nmp l st) := fun f => ⟨fun a h1 h2 h3 => by rw [mg_M_oth h2, e4.i h1, g3.i h3], fun a h1 h2 => by show s4.2.1 a = _; rw [e4.a h1, g3.a h2], by show s4.2.2 = _; rw [e4.r, g3.r], hold_M e4.has (by decide)⟩
  cases hq : f_ask (x_nmp l st) 2 R 0 with
  | none =>
    show wp L xs (d + 6) 91 41 [some (.ref 137), some (.ref 1), some (.int (nI st)), none, none, none, none] [.int (-1)] s4 _
    refine wg_iconst (d91_41 L xs) (x := (-1)) (by decide) ?_
    refine wg_icmp_ne (d91_42 L xs) (t := 47) (by decide) (fun hp => absurd hp (by decide)) (fun _ => ?_)
    refine wg_iconst (d91_45 L xs) (x := 5) (by decide) ?_
    exact wg_iret (d91_46 L xs) rfl rfl (by rw [x_fp, hq]; refine ⟨rfl, fun h => absurd h (show ¬ (5 : Nat) = 1 by decide), ?_⟩; have h9 := F (s4.1 138); rw [mg_M_self] at h9; exact h9)
  | some k =>
    have hk := f_ask_lt _ _ _ hq
    have hR16 := T.2.1
    show wp L xs (d + 6) 91 41 [some (.ref 137), some (.ref 1), some (.int (nI st)), none, none, none, none] [.int (nI k)] s4 _
    refine wg_iconst (d91_41 L xs) (x := (-1)) (by decide) ?_
    refine wg_icmp_ne (d91_42 L xs) (t := 47) (by decide) (fun h1 => ?_) (fun h1 => absurd (Classical.not_not.mp h1) (nI_neg1 (by omega)))
    refine wg_iconst (d91_47 L xs) (x := 0) (by decide) ?_
    refine wg_istore_n (d91_48 L xs) (ls' := [some (.ref 137), some (.ref 1), some (.int (nI st)), some (.int 0), none, none, none]) (Nat.le_of_ble_eq_true rfl) rfl ?_
    refine wg_null (d91_49 L xs) ?_
    refine wg_astoreN (d91_50 L xs) (ls' := [some (.ref 137), some (.ref 1), some (.int (nI st)), some (.int 0), some (.null), none, none]) (Nat.le_of_ble_eq_true rfl) rfl ?_
    refine wg_iconst (d91_52 L xs) (x := 0) (by decide) ?_
    refine wg_istore (d91_53 L xs) (ls' := [some (.ref 137), some (.ref 1), some (.int (nI st)), some (.int 0), some (.null), some (.int 0), none]) (Nat.le_of_ble_eq_true rfl) rfl ?_
    rw [← mg_M_self s4 138]
    refine fp_l1 T4 hn4 R 0 _ _ rfl (Nat.zero_le _) (fun h f => ?_) (fun j q hj ht e f c5 c6 => fp_124 T4 hj ht (fun f1 hP => ?_))
    · have hx : x_fp R (x_nmp l st) = (0, (0, 0, 0, 0)) := by
        rw [x_fp, hq]
        revert h
        show (∀ q, ¬ f_pls (x_nmp l st) R = [q]) → (match f_pls (x_nmp l st) R with
          | [q] => (1, (t_pol q.2.2.1).2)
          | _ => (0, (0, 0, 0, 0))) = _
        generalize f_pls (x_nmp l st) R = z
        intro h
        cases z with
        | nil => rfl
        | cons y ys => cases ys with
          | nil => exact absurd rfl (h y)
          | cons w ws => rfl
      rw [hx]
      exact ⟨rfl, fun h => absurd h (show ¬ (0 : Nat) = 1 by decide), F f⟩
    · have hx : x_fp R (x_nmp l st) = (1, (t_pol q.2.2.1).2) := by
        rw [x_fp, hq]
        show (match f_pls (x_nmp l st) R with
          | [q] => (1, (t_pol q.2.2.1).2)
          | _ => (0, (0, 0, 0, 0))) = _
        rw [e]
      rw [hx]
      exact ⟨rfl, fun _ => hP, F f1⟩
theorem pl_str {s : mg_s} {P : plT} (hP : isPol s P) : ca L xs (d + 1) 100 [.ref 138] s (fun v s' => v = some (.int (nI (bI (decide (P.2.2.1 = 1))))) ∧ s = s') := by
  refine wg_call (Nat.le_of_ble_eq_true rfl) ?_
  show wp L xs d 100 0 [some (.ref 138)] [] s _
  refine wg_aload_n (d100_0 L xs) rfl ?_
  refine wg_get (d100_1 L xs) (kd := 1) (cj := 7) (k0 := 2) rfl (Or.inl rfl) (by decide) rfl rfl ?_
  refine wg_top (y := P.2.2.1) hP.2.2.1 ?_
  refine wg_iconst (d100_4 L xs) (x := 1) (by decide) ?_
  refine wg_icmp_ne (d100_5 L xs) (t := 12) (by decide) (fun h1 => ?_) (fun h1 => ?_)
  · refine wg_iconst (d100_12 L xs) (x := 0) (by decide) ?_
    exact wg_iret (d100_13 L xs) rfl rfl ⟨by rw [decide_eq_false (show ¬ P.2.2.1 = 1 by assumption)]; rfl, rfl⟩
  · refine wg_iconst (d100_8 L xs) (x := 1) (by decide) ?_
    refine wg_goto (d100_9 L xs) (t := 13) (by decide) ?_
    exact wg_iret (d100_13 L xs) rfl rfl ⟨by rw [decide_eq_true (show P.2.2.1 = 1 from Classical.not_not.mp (by assumption))]; rfl, rfl⟩
theorem pl_bel {s : mg_s} {P : plT} (hP : isPol s P) : ca L xs (d + 1) 101 [.ref 138] s (fun v s' => v = some (.int (if P.2.1 = -1 then P.1 else P.2.1)) ∧ s = s') := by
  refine wg_call (Nat.le_of_ble_eq_true rfl) ?_
  show wp L xs d 101 0 [some (.ref 138)] [] s _
  refine wg_aload_n (d101_0 L xs) rfl ?_
  refine wg_get (d101_1 L xs) (kd := 1) (cj := 7) (k0 := 1) rfl (Or.inl rfl) (by decide) rfl rfl ?_
  refine wg_top (y := P.2.1) hP.2.1 ?_
  refine wg_iconst (d101_4 L xs) (x := (-1)) (by decide) ?_
  refine wg_icmp_ne (d101_5 L xs) (t := 15) (by decide) (fun h1 => ?_) (fun h1 => ?_)
  · refine wg_aload_n (d101_15 L xs) rfl ?_
    refine wg_get (d101_16 L xs) (kd := 1) (cj := 7) (k0 := 1) rfl (Or.inl rfl) (by decide) rfl rfl ?_
    refine wg_top (y := P.2.1) hP.2.1 ?_
    exact wg_iret (d101_19 L xs) rfl rfl ⟨by rw [if_neg (show ¬ P.2.1 = -1 by assumption)], rfl⟩
  · refine wg_aload_n (d101_8 L xs) rfl ?_
    refine wg_get (d101_9 L xs) (kd := 1) (cj := 7) (k0 := 0) rfl (Or.inl rfl) (by decide) rfl rfl ?_
    refine wg_top (y := P.1) hP.1 ?_
    refine wg_goto (d101_12 L xs) (t := 19) (by decide) ?_
    exact wg_iret (d101_19 L xs) rfl rfl ⟨by rw [if_pos (show P.2.1 = -1 from Classical.not_not.mp (by assumption))], rfl⟩
theorem pl_ac {s : mg_s} {P : plT} (hP : isPol s P) : ca L xs (d + 1) 102 [.ref 138] s (fun v s' => v = some (.int (P.1)) ∧ s = s') := by
  refine wg_call (Nat.le_of_ble_eq_true rfl) ?_
  show wp L xs d 102 0 [some (.ref 138)] [] s _
  refine wg_aload_n (d102_0 L xs) rfl ?_
  refine wg_get (d102_1 L xs) (kd := 1) (cj := 7) (k0 := 0) rfl (Or.inl rfl) (by decide) rfl rfl ?_
  refine wg_top (y := P.1) hP.1 ?_
  exact wg_iret (d102_4 L xs) rfl rfl ⟨rfl, rfl⟩
theorem pl_pc {s : mg_s} {P : plT} (hP : isPol s P) : ca L xs (d + 1) 103 [.ref 138] s (fun v s' => v = some (.int (x_pc P)) ∧ s = s') := by
  refine wg_call (Nat.le_of_ble_eq_true rfl) ?_
  show wp L xs d 103 0 [some (.ref 138)] [] s _
  refine wg_aload_n (d103_0 L xs) rfl ?_
  refine wg_get (d103_1 L xs) (kd := 1) (cj := 7) (k0 := 3) rfl (Or.inl rfl) (by decide) rfl rfl ?_
  refine wg_top (y := P.2.2.2) hP.2.2.2 ?_
  refine wg_iconst (d103_4 L xs) (x := (-1)) (by decide) ?_
  refine wg_icmp_ne (d103_5 L xs) (t := 13) (by decide) (fun h1 => ?_) (fun h1 => ?_)
  · refine wg_aload_n (d103_13 L xs) rfl ?_
    refine wg_get (d103_14 L xs) (kd := 1) (cj := 7) (k0 := 3) rfl (Or.inl rfl) (by decide) rfl rfl ?_
    refine wg_top (y := P.2.2.2) hP.2.2.2 ?_
    exact wg_iret (d103_17 L xs) rfl rfl ⟨by rw [x_pc, if_neg (show ¬ P.2.2.2 = -1 by assumption)], rfl⟩
  · refine wg_bipush (d103_8 L xs) (x := 100) (by decide) ?_
    refine wg_goto (d103_10 L xs) (t := 17) (by decide) ?_
    exact wg_iret (d103_17 L xs) rfl rfl ⟨by rw [x_pc, if_pos (show P.2.2.2 = -1 from Classical.not_not.mp (by assumption))], rfl⟩
theorem jd_al {s : mg_s} {org : Nat} {r : Int32} {P : plT} (T : isTab s p R) (hl : hold s 1 l) (hf : hold s 94 fst) (hr : s.1 87 5 = r) (hP : isPol s P) (hv0 : s.2.2.2.1 0 = some 93) (horg : org ≤ l.length) : ca L xs (d + 4) 99 [.ref 137, .ref 1, .int (nI org)] s (fun v s' => v = some (.int (nI (bI (x_al R fst r l org P)))) ∧ s = s') := by
  refine wg_call (Nat.le_of_ble_eq_true rfl) ?_
  have hb := bI_lt (decide (P.2.2.1 = 1))
  show wp L xs (d + 3) 99 0 [some (.ref 137), some (.ref 1), some (.int (nI org)), none] [] s _
  refine wg_aload_n (d99_0 L xs) rfl ?_
  refine wg_get (d99_1 L xs) (kd := 1) (cj := 8) (k0 := 1) rfl (Or.inl rfl) (by decide) rfl rfl ?_
  refine wg_invv (d99_4 L xs) (kd := 7) (mj := 24) (n := 0) rfl (Or.inl rfl) (ys := []) (r := []) rfl rfl (by decide) rfl rfl (Nat.le_of_ble_eq_true rfl) ck_result ?_
  rintro _ _ ⟨rfl, rfl⟩
  refine wg_top (y := r) hr ?_
  refine wg_iconst (d99_7 L xs) (x := 2) (by decide) ?_
  refine wg_icmp_eq (d99_8 L xs) (t := 13) (by decide) (fun h1 => ?_) (fun h1 => ?_)
  · refine wg_aload_n (d99_13 L xs) rfl ?_
    refine wg_get (d99_14 L xs) (kd := 1) (cj := 8) (k0 := 1) rfl (Or.inl rfl) (by decide) rfl rfl ?_
    refine wg_invv (d99_17 L xs) (kd := 7) (mj := 49) (n := 0) rfl (Or.inl rfl) (ys := []) (r := []) rfl rfl (by decide) rfl rfl (Nat.le_of_ble_eq_true rfl) (ck_first hv0) ?_
    rintro _ _ ⟨rfl, rfl⟩
    refine wg_astore_n (d99_20 L xs) (ls' := [some (.ref 137), some (.ref 1), some (.int (nI org)), some (.ref 94)]) (Nat.le_of_ble_eq_true rfl) rfl ?_
    refine wg_aload_n (d99_21 L xs) rfl ?_
    refine wg_get (d99_22 L xs) (kd := 1) (cj := 8) (k0 := 2) rfl (Or.inl rfl) (by decide) rfl rfl ?_
    refine wg_invv (d99_25 L xs) (kd := 7) (mj := 100) (n := 0) rfl (Or.inl rfl) (ys := []) (r := []) rfl rfl (by decide) rfl rfl (Nat.le_of_ble_eq_true rfl) (pl_str hP) ?_
    rintro _ _ ⟨rfl, rfl⟩
    refine wn_if_eq (d99_28 L xs) (x := bI (decide (P.2.2.1 = 1))) (by omega) (t := 39) (by decide) (fun h2 => ?_) (fun h2 => ?_)
    · refine wg_aload_n (d99_39 L xs) rfl ?_
      refine wg_aload_n (d99_40 L xs) rfl ?_
      refine wg_get (d99_41 L xs) (kd := 1) (cj := 8) (k0 := 0) rfl (Or.inl rfl) (by decide) rfl rfl ?_
      refine wg_aload_n (d99_44 L xs) rfl ?_
      refine wg_invv (d99_45 L xs) (kd := 7) (mj := 88) (n := 1) rfl (Or.inl rfl) (ys := [.ref 94]) (r := [.ref 94]) rfl rfl (by decide) rfl rfl (Nat.le_of_ble_eq_true rfl) (tb_org T (lf_n isL93) hf) ?_
      rintro _ _ ⟨rfl, rfl⟩
      refine wg_aload_n (d99_48 L xs) rfl ?_
      refine wg_iload_n (d99_49 L xs) rfl ?_
      refine wg_invv (d99_50 L xs) (kd := 7) (mj := 54) (n := 3) rfl (Or.inl rfl) (ys := [.int (nI org), .ref 1, .int (nI (x_org R fst))]) (r := []) rfl rfl (by decide) rfl rfl (Nat.le_of_ble_eq_true rfl) (by have h := tx_same (L := L) (xs := xs) (d := d + 2) (fr := x_org R fst) (fr2 := org) (lf_n isL93) hf.1 isT_all.1 hl.1 (x_org_le R fst) horg; rw [hold_at hf, hold_at hl] at h; exact h) ?_
      rintro _ _ ⟨rfl, rfl⟩
      exact wg_iret (d99_53 L xs) rfl (nar_b _) ⟨by rw [x_al, decide_eq_true (show r = 2 by assumption), Bool.true_and, if_neg (of_decide_eq_false (bI_f (b := decide (P.2.2.1 = 1)) (by omega)))], rfl⟩
    · refine wg_aload_n (d99_31 L xs) rfl ?_
      refine wg_iconst (d99_32 L xs) (x := 0) (by decide) ?_
      refine wg_aload_n (d99_33 L xs) rfl ?_
      refine wg_iconst (d99_34 L xs) (x := 0) (by decide) ?_
      refine wg_invv (d99_35 L xs) (kd := 7) (mj := 54) (n := 3) rfl (Or.inl rfl) (ys := [.int 0, .ref 1, .int 0]) (r := []) rfl rfl (by decide) rfl rfl (Nat.le_of_ble_eq_true rfl) (ts_same (lf_n isL93) hf isT_all.1 hl) ?_
      rintro _ _ ⟨rfl, rfl⟩
      exact wg_iret (d99_38 L xs) rfl (nar_b _) ⟨by rw [x_al, decide_eq_true (show r = 2 by assumption), Bool.true_and, if_pos (of_decide_eq_true (bI_t (b := decide (P.2.2.1 = 1)) (by omega)))], rfl⟩
  · refine wg_iconst (d99_11 L xs) (x := 0) (by decide) ?_
    exact wg_iret (d99_12 L xs) rfl rfl ⟨by rw [x_al, decide_eq_false (show ¬ r = 2 by assumption), Bool.false_and]; rfl, rfl⟩
theorem jd_40 {s : mg_s} {org c : Nat} {r : Int32} {bl : Bool} {fp : Nat × plT} (T : isTab s p R) (hl : hold s 1 l) (hf : hold s 94 fst) (hr : s.1 87 5 = r) (hcs : fp.1 = 5 ∨ fp.1 = 0 ∨ fp.1 = 1) (hP : fp.1 = 1 → isPol s fp.2) (hv0 : s.2.2.2.1 0 = some 93) (horg : org ≤ l.length) (h48 : l.length ≤ 48) (hc : c ≤ 99) : wp L xs (d + 7) 87 40 [some (.ref 137), some (.ref 1), some (.int (nI c)), some (.int (nI org)), some (.int (nI (bI bl))), some (.int (nI fp.1)), none] [] s (fun v s' => v = some (.int (x_vq R fst r l org bl fp c)) ∧ s = s') := by
  have hb1 := bI_lt bl
  have hb2 := bI_lt (x_al R fst r l org fp.2)
  refine wg_iload (d87_40 L xs) rfl ?_
  refine wg_iconst (d87_42 L xs) (x := 5) (by decide) ?_
  refine wn_icmp_ne (d87_43 L xs) (x := fp.1) (y := 5) (by omega) (by omega) (t := 48) (by decide) (fun h1 => ?_) (fun h1 => ?_)
  · refine wg_iload (d87_48 L xs) rfl ?_
    refine wn_if_ne (d87_50 L xs) (x := fp.1) (by omega) (t := 55) (by decide) (fun h2 => ?_) (fun h2 => ?_)
    · refine wg_aload_n (d87_55 L xs) rfl ?_
      refine wg_aload_n (d87_56 L xs) rfl ?_
      refine wg_iload_n (d87_57 L xs) rfl ?_
      refine wg_invv (d87_58 L xs) (kd := 7) (mj := 99) (n := 2) rfl (Or.inl rfl) (ys := [.int (nI org), .ref 1]) (r := []) rfl rfl (by decide) rfl rfl (Nat.le_of_ble_eq_true rfl) (jd_al T hl hf hr (hP (by omega)) hv0 horg) ?_
      rintro _ _ ⟨rfl, rfl⟩
      refine wn_if_eq (d87_61 L xs) (x := bI (x_al R fst r l org fp.2)) (by omega) (t := 66) (by decide) (fun h3 => ?_) (fun h3 => ?_)
      · refine wg_iload (d87_66 L xs) rfl ?_
        refine wn_if_eq (d87_68 L xs) (x := bI bl) (by omega) (t := 81) (by decide) (fun h4 => ?_) (fun h4 => ?_)
        · refine wg_aload_n (d87_81 L xs) rfl ?_
          refine wg_get (d87_82 L xs) (kd := 1) (cj := 8) (k0 := 2) rfl (Or.inl rfl) (by decide) rfl rfl ?_
          refine wg_invv (d87_85 L xs) (kd := 7) (mj := 102) (n := 0) rfl (Or.inl rfl) (ys := []) (r := []) rfl rfl (by decide) rfl rfl (Nat.le_of_ble_eq_true rfl) (pl_ac (hP (by omega))) ?_
          rintro _ _ ⟨rfl, rfl⟩
          refine wg_top (y := x_ac bl fp.2) (by rw [x_ac, if_neg (by rw [bI_f (b := bl) (by omega)]; decide)]) ?_
          refine wg_istore (d87_88 L xs) (ls' := [some (.ref 137), some (.ref 1), some (.int (nI c)), some (.int (nI org)), some (.int (nI (bI bl))), some (.int (nI fp.1)), some (.int (x_ac bl fp.2))]) (Nat.le_of_ble_eq_true rfl) rfl ?_
          refine wg_iload (d87_90 L xs) rfl ?_
          refine wg_iconst (d87_92 L xs) (x := 2) (by decide) ?_
          refine wg_icmp_le (d87_93 L xs) (t := 114) (by decide) (fun h5 => ?_) (fun h5 => ?_)
          · refine wg_iload (d87_114 L xs) rfl ?_
            exact wg_iret (d87_116 L xs) rfl rfl ⟨by rw [x_vq, if_neg (by omega), if_neg (by omega), if_neg (by rw [bI_f (b := x_al R fst r l org fp.2) (by omega)]; decide), if_neg (fun h => by first | exact h.1 (by assumption) | exact h.2 (by assumption))], rfl⟩
          · refine wg_iload_n (d87_96 L xs) rfl ?_
            refine wg_aload_n (d87_97 L xs) rfl ?_
            refine wg_get (d87_98 L xs) (kd := 1) (cj := 8) (k0 := 2) rfl (Or.inl rfl) (by decide) rfl rfl ?_
            refine wg_invv (d87_101 L xs) (kd := 7) (mj := 103) (n := 0) rfl (Or.inl rfl) (ys := []) (r := [.int (nI c)]) rfl rfl (by decide) rfl rfl (Nat.le_of_ble_eq_true rfl) (pl_pc (hP (by omega))) ?_
            rintro _ _ ⟨rfl, rfl⟩
            refine wg_icmp_lt (d87_104 L xs) (t := 114) (by decide) (fun h6 => ?_) (fun h6 => ?_)
            · refine wg_iload (d87_114 L xs) rfl ?_
              exact wg_iret (d87_116 L xs) rfl rfl ⟨by rw [x_vq, if_neg (by omega), if_neg (by omega), if_neg (by rw [bI_f (b := x_al R fst r l org fp.2) (by omega)]; decide), if_neg (fun h => by first | exact h.1 (by assumption) | exact h.2 (by assumption))], rfl⟩
            · refine wg_iload (d87_107 L xs) rfl ?_
              refine wg_iconst (d87_109 L xs) (x := 1) (by decide) ?_
              refine wg_isub (d87_110 L xs) ?_
              refine wg_goto (d87_111 L xs) (t := 116) (by decide) ?_
              exact wg_iret (d87_116 L xs) rfl rfl ⟨by rw [x_vq, if_neg (by omega), if_neg (by omega), if_neg (by rw [bI_f (b := x_al R fst r l org fp.2) (by omega)]; decide), if_pos ⟨by assumption, by assumption⟩], rfl⟩
        · refine wg_aload_n (d87_71 L xs) rfl ?_
          refine wg_get (d87_72 L xs) (kd := 1) (cj := 8) (k0 := 2) rfl (Or.inl rfl) (by decide) rfl rfl ?_
          refine wg_invv (d87_75 L xs) (kd := 7) (mj := 101) (n := 0) rfl (Or.inl rfl) (ys := []) (r := []) rfl rfl (by decide) rfl rfl (Nat.le_of_ble_eq_true rfl) (pl_bel (hP (by omega))) ?_
          rintro _ _ ⟨rfl, rfl⟩
          refine wg_top (y := x_ac bl fp.2) (by rw [x_ac, if_pos (bI_t (by omega))]) ?_
          refine wg_goto (d87_78 L xs) (t := 88) (by decide) ?_
          refine wg_istore (d87_88 L xs) (ls' := [some (.ref 137), some (.ref 1), some (.int (nI c)), some (.int (nI org)), some (.int (nI (bI bl))), some (.int (nI fp.1)), some (.int (x_ac bl fp.2))]) (Nat.le_of_ble_eq_true rfl) rfl ?_
          refine wg_iload (d87_90 L xs) rfl ?_
          refine wg_iconst (d87_92 L xs) (x := 2) (by decide) ?_
          refine wg_icmp_le (d87_93 L xs) (t := 114) (by decide) (fun h7 => ?_) (fun h7 => ?_)
          · refine wg_iload (d87_114 L xs) rfl ?_
            exact wg_iret (d87_116 L xs) rfl rfl ⟨by rw [x_vq, if_neg (by omega), if_neg (by omega), if_neg (by rw [bI_f (b := x_al R fst r l org fp.2) (by omega)]; decide), if_neg (fun h => by first | exact h.1 (by assumption) | exact h.2 (by assumption))], rfl⟩
          · refine wg_iload_n (d87_96 L xs) rfl ?_
            refine wg_aload_n (d87_97 L xs) rfl ?_
            refine wg_get (d87_98 L xs) (kd := 1) (cj := 8) (k0 := 2) rfl (Or.inl rfl) (by decide) rfl rfl ?_
            refine wg_invv (d87_101 L xs) (kd := 7) (mj := 103) (n := 0) rfl (Or.inl rfl) (ys := []) (r := [.int (nI c)]) rfl rfl (by decide) rfl rfl (Nat.le_of_ble_eq_true rfl) (pl_pc (hP (by omega))) ?_
            rintro _ _ ⟨rfl, rfl⟩
            refine wg_icmp_lt (d87_104 L xs) (t := 114) (by decide) (fun h8 => ?_) (fun h8 => ?_)
            · refine wg_iload (d87_114 L xs) rfl ?_
              exact wg_iret (d87_116 L xs) rfl rfl ⟨by rw [x_vq, if_neg (by omega), if_neg (by omega), if_neg (by rw [bI_f (b := x_al R fst r l org fp.2) (by omega)]; decide), if_neg (fun h => by first | exact h.1 (by assumption) | exact h.2 (by assumption))], rfl⟩
            · refine wg_iload (d87_107 L xs) rfl ?_
              refine wg_iconst (d87_109 L xs) (x := 1) (by decide) ?_
              refine wg_isub (d87_110 L xs) ?_
              refine wg_goto (d87_111 L xs) (t := 116) (by decide) ?_
              exact wg_iret (d87_116 L xs) rfl rfl ⟨by rw [x_vq, if_neg (by omega), if_neg (by omega), if_neg (by rw [bI_f (b := x_al R fst r l org fp.2) (by omega)]; decide), if_pos ⟨by assumption, by assumption⟩], rfl⟩
      · refine wg_iconst (d87_64 L xs) (x := 1) (by decide) ?_
        exact wg_iret (d87_65 L xs) rfl rfl ⟨by rw [x_vq, if_neg (by omega), if_neg (by omega), if_pos (bI_t (by omega))], rfl⟩
    · refine wg_iconst (d87_53 L xs) (x := 0) (by decide) ?_
      exact wg_iret (d87_54 L xs) rfl rfl ⟨by rw [x_vq, if_neg (by omega), if_pos (by omega)], rfl⟩
  · refine wg_iconst (d87_46 L xs) (x := 5) (by decide) ?_
    exact wg_iret (d87_47 L xs) rfl rfl ⟨by rw [x_vq, if_pos (by omega)], rfl⟩
theorem jd_vd {s : mg_s} {c : Nat} {r : Int32} (T : isTab s p R) (hl : hold s 1 l) (hf : hold s 94 fst) (hr : s.1 87 5 = r) (hv0 : s.2.2.2.1 0 = some 93) (h48 : l.length ≤ 48) (hc : c ≤ 99) : ca L xs (d + 8) 87 [.ref 137, .ref 1, .int (nI c)] s (fun v s' => v = some (.int (x_vd R fst r l c).1) ∧ plf s s' (x_vd R fst r l c).2) := by
  refine wg_call (Nat.le_of_ble_eq_true rfl) ?_
  have hcs := x_fp_cs R (x_nmp l 0)
  have hcs2 := x_fp_cs R (x_nmp l (x_org R l))
  have horg := x_org_le R l
  show wp L xs (d + 7) 87 0 [some (.ref 137), some (.ref 1), some (.int (nI c)), none, none, none, none] [] s _
  refine wg_aload_n (d87_0 L xs) rfl ?_
  refine wg_get (d87_1 L xs) (kd := 1) (cj := 8) (k0 := 0) rfl (Or.inl rfl) (by decide) rfl rfl ?_
  refine wg_aload_n (d87_4 L xs) rfl ?_
  refine wg_invv (d87_5 L xs) (kd := 7) (mj := 88) (n := 1) rfl (Or.inl rfl) (ys := [.ref 1]) (r := []) rfl rfl (by decide) rfl rfl (Nat.le_of_ble_eq_true rfl) (tb_org T isT_all.1 hl) ?_
  rintro _ _ ⟨rfl, rfl⟩
  refine wg_istore_n (d87_8 L xs) (ls' := [some (.ref 137), some (.ref 1), some (.int (nI c)), some (.int (nI (x_org R l))), none, none, none]) (Nat.le_of_ble_eq_true rfl) rfl ?_
  refine wg_iconst (d87_9 L xs) (x := 0) (by decide) ?_
  refine wg_istore (d87_10 L xs) (ls' := [some (.ref 137), some (.ref 1), some (.int (nI c)), some (.int (nI (x_org R l))), some (.int 0), none, none]) (Nat.le_of_ble_eq_true rfl) rfl ?_
  refine wg_aload_n (d87_12 L xs) rfl ?_
  refine wg_aload_n (d87_13 L xs) rfl ?_
  refine wg_iconst (d87_14 L xs) (x := 0) (by decide) ?_
  refine wg_invv (d87_15 L xs) (kd := 7) (mj := 91) (n := 2) rfl (Or.inl rfl) (ys := [.int 0, .ref 1]) (r := []) rfl rfl (by decide) rfl rfl (Nat.le_of_ble_eq_true rfl) (jd_fp (st := 0) T hl h48 (Nat.zero_le _)) ?_
  rintro _ s1 ⟨rfl, hP1, F1⟩
  have T1 := F1.tab T
  have hl1 := F1.hold hl (by decide) (by decide) (by decide)
  have hf1 := F1.hold hf (by decide) (by decide) (by decide)
  have hr1 : s1.1 87 5 = r := by rw [F1.1 87 (by decide) (by decide) (by decide)]; exact hr
  have hv1 : s1.2.2.2.1 0 = some 93 := by rw [F1.2.2.1]; exact hv0
  refine wg_istore (d87_18 L xs) (ls' := [some (.ref 137), some (.ref 1), some (.int (nI c)), some (.int (nI (x_org R l))), some (.int 0), some (.int (nI ((x_fp R (x_nmp l 0)).1))), none]) (Nat.le_of_ble_eq_true rfl) rfl ?_
  refine wg_iload (d87_20 L xs) rfl ?_
  refine wn_if_ne (d87_22 L xs) (x := (x_fp R (x_nmp l 0)).1) (by omega) (t := 40) (by decide) (fun h1 => ?_) (fun h1 => ?_)
  · rw [x_vd, if_neg (fun h => by omega)]; exact wp_mono (jd_40 (bl := false) (fp := x_fp R (x_nmp l 0)) T1 hl1 hf1 hr1 (x_fp_cs R _) hP1 hv1 (x_org_le R l) h48 hc) (fun v s' h => ⟨h.1, by rw [← h.2]; exact F1⟩)
  · refine wg_iload_n (d87_25 L xs) rfl ?_
    refine wn_if_le (d87_26 L xs) (x := x_org R l) (by omega) (t := 40) (by decide) (fun h2 => ?_) (fun h2 => ?_)
    · rw [x_vd, if_neg (fun h => by omega)]; exact wp_mono (jd_40 (bl := false) (fp := x_fp R (x_nmp l 0)) T1 hl1 hf1 hr1 (x_fp_cs R _) hP1 hv1 (x_org_le R l) h48 hc) (fun v s' h => ⟨h.1, by rw [← h.2]; exact F1⟩)
    · refine wg_iconst (d87_29 L xs) (x := 1) (by decide) ?_
      refine wg_istore (d87_30 L xs) (ls' := [some (.ref 137), some (.ref 1), some (.int (nI c)), some (.int (nI (x_org R l))), some (.int 1), some (.int (nI ((x_fp R (x_nmp l 0)).1))), none]) (Nat.le_of_ble_eq_true rfl) rfl ?_
      refine wg_aload_n (d87_32 L xs) rfl ?_
      refine wg_aload_n (d87_33 L xs) rfl ?_
      refine wg_iload_n (d87_34 L xs) rfl ?_
      refine wg_invv (d87_35 L xs) (kd := 7) (mj := 91) (n := 2) rfl (Or.inl rfl) (ys := [.int (nI (x_org R l)), .ref 1]) (r := []) rfl rfl (by decide) rfl rfl (Nat.le_of_ble_eq_true rfl) (jd_fp (st := x_org R l) T1 hl1 h48 (x_org_le R l)) ?_
      rintro _ s2 ⟨rfl, hP2, F2⟩
      have F3 := F1.trans F2
      have T2 := F3.tab T
      have hl2 := F3.hold hl (by decide) (by decide) (by decide)
      have hf2 := F3.hold hf (by decide) (by decide) (by decide)
      have hr2 : s2.1 87 5 = r := by rw [F3.1 87 (by decide) (by decide) (by decide)]; exact hr
      have hv2 : s2.2.2.2.1 0 = some 93 := by rw [F3.2.2.1]; exact hv0
      refine wg_istore (d87_38 L xs) (ls' := [some (.ref 137), some (.ref 1), some (.int (nI c)), some (.int (nI (x_org R l))), some (.int 1), some (.int (nI ((x_fp R (x_nmp l (x_org R l))).1))), none]) (Nat.le_of_ble_eq_true rfl) rfl ?_
      rw [x_vd, if_pos ⟨by omega, by omega⟩]; exact wp_mono (jd_40 (bl := true) (fp := x_fp R (x_nmp l (x_org R l))) T2 hl2 hf2 hr2 (x_fp_cs R _) hP2 hv2 (x_org_le R l) h48 hc) (fun v s' h => ⟨h.1, by rw [← h.2]; exact F3⟩)
theorem gd_policy {s : mg_s} {c : Nat} {r : Int32} (T : isTab s p R) (hl : hold s 1 l) (hn : t_name (gl l) 0 l.length = true) (hf : hold s 94 fst) (hr : s.1 87 5 = r) (hr1 : ¬ r = -1) (hv0 : s.2.2.2.1 0 = some 93) (hc : c ≤ 99) : ca L xs (d + 9) 86 [.ref 0, .int (nI c)] s (fun v s' => v = some (.int (x_vd R fst r l c).1) ∧ ∃ s1, plf s s1 (x_vd R fst r l c).2 ∧ tset s1 1 [] s') := by
  refine wg_call (Nat.le_of_ble_eq_true rfl) ?_
  have h48 : l.length ≤ 48 := by have := t_name_len hn; omega
  have hbn := bI_lt (t_name (gl l) 0 l.length)
  show wp L xs (d + 8) 86 0 [some (.ref 0), some (.int (nI c)), none] [] s _
  refine wg_aload_n (d86_0 L xs) rfl ?_
  refine wg_get (d86_1 L xs) (kd := 1) (cj := 0) (k0 := 0) rfl (Or.inl rfl) (by decide) rfl rfl ?_
  refine wg_invv (d86_4 L xs) (kd := 7) (mj := 46) (n := 0) rfl (Or.inl rfl) (ys := []) (r := []) rfl rfl (by decide) rfl rfl (Nat.le_of_ble_eq_true rfl) (ts_name0 isT_all.1 hl) ?_
  rintro _ _ ⟨rfl, rfl⟩
  refine wn_if_eq (d86_7 L xs) (x := bI (t_name (gl l) 0 l.length)) (by omega) (t := 20) (by decide) (fun h1 => absurd h1 (by rw [hn]; decide)) (fun h1 => ?_)
  refine wg_iload_n (d86_10 L xs) rfl ?_
  refine wn_if_lt (d86_11 L xs) (x := c) (by omega) (t := 20) (by decide) (fun h2 => by omega) (fun h2 => ?_)
  refine wg_iload_n (d86_14 L xs) rfl ?_
  refine wg_bipush (d86_15 L xs) (x := 99) (by decide) ?_
  refine wn_icmp_le (d86_17 L xs) (x := c) (y := 99) (by omega) (by omega) (t := 28) (by decide) (fun h3 => ?_) (fun h3 => by omega)
  refine wg_aload_n (d86_28 L xs) rfl ?_
  refine wg_get (d86_29 L xs) (kd := 1) (cj := 0) (k0 := 2) rfl (Or.inl rfl) (by decide) rfl rfl ?_
  refine wg_invv (d86_32 L xs) (kd := 7) (mj := 23) (n := 0) rfl (Or.inl rfl) (ys := []) (r := []) rfl rfl (by decide) rfl rfl (Nat.le_of_ble_eq_true rfl) ck_has ?_
  rintro _ _ ⟨rfl, rfl⟩
  rw [hr, decide_eq_true hr1]
  refine wg_top (y := 1) rfl ?_
  refine wg_if_ne (d86_35 L xs) (t := 46) (by decide) (fun _ => ?_) (fun hn => absurd (by decide) hn)
  refine wg_aload_n (d86_46 L xs) rfl ?_
  refine wg_get (d86_47 L xs) (kd := 1) (cj := 0) (k0 := 3) rfl (Or.inl rfl) (by decide) rfl rfl ?_
  refine wg_aload_n (d86_50 L xs) rfl ?_
  refine wg_get (d86_51 L xs) (kd := 1) (cj := 0) (k0 := 0) rfl (Or.inl rfl) (by decide) rfl rfl ?_
  refine wg_iload_n (d86_54 L xs) rfl ?_
  refine wg_invv (d86_55 L xs) (kd := 7) (mj := 87) (n := 2) rfl (Or.inl rfl) (ys := [.int (nI c), .ref 1]) (r := []) rfl rfl (by decide) rfl rfl (Nat.le_of_ble_eq_true rfl) (jd_vd T hl hf hr hv0 h48 hc) ?_
  rintro _ s1 ⟨rfl, F1⟩
  refine wg_istore_n (d86_58 L xs) (ls' := [some (.ref 0), some (.int (nI c)), some (.int ((x_vd R fst r l c).1))]) (Nat.le_of_ble_eq_true rfl) rfl ?_
  refine wg_aload_n (d86_59 L xs) rfl ?_
  refine wg_get (d86_60 L xs) (kd := 1) (cj := 0) (k0 := 0) rfl (Or.inl rfl) (by decide) rfl rfl ?_
  refine wg_invv (d86_63 L xs) (kd := 7) (mj := 18) (n := 0) rfl (Or.inl rfl) (ys := []) (r := []) rfl rfl (by decide) rfl rfl (Nat.le_of_ble_eq_true rfl) (ts_clear isT_all.1) ?_
  rintro _ s2 ⟨rfl, e2⟩
  refine wg_iload_n (d86_66 L xs) rfl ?_
  exact wg_iret (d86_67 L xs) rfl rfl ⟨rfl, s1, F1, e2⟩
end VD
