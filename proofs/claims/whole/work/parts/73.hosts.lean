/-! the checker: bits, counts, hosts -/
theorem d49_0 (L : Nat) (xs : Nat → Int32) : decode (ax_code (mgT L xs) 49) 0 = .ok (.aload_n 0, 1) := by
  show decode prog_2_method_8_code 0 = _
  decide +kernel
theorem d49_1 (L : Nat) (xs : Nat → Int32) : decode (ax_code (mgT L xs) 49) 1 = .ok (.getfield 13, 3) := by
  show decode prog_2_method_8_code 1 = _
  decide +kernel
theorem d49_4 (L : Nat) (xs : Nat → Int32) : decode (ax_code (mgT L xs) 49) 4 = .ok (.iconst 0, 1) := by
  show decode prog_2_method_8_code 4 = _
  decide +kernel
theorem d49_5 (L : Nat) (xs : Nat → Int32) : decode (ax_code (mgT L xs) 49) 5 = .ok (.aaload, 1) := by
  show decode prog_2_method_8_code 5 = _
  decide +kernel
theorem d49_6 (L : Nat) (xs : Nat → Int32) : decode (ax_code (mgT L xs) 49) 6 = .ok (.getfield 50, 3) := by
  show decode prog_2_method_8_code 6 = _
  decide +kernel
theorem d49_9 (L : Nat) (xs : Nat → Int32) : decode (ax_code (mgT L xs) 49) 9 = .ok (.areturn, 1) := by
  show decode prog_2_method_8_code 9 = _
  decide +kernel
theorem d73_0 (L : Nat) (xs : Nat → Int32) : decode (ax_code (mgT L xs) 73) 0 = .ok (.iload_n 2, 1) := by
  show decode prog_2_method_23_code 0 = _
  decide +kernel
theorem d73_1 (L : Nat) (xs : Nat → Int32) : decode (ax_code (mgT L xs) 73) 1 = .ok (.ifCond .eq 14, 3) := by
  show decode prog_2_method_23_code 1 = _
  decide +kernel
theorem d73_4 (L : Nat) (xs : Nat → Int32) : decode (ax_code (mgT L xs) 73) 4 = .ok (.iload_n 0, 1) := by
  show decode prog_2_method_23_code 4 = _
  decide +kernel
theorem d73_5 (L : Nat) (xs : Nat → Int32) : decode (ax_code (mgT L xs) 73) 5 = .ok (.iload_n 1, 1) := by
  show decode prog_2_method_23_code 5 = _
  decide +kernel
theorem d73_6 (L : Nat) (xs : Nat → Int32) : decode (ax_code (mgT L xs) 73) 6 = .ok (.ixor, 1) := by
  show decode prog_2_method_23_code 6 = _
  decide +kernel
theorem d73_7 (L : Nat) (xs : Nat → Int32) : decode (ax_code (mgT L xs) 73) 7 = .ok (.bipush 32, 2) := by
  show decode prog_2_method_23_code 7 = _
  decide +kernel
theorem d73_9 (L : Nat) (xs : Nat → Int32) : decode (ax_code (mgT L xs) 73) 9 = .ok (.iload_n 2, 1) := by
  show decode prog_2_method_23_code 9 = _
  decide +kernel
theorem d73_10 (L : Nat) (xs : Nat → Int32) : decode (ax_code (mgT L xs) 73) 10 = .ok (.isub, 1) := by
  show decode prog_2_method_23_code 10 = _
  decide +kernel
theorem d73_11 (L : Nat) (xs : Nat → Int32) : decode (ax_code (mgT L xs) 73) 11 = .ok (.iushr, 1) := by
  show decode prog_2_method_23_code 11 = _
  decide +kernel
theorem d73_12 (L : Nat) (xs : Nat → Int32) : decode (ax_code (mgT L xs) 73) 12 = .ok (.ifCond .ne 7, 3) := by
  show decode prog_2_method_23_code 12 = _
  decide +kernel
theorem d73_15 (L : Nat) (xs : Nat → Int32) : decode (ax_code (mgT L xs) 73) 15 = .ok (.iconst 1, 1) := by
  show decode prog_2_method_23_code 15 = _
  decide +kernel
theorem d73_16 (L : Nat) (xs : Nat → Int32) : decode (ax_code (mgT L xs) 73) 16 = .ok (.goto 4, 3) := by
  show decode prog_2_method_23_code 16 = _
  decide +kernel
theorem d73_19 (L : Nat) (xs : Nat → Int32) : decode (ax_code (mgT L xs) 73) 19 = .ok (.iconst 0, 1) := by
  show decode prog_2_method_23_code 19 = _
  decide +kernel
theorem d73_20 (L : Nat) (xs : Nat → Int32) : decode (ax_code (mgT L xs) 73) 20 = .ok (.ireturn, 1) := by
  show decode prog_2_method_23_code 20 = _
  decide +kernel
theorem d74_0 (L : Nat) (xs : Nat → Int32) : decode (ax_code (mgT L xs) 74) 0 = .ok (.aload_n 0, 1) := by
  show decode prog_2_method_17_code 0 = _
  decide +kernel
theorem d74_1 (L : Nat) (xs : Nat → Int32) : decode (ax_code (mgT L xs) 74) 1 = .ok (.getfield 38, 3) := by
  show decode prog_2_method_17_code 1 = _
  decide +kernel
theorem d74_4 (L : Nat) (xs : Nat → Int32) : decode (ax_code (mgT L xs) 74) 4 = .ok (.bipush 10, 2) := by
  show decode prog_2_method_17_code 4 = _
  decide +kernel
theorem d74_6 (L : Nat) (xs : Nat → Int32) : decode (ax_code (mgT L xs) 74) 6 = .ok (.if_icmp .lt 5, 3) := by
  show decode prog_2_method_17_code 6 = _
  decide +kernel
theorem d74_9 (L : Nat) (xs : Nat → Int32) : decode (ax_code (mgT L xs) 74) 9 = .ok (.iconst 0, 1) := by
  show decode prog_2_method_17_code 9 = _
  decide +kernel
theorem d74_10 (L : Nat) (xs : Nat → Int32) : decode (ax_code (mgT L xs) 74) 10 = .ok (.ireturn, 1) := by
  show decode prog_2_method_17_code 10 = _
  decide +kernel
theorem d74_11 (L : Nat) (xs : Nat → Int32) : decode (ax_code (mgT L xs) 74) 11 = .ok (.aload_n 0, 1) := by
  show decode prog_2_method_17_code 11 = _
  decide +kernel
theorem d74_12 (L : Nat) (xs : Nat → Int32) : decode (ax_code (mgT L xs) 74) 12 = .ok (.dup, 1) := by
  show decode prog_2_method_17_code 12 = _
  decide +kernel
theorem d74_13 (L : Nat) (xs : Nat → Int32) : decode (ax_code (mgT L xs) 74) 13 = .ok (.getfield 38, 3) := by
  show decode prog_2_method_17_code 13 = _
  decide +kernel
theorem d74_16 (L : Nat) (xs : Nat → Int32) : decode (ax_code (mgT L xs) 74) 16 = .ok (.iconst 1, 1) := by
  show decode prog_2_method_17_code 16 = _
  decide +kernel
theorem d74_17 (L : Nat) (xs : Nat → Int32) : decode (ax_code (mgT L xs) 74) 17 = .ok (.iadd, 1) := by
  show decode prog_2_method_17_code 17 = _
  decide +kernel
theorem d74_18 (L : Nat) (xs : Nat → Int32) : decode (ax_code (mgT L xs) 74) 18 = .ok (.putfield 38, 3) := by
  show decode prog_2_method_17_code 18 = _
  decide +kernel
theorem d74_21 (L : Nat) (xs : Nat → Int32) : decode (ax_code (mgT L xs) 74) 21 = .ok (.iconst 1, 1) := by
  show decode prog_2_method_17_code 21 = _
  decide +kernel
theorem d74_22 (L : Nat) (xs : Nat → Int32) : decode (ax_code (mgT L xs) 74) 22 = .ok (.ireturn, 1) := by
  show decode prog_2_method_17_code 22 = _
  decide +kernel
theorem d80_0 (L : Nat) (xs : Nat → Int32) : decode (ax_code (mgT L xs) 80) 0 = .ok (.iload_n 0, 1) := by
  show decode prog_2_method_19_code 0 = _
  decide +kernel
theorem d80_1 (L : Nat) (xs : Nat → Int32) : decode (ax_code (mgT L xs) 80) 1 = .ok (.iconst 5, 1) := by
  show decode prog_2_method_19_code 1 = _
  decide +kernel
theorem d80_2 (L : Nat) (xs : Nat → Int32) : decode (ax_code (mgT L xs) 80) 2 = .ok (.if_icmp .eq 9, 3) := by
  show decode prog_2_method_19_code 2 = _
  decide +kernel
theorem d80_5 (L : Nat) (xs : Nat → Int32) : decode (ax_code (mgT L xs) 80) 5 = .ok (.iload_n 0, 1) := by
  show decode prog_2_method_19_code 5 = _
  decide +kernel
theorem d80_6 (L : Nat) (xs : Nat → Int32) : decode (ax_code (mgT L xs) 80) 6 = .ok (.bipush 6, 2) := by
  show decode prog_2_method_19_code 6 = _
  decide +kernel
theorem d80_8 (L : Nat) (xs : Nat → Int32) : decode (ax_code (mgT L xs) 80) 8 = .ok (.if_icmp .ne 5, 3) := by
  show decode prog_2_method_19_code 8 = _
  decide +kernel
theorem d80_11 (L : Nat) (xs : Nat → Int32) : decode (ax_code (mgT L xs) 80) 11 = .ok (.iload_n 0, 1) := by
  show decode prog_2_method_19_code 11 = _
  decide +kernel
theorem d80_12 (L : Nat) (xs : Nat → Int32) : decode (ax_code (mgT L xs) 80) 12 = .ok (.ireturn, 1) := by
  show decode prog_2_method_19_code 12 = _
  decide +kernel
theorem d80_13 (L : Nat) (xs : Nat → Int32) : decode (ax_code (mgT L xs) 80) 13 = .ok (.iload_n 0, 1) := by
  show decode prog_2_method_19_code 13 = _
  decide +kernel
theorem d80_14 (L : Nat) (xs : Nat → Int32) : decode (ax_code (mgT L xs) 80) 14 = .ok (.iconst 2, 1) := by
  show decode prog_2_method_19_code 14 = _
  decide +kernel
theorem d80_15 (L : Nat) (xs : Nat → Int32) : decode (ax_code (mgT L xs) 80) 15 = .ok (.if_icmp .ne 7, 3) := by
  show decode prog_2_method_19_code 15 = _
  decide +kernel
theorem d80_18 (L : Nat) (xs : Nat → Int32) : decode (ax_code (mgT L xs) 80) 18 = .ok (.iconst 1, 1) := by
  show decode prog_2_method_19_code 18 = _
  decide +kernel
theorem d80_19 (L : Nat) (xs : Nat → Int32) : decode (ax_code (mgT L xs) 80) 19 = .ok (.goto 4, 3) := by
  show decode prog_2_method_19_code 19 = _
  decide +kernel
theorem d80_22 (L : Nat) (xs : Nat → Int32) : decode (ax_code (mgT L xs) 80) 22 = .ok (.iconst 0, 1) := by
  show decode prog_2_method_19_code 22 = _
  decide +kernel
theorem d80_23 (L : Nat) (xs : Nat → Int32) : decode (ax_code (mgT L xs) 80) 23 = .ok (.ireturn, 1) := by
  show decode prog_2_method_19_code 23 = _
  decide +kernel
theorem d81_0 (L : Nat) (xs : Nat → Int32) : decode (ax_code (mgT L xs) 81) 0 = .ok (.aload_n 0, 1) := by
  show decode prog_2_method_21_code 0 = _
  decide +kernel
theorem d81_1 (L : Nat) (xs : Nat → Int32) : decode (ax_code (mgT L xs) 81) 1 = .ok (.aload_n 0, 1) := by
  show decode prog_2_method_21_code 1 = _
  decide +kernel
theorem d81_2 (L : Nat) (xs : Nat → Int32) : decode (ax_code (mgT L xs) 81) 2 = .ok (.getfield 33, 3) := by
  show decode prog_2_method_21_code 2 = _
  decide +kernel
theorem d81_5 (L : Nat) (xs : Nat → Int32) : decode (ax_code (mgT L xs) 81) 5 = .ok (.aload_n 1, 1) := by
  show decode prog_2_method_21_code 5 = _
  decide +kernel
theorem d81_6 (L : Nat) (xs : Nat → Int32) : decode (ax_code (mgT L xs) 81) 6 = .ok (.iconst 0, 1) := by
  show decode prog_2_method_21_code 6 = _
  decide +kernel
theorem d81_7 (L : Nat) (xs : Nat → Int32) : decode (ax_code (mgT L xs) 81) 7 = .ok (.invokevirtual 87, 3) := by
  show decode prog_2_method_21_code 7 = _
  decide +kernel
theorem d81_10 (L : Nat) (xs : Nat → Int32) : decode (ax_code (mgT L xs) 81) 10 = .ok (.invokevirtual 203, 3) := by
  show decode prog_2_method_21_code 10 = _
  decide +kernel
theorem d81_13 (L : Nat) (xs : Nat → Int32) : decode (ax_code (mgT L xs) 81) 13 = .ok (.istore_n 3, 1) := by
  show decode prog_2_method_21_code 13 = _
  decide +kernel
theorem d81_14 (L : Nat) (xs : Nat → Int32) : decode (ax_code (mgT L xs) 81) 14 = .ok (.iload_n 3, 1) := by
  show decode prog_2_method_21_code 14 = _
  decide +kernel
theorem d81_15 (L : Nat) (xs : Nat → Int32) : decode (ax_code (mgT L xs) 81) 15 = .ok (.iconst 1, 1) := by
  show decode prog_2_method_21_code 15 = _
  decide +kernel
theorem d81_16 (L : Nat) (xs : Nat → Int32) : decode (ax_code (mgT L xs) 81) 16 = .ok (.if_icmp .eq 5, 3) := by
  show decode prog_2_method_21_code 16 = _
  decide +kernel
theorem d81_19 (L : Nat) (xs : Nat → Int32) : decode (ax_code (mgT L xs) 81) 19 = .ok (.iload_n 3, 1) := by
  show decode prog_2_method_21_code 19 = _
  decide +kernel
theorem d81_20 (L : Nat) (xs : Nat → Int32) : decode (ax_code (mgT L xs) 81) 20 = .ok (.ireturn, 1) := by
  show decode prog_2_method_21_code 20 = _
  decide +kernel
theorem d81_21 (L : Nat) (xs : Nat → Int32) : decode (ax_code (mgT L xs) 81) 21 = .ok (.iconst 0, 1) := by
  show decode prog_2_method_21_code 21 = _
  decide +kernel
theorem d81_22 (L : Nat) (xs : Nat → Int32) : decode (ax_code (mgT L xs) 81) 22 = .ok (.istore 4, 2) := by
  show decode prog_2_method_21_code 22 = _
  decide +kernel
theorem d81_24 (L : Nat) (xs : Nat → Int32) : decode (ax_code (mgT L xs) 81) 24 = .ok (.iload 4, 2) := by
  show decode prog_2_method_21_code 24 = _
  decide +kernel
theorem d81_26 (L : Nat) (xs : Nat → Int32) : decode (ax_code (mgT L xs) 81) 26 = .ok (.aload_n 0, 1) := by
  show decode prog_2_method_21_code 26 = _
  decide +kernel
theorem d81_27 (L : Nat) (xs : Nat → Int32) : decode (ax_code (mgT L xs) 81) 27 = .ok (.getfield 33, 3) := by
  show decode prog_2_method_21_code 27 = _
  decide +kernel
theorem d81_30 (L : Nat) (xs : Nat → Int32) : decode (ax_code (mgT L xs) 81) 30 = .ok (.invokevirtual 91, 3) := by
  show decode prog_2_method_21_code 30 = _
  decide +kernel
theorem d81_33 (L : Nat) (xs : Nat → Int32) : decode (ax_code (mgT L xs) 81) 33 = .ok (.if_icmp .ge 53, 3) := by
  show decode prog_2_method_21_code 33 = _
  decide +kernel
theorem d81_36 (L : Nat) (xs : Nat → Int32) : decode (ax_code (mgT L xs) 81) 36 = .ok (.aload_n 0, 1) := by
  show decode prog_2_method_21_code 36 = _
  decide +kernel
theorem d81_37 (L : Nat) (xs : Nat → Int32) : decode (ax_code (mgT L xs) 81) 37 = .ok (.getfield 33, 3) := by
  show decode prog_2_method_21_code 37 = _
  decide +kernel
theorem d81_40 (L : Nat) (xs : Nat → Int32) : decode (ax_code (mgT L xs) 81) 40 = .ok (.iload 4, 2) := by
  show decode prog_2_method_21_code 40 = _
  decide +kernel
theorem d81_42 (L : Nat) (xs : Nat → Int32) : decode (ax_code (mgT L xs) 81) 42 = .ok (.invokevirtual 94, 3) := by
  show decode prog_2_method_21_code 42 = _
  decide +kernel
theorem d81_45 (L : Nat) (xs : Nat → Int32) : decode (ax_code (mgT L xs) 81) 45 = .ok (.astore 5, 2) := by
  show decode prog_2_method_21_code 45 = _
  decide +kernel
theorem d81_47 (L : Nat) (xs : Nat → Int32) : decode (ax_code (mgT L xs) 81) 47 = .ok (.aload 5, 2) := by
  show decode prog_2_method_21_code 47 = _
  decide +kernel
theorem d81_49 (L : Nat) (xs : Nat → Int32) : decode (ax_code (mgT L xs) 81) 49 = .ok (.ifnull 31, 3) := by
  show decode prog_2_method_21_code 49 = _
  decide +kernel
theorem d81_52 (L : Nat) (xs : Nat → Int32) : decode (ax_code (mgT L xs) 81) 52 = .ok (.aload 5, 2) := by
  show decode prog_2_method_21_code 52 = _
  decide +kernel
theorem d81_54 (L : Nat) (xs : Nat → Int32) : decode (ax_code (mgT L xs) 81) 54 = .ok (.iconst 0, 1) := by
  show decode prog_2_method_21_code 54 = _
  decide +kernel
theorem d81_55 (L : Nat) (xs : Nat → Int32) : decode (ax_code (mgT L xs) 81) 55 = .ok (.aload_n 1, 1) := by
  show decode prog_2_method_21_code 55 = _
  decide +kernel
theorem d81_56 (L : Nat) (xs : Nat → Int32) : decode (ax_code (mgT L xs) 81) 56 = .ok (.invokevirtual 98, 3) := by
  show decode prog_2_method_21_code 56 = _
  decide +kernel
theorem d81_59 (L : Nat) (xs : Nat → Int32) : decode (ax_code (mgT L xs) 81) 59 = .ok (.ifCond .eq 21, 3) := by
  show decode prog_2_method_21_code 59 = _
  decide +kernel
theorem d81_62 (L : Nat) (xs : Nat → Int32) : decode (ax_code (mgT L xs) 81) 62 = .ok (.aload 5, 2) := by
  show decode prog_2_method_21_code 62 = _
  decide +kernel
theorem d81_64 (L : Nat) (xs : Nat → Int32) : decode (ax_code (mgT L xs) 81) 64 = .ok (.getfield 209, 3) := by
  show decode prog_2_method_21_code 64 = _
  decide +kernel
theorem d81_67 (L : Nat) (xs : Nat → Int32) : decode (ax_code (mgT L xs) 81) 67 = .ok (.aload_n 0, 1) := by
  show decode prog_2_method_21_code 67 = _
  decide +kernel
theorem d81_68 (L : Nat) (xs : Nat → Int32) : decode (ax_code (mgT L xs) 81) 68 = .ok (.getfield 53, 3) := by
  show decode prog_2_method_21_code 68 = _
  decide +kernel
theorem d81_71 (L : Nat) (xs : Nat → Int32) : decode (ax_code (mgT L xs) 81) 71 = .ok (.iload_n 2, 1) := by
  show decode prog_2_method_21_code 71 = _
  decide +kernel
theorem d81_72 (L : Nat) (xs : Nat → Int32) : decode (ax_code (mgT L xs) 81) 72 = .ok (.invokestatic 184, 3) := by
  show decode prog_2_method_21_code 72 = _
  decide +kernel
theorem d81_75 (L : Nat) (xs : Nat → Int32) : decode (ax_code (mgT L xs) 81) 75 = .ok (.ifCond .eq 5, 3) := by
  show decode prog_2_method_21_code 75 = _
  decide +kernel
theorem d81_78 (L : Nat) (xs : Nat → Int32) : decode (ax_code (mgT L xs) 81) 78 = .ok (.iconst 1, 1) := by
  show decode prog_2_method_21_code 78 = _
  decide +kernel
theorem d81_79 (L : Nat) (xs : Nat → Int32) : decode (ax_code (mgT L xs) 81) 79 = .ok (.ireturn, 1) := by
  show decode prog_2_method_21_code 79 = _
  decide +kernel
theorem d81_80 (L : Nat) (xs : Nat → Int32) : decode (ax_code (mgT L xs) 81) 80 = .ok (.iinc 4 1, 3) := by
  show decode prog_2_method_21_code 80 = _
  decide +kernel
theorem d81_83 (L : Nat) (xs : Nat → Int32) : decode (ax_code (mgT L xs) 81) 83 = .ok (.goto (-59), 3) := by
  show decode prog_2_method_21_code 83 = _
  decide +kernel
theorem d81_86 (L : Nat) (xs : Nat → Int32) : decode (ax_code (mgT L xs) 81) 86 = .ok (.iconst 0, 1) := by
  show decode prog_2_method_21_code 86 = _
  decide +kernel
theorem d81_87 (L : Nat) (xs : Nat → Int32) : decode (ax_code (mgT L xs) 81) 87 = .ok (.ireturn, 1) := by
  show decode prog_2_method_21_code 87 = _
  decide +kernel
theorem d82_0 (L : Nat) (xs : Nat → Int32) : decode (ax_code (mgT L xs) 82) 0 = .ok (.iload_n 1, 1) := by
  show decode prog_2_method_20_code 0 = _
  decide +kernel
theorem d82_1 (L : Nat) (xs : Nat → Int32) : decode (ax_code (mgT L xs) 82) 1 = .ok (.iconst (-1), 1) := by
  show decode prog_2_method_20_code 1 = _
  decide +kernel
theorem d82_2 (L : Nat) (xs : Nat → Int32) : decode (ax_code (mgT L xs) 82) 2 = .ok (.if_icmp .ne 5, 3) := by
  show decode prog_2_method_20_code 2 = _
  decide +kernel
theorem d82_5 (L : Nat) (xs : Nat → Int32) : decode (ax_code (mgT L xs) 82) 5 = .ok (.iconst 5, 1) := by
  show decode prog_2_method_20_code 5 = _
  decide +kernel
theorem d82_6 (L : Nat) (xs : Nat → Int32) : decode (ax_code (mgT L xs) 82) 6 = .ok (.ireturn, 1) := by
  show decode prog_2_method_20_code 6 = _
  decide +kernel
theorem d82_7 (L : Nat) (xs : Nat → Int32) : decode (ax_code (mgT L xs) 82) 7 = .ok (.iload_n 1, 1) := by
  show decode prog_2_method_20_code 7 = _
  decide +kernel
theorem d82_8 (L : Nat) (xs : Nat → Int32) : decode (ax_code (mgT L xs) 82) 8 = .ok (.ifCond .le 5, 3) := by
  show decode prog_2_method_20_code 8 = _
  decide +kernel
theorem d82_11 (L : Nat) (xs : Nat → Int32) : decode (ax_code (mgT L xs) 82) 11 = .ok (.iconst 1, 1) := by
  show decode prog_2_method_20_code 11 = _
  decide +kernel
theorem d82_12 (L : Nat) (xs : Nat → Int32) : decode (ax_code (mgT L xs) 82) 12 = .ok (.ireturn, 1) := by
  show decode prog_2_method_20_code 12 = _
  decide +kernel
theorem d82_13 (L : Nat) (xs : Nat → Int32) : decode (ax_code (mgT L xs) 82) 13 = .ok (.aload_n 0, 1) := by
  show decode prog_2_method_20_code 13 = _
  decide +kernel
theorem d82_14 (L : Nat) (xs : Nat → Int32) : decode (ax_code (mgT L xs) 82) 14 = .ok (.dup, 1) := by
  show decode prog_2_method_20_code 14 = _
  decide +kernel
theorem d82_15 (L : Nat) (xs : Nat → Int32) : decode (ax_code (mgT L xs) 82) 15 = .ok (.getfield 41, 3) := by
  show decode prog_2_method_20_code 15 = _
  decide +kernel
theorem d82_18 (L : Nat) (xs : Nat → Int32) : decode (ax_code (mgT L xs) 82) 18 = .ok (.iconst 1, 1) := by
  show decode prog_2_method_20_code 18 = _
  decide +kernel
theorem d82_19 (L : Nat) (xs : Nat → Int32) : decode (ax_code (mgT L xs) 82) 19 = .ok (.iadd, 1) := by
  show decode prog_2_method_20_code 19 = _
  decide +kernel
theorem d82_20 (L : Nat) (xs : Nat → Int32) : decode (ax_code (mgT L xs) 82) 20 = .ok (.putfield 41, 3) := by
  show decode prog_2_method_20_code 20 = _
  decide +kernel
theorem d82_23 (L : Nat) (xs : Nat → Int32) : decode (ax_code (mgT L xs) 82) 23 = .ok (.aload_n 0, 1) := by
  show decode prog_2_method_20_code 23 = _
  decide +kernel
theorem d82_24 (L : Nat) (xs : Nat → Int32) : decode (ax_code (mgT L xs) 82) 24 = .ok (.getfield 41, 3) := by
  show decode prog_2_method_20_code 24 = _
  decide +kernel
theorem d82_27 (L : Nat) (xs : Nat → Int32) : decode (ax_code (mgT L xs) 82) 27 = .ok (.iconst 3, 1) := by
  show decode prog_2_method_20_code 27 = _
  decide +kernel
theorem d82_28 (L : Nat) (xs : Nat → Int32) : decode (ax_code (mgT L xs) 82) 28 = .ok (.if_icmp .lt 8, 3) := by
  show decode prog_2_method_20_code 28 = _
  decide +kernel
theorem d82_31 (L : Nat) (xs : Nat → Int32) : decode (ax_code (mgT L xs) 82) 31 = .ok (.bipush 6, 2) := by
  show decode prog_2_method_20_code 31 = _
  decide +kernel
theorem d82_33 (L : Nat) (xs : Nat → Int32) : decode (ax_code (mgT L xs) 82) 33 = .ok (.goto 4, 3) := by
  show decode prog_2_method_20_code 33 = _
  decide +kernel
theorem d82_36 (L : Nat) (xs : Nat → Int32) : decode (ax_code (mgT L xs) 82) 36 = .ok (.iconst 0, 1) := by
  show decode prog_2_method_20_code 36 = _
  decide +kernel
theorem d82_37 (L : Nat) (xs : Nat → Int32) : decode (ax_code (mgT L xs) 82) 37 = .ok (.ireturn, 1) := by
  show decode prog_2_method_20_code 37 = _
  decide +kernel
theorem d85_0 (L : Nat) (xs : Nat → Int32) : decode (ax_code (mgT L xs) 85) 0 = .ok (.aload_n 0, 1) := by
  show decode prog_2_method_10_code 0 = _
  decide +kernel
theorem d85_1 (L : Nat) (xs : Nat → Int32) : decode (ax_code (mgT L xs) 85) 1 = .ok (.iload_n 1, 1) := by
  show decode prog_2_method_10_code 1 = _
  decide +kernel
theorem d85_2 (L : Nat) (xs : Nat → Int32) : decode (ax_code (mgT L xs) 85) 2 = .ok (.putfield 29, 3) := by
  show decode prog_2_method_10_code 2 = _
  decide +kernel
theorem d85_5 (L : Nat) (xs : Nat → Int32) : decode (ax_code (mgT L xs) 85) 5 = .ok (.return_, 1) := by
  show decode prog_2_method_10_code 5 = _
  decide +kernel
theorem mg_I_self {s : mg_s} {a k : Nat} {x : Int32} (h : s.1 a k = x) : mg_I s a k x = s := by
  refine mg_T_ext ?_ rfl rfl
  funext b
  show (if b = a then upd (s.1 b) k x else s.1 b) = s.1 b
  by_cases e : b = a
  · subst e
    rw [if_pos rfl]
    funext j
    unfold upd
    by_cases e2 : j = k
    · rw [if_pos e2, e2, h]
    · rw [if_neg e2]
  · rw [if_neg e]
def c_sb (x y : Int32) (n : Nat) : Bool := decide (n = 0) || decide (((x ^^^ y).toUInt32 >>> ((nI (32 - n)).toUInt32 &&& Int32.toUInt32 31)).toInt32 = 0)
/-- a count of rows: what it says, how many were void till then -/
def v_cnt (o : Option Nat) (v : Nat) : Nat × Nat := match o with
  | none => (5, v)
  | some n => if n = 0 then (if 3 ≤ v + 1 then 6 else 0, v + 1) else (1, v)
def x_any (adr : Int32) (m : List Nat) (bits : Nat) (R : List rowT) : Bool := R.any (fun q => (decide (q.1 = 0) && decide (q.2.1 = m)) && c_sb q.2.2.2 adr bits)
def x_host (R : List rowT) (adr : Int32) (m : List Nat) (bits v : Nat) : Nat × Nat := if (v_cnt (f_ask m 0 R 0) v).1 = 1 then (bI (x_any adr m bits R), (v_cnt (f_ask m 0 R 0) v).2) else v_cnt (f_ask m 0 R 0) v
theorem v_cnt_le (o : Option Nat) (v : Nat) : (v_cnt o v).1 ≤ 6 ∧ (v_cnt o v).2 ≤ v + 1 := by
  unfold v_cnt
  split
  · exact ⟨show (5 : Nat) ≤ 6 by decide, by omega⟩
  · split
    · refine ⟨?_, Nat.le_refl _⟩
      show (if 3 ≤ v + 1 then 6 else 0) ≤ 6
      split <;> omega
    · exact ⟨show (1 : Nat) ≤ 6 by decide, by omega⟩
theorem x_host_le (R : List rowT) (adr : Int32) (m : List Nat) (bits v : Nat) : (x_host R adr m bits v).1 ≤ 6 ∧ (x_host R adr m bits v).2 ≤ v + 1 := by
  have h := v_cnt_le (f_ask m 0 R 0) v
  unfold x_host
  split
  · refine ⟨?_, h.2⟩
    have := bI_lt (x_any adr m bits R)
    show bI _ ≤ 6
    omega
  · exact h
section CK
variable {L : Nat} {xs : Nat → Int32} {d a b r : Nat} {s : mg_s} {p : Nat → Nat} {R : List rowT} {l m : List Nat}
theorem isL93 : isL 93 := ⟨by decide, by decide +kernel⟩
theorem ck_first (hv0 : s.2.2.2.1 0 = some 93) : ca L xs (d + 1) 49 [.ref 87] s (fun v s' => v = some (.ref 94) ∧ s = s') := by
  refine wg_call (Nat.le_of_ble_eq_true rfl) ?_
  show wp L xs d 49 0 [some (.ref 87)] [] s _
  refine wg_aload_n (d49_0 L xs) rfl ?_
  refine wg_get (d49_1 L xs) (kd := 1) (cj := 6) (k0 := 1) rfl (Or.inl rfl) (by decide) rfl rfl ?_
  refine wg_iconst (d49_4 L xs) (x := 0) (by decide) ?_
  refine wg_aald (d49_5 L xs) (n := 11) (by decide) rfl rfl (vp_in_nI (n := 0) (by decide) (by decide)) (v := .ref 93) (by rw [show (0 : Int32).toNatClampNeg = 0 from rfl, hv0]; rfl) ?_
  refine wg_get (d49_6 L xs) (kd := 2) (cj := 5) (k0 := 0) rfl (Or.inr rfl) (by decide) rfl rfl ?_
  exact wg_aret (d49_9 L xs) rfl ⟨rfl, rfl⟩
theorem ck_same {x y : Int32} {n : Nat} (hn : n ≤ 32) : ca L xs (d + 1) 73 [.int x, .int y, .int (nI n)] s (fun v s' => v = some (.int (nI (bI (c_sb x y n)))) ∧ s = s') := by
  refine wg_call (Nat.le_of_ble_eq_true rfl) ?_
  show wp L xs d 73 0 [some (.int x), some (.int y), some (.int (nI n))] [] s _
  refine wg_iload_n (d73_0 L xs) rfl ?_
  refine wn_if_eq (d73_1 L xs) (x := n) (by omega) (t := 15) (by decide) (fun h1 => ?_) (fun h1 => ?_)
  · refine wg_iconst (d73_15 L xs) (x := 1) (by decide) ?_
    refine wg_goto (d73_16 L xs) (t := 20) (by decide) ?_
    exact wg_iret (d73_20 L xs) rfl rfl (⟨by unfold c_sb; rw [decide_eq_true (by omega)]; rfl, rfl⟩)
  · refine wg_iload_n (d73_4 L xs) rfl ?_
    refine wg_iload_n (d73_5 L xs) rfl ?_
    refine wg_ixor (d73_6 L xs) ?_
    refine wg_bipush (d73_7 L xs) (x := 32) (by decide) ?_
    refine wg_iload_n (d73_9 L xs) rfl ?_
    refine wg_isub (d73_10 L xs) ?_
    refine wg_top (y := (nI (32 - n))) (pk_sub (a := 32) (b := n) (by omega)) ?_
    refine wg_iushr (d73_11 L xs) ?_
    refine wg_if_ne (d73_12 L xs) (t := 19) (by decide) (fun h2 => ?_) (fun h2 => ?_)
    · refine wg_iconst (d73_19 L xs) (x := 0) (by decide) ?_
      exact wg_iret (d73_20 L xs) rfl rfl (⟨by unfold c_sb; rw [decide_eq_false (show ¬ n = 0 by omega), decide_eq_false (by assumption)]; rfl, rfl⟩)
    · refine wg_iconst (d73_15 L xs) (x := 1) (by decide) ?_
      refine wg_goto (d73_16 L xs) (t := 20) (by decide) ?_
      exact wg_iret (d73_20 L xs) rfl rfl (⟨by unfold c_sb; rw [decide_eq_false (show ¬ n = 0 by omega), decide_eq_true (Classical.not_not.mp (by assumption))]; rfl, rfl⟩)
theorem ck_spend1 {k : Nat} (hk : s.1 87 6 = nI k) (h9 : k < 10) : ca L xs (d + 1) 74 [.ref 87] s (fun v s' => v = some (.int 1) ∧ mg_I s 87 6 (nI (k + 1)) = s') := by
  refine wg_call (Nat.le_of_ble_eq_true rfl) ?_
  show wp L xs d 74 0 [some (.ref 87)] [] s _
  refine wg_aload_n (d74_0 L xs) rfl ?_
  refine wg_get (d74_1 L xs) (kd := 1) (cj := 6) (k0 := 6) rfl (Or.inl rfl) (by decide) rfl rfl ?_
  refine wg_top (y := (nI k)) hk ?_
  refine wg_bipush (d74_4 L xs) (x := 10) (by decide) ?_
  refine wn_icmp_lt (d74_6 L xs) (x := k) (y := 10) (by omega) (by omega) (t := 11) (by decide) (fun h1 => ?_) (fun h1 => by omega)
  refine wg_aload_n (d74_11 L xs) rfl ?_
  refine wg_dup (d74_12 L xs) rfl ?_
  refine wg_get (d74_13 L xs) (kd := 1) (cj := 6) (k0 := 6) rfl (Or.inl rfl) (by decide) rfl rfl ?_
  refine wg_top (y := (nI k)) hk ?_
  refine wg_iconst (d74_16 L xs) (x := 1) (by decide) ?_
  refine wg_iadd (d74_17 L xs) ?_
  refine wg_top (y := (nI (k + 1))) (nI_add k 1) ?_
  refine wg_puti (d74_18 L xs) (cj := 6) (k0 := 6) rfl (by decide) rfl (Nat.le_of_ble_eq_true rfl) rfl rfl rfl ?_
  refine wg_iconst (d74_21 L xs) (x := 1) (by decide) ?_
  exact wg_iret (d74_22 L xs) rfl rfl ⟨rfl, rfl⟩
theorem ck_spend0 {k : Nat} (hk : s.1 87 6 = nI k) (h9 : k = 10) : ca L xs (d + 1) 74 [.ref 87] s (fun v s' => v = some (.int 0) ∧ s = s') := by
  refine wg_call (Nat.le_of_ble_eq_true rfl) ?_
  show wp L xs d 74 0 [some (.ref 87)] [] s _
  refine wg_aload_n (d74_0 L xs) rfl ?_
  refine wg_get (d74_1 L xs) (kd := 1) (cj := 6) (k0 := 6) rfl (Or.inl rfl) (by decide) rfl rfl ?_
  refine wg_top (y := (nI k)) hk ?_
  refine wg_bipush (d74_4 L xs) (x := 10) (by decide) ?_
  refine wn_icmp_lt (d74_6 L xs) (x := k) (y := 10) (by omega) (by omega) (t := 11) (by decide) (fun h1 => by omega) (fun h1 => ?_)
  refine wg_iconst (d74_9 L xs) (x := 0) (by decide) ?_
  exact wg_iret (d74_10 L xs) rfl rfl ⟨rfl, rfl⟩
theorem ck_incl {k : Nat} (hk : k ≤ 6) : ca L xs (d + 1) 80 [.int (nI k)] s (fun v s' => v = some (.int (nI (if k = 5 ∨ k = 6 then k else if k = 2 then 1 else 0))) ∧ s = s') := by
  refine wg_call (Nat.le_of_ble_eq_true rfl) ?_
  show wp L xs d 80 0 [some (.int (nI k))] [] s _
  refine wg_iload_n (d80_0 L xs) rfl ?_
  refine wg_iconst (d80_1 L xs) (x := 5) (by decide) ?_
  refine wn_icmp_eq (d80_2 L xs) (x := k) (y := 5) (by omega) (by omega) (t := 11) (by decide) (fun h1 => ?_) (fun h1 => ?_)
  · refine wg_iload_n (d80_11 L xs) rfl ?_
    exact wg_iret (d80_12 L xs) rfl rfl ⟨by rw [if_pos (by omega)], rfl⟩
  · refine wg_iload_n (d80_5 L xs) rfl ?_
    refine wg_bipush (d80_6 L xs) (x := 6) (by decide) ?_
    refine wn_icmp_ne (d80_8 L xs) (x := k) (y := 6) (by omega) (by omega) (t := 13) (by decide) (fun h2 => ?_) (fun h2 => ?_)
    · refine wg_iload_n (d80_13 L xs) rfl ?_
      refine wg_iconst (d80_14 L xs) (x := 2) (by decide) ?_
      refine wn_icmp_ne (d80_15 L xs) (x := k) (y := 2) (by omega) (by omega) (t := 22) (by decide) (fun h3 => ?_) (fun h3 => ?_)
      · refine wg_iconst (d80_22 L xs) (x := 0) (by decide) ?_
        exact wg_iret (d80_23 L xs) rfl rfl ⟨by rw [if_neg (by omega), if_neg (by omega)]; rfl, rfl⟩
      · refine wg_iconst (d80_18 L xs) (x := 1) (by decide) ?_
        refine wg_goto (d80_19 L xs) (t := 23) (by decide) ?_
        exact wg_iret (d80_23 L xs) rfl rfl ⟨by rw [if_neg (by omega), if_pos (by omega)]; rfl, rfl⟩
    · refine wg_iload_n (d80_11 L xs) rfl ?_
      exact wg_iret (d80_12 L xs) rfl rfl ⟨by rw [if_pos (by omega)], rfl⟩
theorem ck_cntn {vd : Nat} (hv : s.1 87 7 = nI vd) : ca L xs (d + 1) 82 [.ref 87, .int (-1)] s (fun v s' => v = some (.int (nI (v_cnt none vd).1)) ∧ mg_I s 87 7 (nI (v_cnt none vd).2) = s') := by
  refine wg_call (Nat.le_of_ble_eq_true rfl) ?_
  show wp L xs d 82 0 [some (.ref 87), some (.int (-1))] [] s _
  refine wg_iload_n (d82_0 L xs) rfl ?_
  refine wg_iconst (d82_1 L xs) (x := (-1)) (by decide) ?_
  refine wg_icmp_ne (d82_2 L xs) (t := 7) (by decide) (fun hp => absurd hp (by decide)) (fun _ => ?_)
  refine wg_iconst (d82_5 L xs) (x := 5) (by decide) ?_
  exact wg_iret (d82_6 L xs) rfl rfl ⟨rfl, mg_I_self hv⟩
theorem ck_cnt1 {vd n : Nat} (hv : s.1 87 7 = nI vd) (hn : n < 2 ^ 30) : ca L xs (d + 1) 82 [.ref 87, .int (nI (n + 1))] s (fun v s' => v = some (.int (nI (v_cnt (some (n + 1)) vd).1)) ∧ mg_I s 87 7 (nI (v_cnt (some (n + 1)) vd).2) = s') := by
  refine wg_call (Nat.le_of_ble_eq_true rfl) ?_
  show wp L xs d 82 0 [some (.ref 87), some (.int (nI (n + 1)))] [] s _
  refine wg_iload_n (d82_0 L xs) rfl ?_
  refine wg_iconst (d82_1 L xs) (x := (-1)) (by decide) ?_
  refine wg_icmp_ne (d82_2 L xs) (t := 7) (by decide) (fun h1 => ?_) (fun h1 => absurd (Classical.not_not.mp h1) (nI_neg1 (by omega)))
  refine wg_iload_n (d82_7 L xs) rfl ?_
  refine wn_if_le (d82_8 L xs) (x := n + 1) (by omega) (t := 13) (by decide) (fun h2 => by omega) (fun h2 => ?_)
  refine wg_iconst (d82_11 L xs) (x := 1) (by decide) ?_
  exact wg_iret (d82_12 L xs) rfl rfl ⟨rfl, mg_I_self hv⟩
theorem ck_cnt0 {vd : Nat} (hv : s.1 87 7 = nI vd) (hvd : vd < 1000) : ca L xs (d + 1) 82 [.ref 87, .int 0] s (fun v s' => v = some (.int (nI (v_cnt (some 0) vd).1)) ∧ mg_I s 87 7 (nI (v_cnt (some 0) vd).2) = s') := by
  refine wg_call (Nat.le_of_ble_eq_true rfl) ?_
  show wp L xs d 82 0 [some (.ref 87), some (.int 0)] [] s _
  refine wg_iload_n (d82_0 L xs) rfl ?_
  refine wg_iconst (d82_1 L xs) (x := (-1)) (by decide) ?_
  refine wg_icmp_ne (d82_2 L xs) (t := 7) (by decide) (fun _ => ?_) (fun hn => absurd (by decide) hn)
  refine wg_iload_n (d82_7 L xs) rfl ?_
  refine wg_if_le (d82_8 L xs) (t := 13) (by decide) (fun _ => ?_) (fun hn => absurd (by decide) hn)
  refine wg_aload_n (d82_13 L xs) rfl ?_
  refine wg_dup (d82_14 L xs) rfl ?_
  refine wg_get (d82_15 L xs) (kd := 1) (cj := 6) (k0 := 7) rfl (Or.inl rfl) (by decide) rfl rfl ?_
  refine wg_top (y := (nI vd)) hv ?_
  refine wg_iconst (d82_18 L xs) (x := 1) (by decide) ?_
  refine wg_iadd (d82_19 L xs) ?_
  refine wg_top (y := (nI (vd + 1))) (nI_add vd 1) ?_
  refine wg_puti (d82_20 L xs) (cj := 6) (k0 := 7) rfl (by decide) rfl (Nat.le_of_ble_eq_true rfl) rfl rfl rfl ?_
  refine wg_aload_n (d82_23 L xs) rfl ?_
  refine wg_get (d82_24 L xs) (kd := 1) (cj := 6) (k0 := 7) rfl (Or.inl rfl) (by decide) rfl rfl ?_
  refine wg_top (y := (nI (vd + 1))) rfl ?_
  refine wg_iconst (d82_27 L xs) (x := 3) (by decide) ?_
  refine wn_icmp_lt (d82_28 L xs) (x := vd + 1) (y := 3) (by omega) (by omega) (t := 36) (by decide) (fun h3 => ?_) (fun h3 => ?_)
  · refine wg_iconst (d82_36 L xs) (x := 0) (by decide) ?_
    exact wg_iret (d82_37 L xs) rfl rfl ⟨by show _ = some (Value.int (nI (if 3 ≤ vd + 1 then 6 else 0))); rw [if_neg (by omega)]; rfl, rfl⟩
  · refine wg_bipush (d82_31 L xs) (x := 6) (by decide) ?_
    refine wg_goto (d82_33 L xs) (t := 37) (by decide) ?_
    exact wg_iret (d82_37 L xs) rfl rfl ⟨by show _ = some (Value.int (nI (if 3 ≤ vd + 1 then 6 else 0))); rw [if_pos (by omega)]; rfl, rfl⟩
theorem ck_cnt {vd : Nat} {o : Option Nat} (hv : s.1 87 7 = nI vd) (hvd : vd < 1000) (ho : ∀ n, o = some n → n < 2 ^ 30) : ca L xs (d + 1) 82 [.ref 87, .int (oI o)] s (fun v s' => v = some (.int (nI (v_cnt o vd).1)) ∧ mg_I s 87 7 (nI (v_cnt o vd).2) = s') := by
  match o, ho with
  | none, _ => exact ck_cntn hv
  | some 0, _ => exact ck_cnt0 hv hvd
  | some (n + 1), ho => exact ck_cnt1 hv (by have := ho (n + 1) rfl; omega)
theorem ck_end {x : Int32} : ca L xs (d + 1) 85 [.ref 87, .int x] s (fun v s' => v = none ∧ mg_I s 87 5 x = s') := by
  refine wg_call (Nat.le_of_ble_eq_true rfl) ?_
  show wp L xs d 85 0 [some (.ref 87), some (.int x)] [] s _
  refine wg_aload_n (d85_0 L xs) rfl ?_
  refine wg_iload_n (d85_1 L xs) rfl ?_
  refine wg_puti (d85_2 L xs) (cj := 6) (k0 := 5) rfl (by decide) rfl (Nat.le_of_ble_eq_true rfl) rfl rfl rfl ?_
  exact wg_vret (d85_5 L xs) rfl ⟨rfl, rfl⟩
theorem f_ask_lt {m : List Nat} {kd : Nat} : ∀ (R : List rowT) (acc n : Nat), f_ask m kd R acc = some n → n ≤ acc + R.length := by
  intro R
  induction R with
  | nil => intro acc n h; cases h; omega
  | cons q R ih =>
    intro acc n h
    rw [f_ask] at h
    rw [List.length_cons]
    split at h
    · split at h
      · cases h
      · have := ih _ _ h
        split at this <;> omega
    · have := ih _ _ h; omega
theorem ck_host_l {bits : Nat} {adr : Int32} (T : isTab s p R) (Hb : isT b) (hm : hold s b m) (ha : s.1 87 4 = adr) (hbits : bits ≤ 32) : ∀ (Rs : List rowT) (k : Nat) (c5 : Option Value), R.drop k = Rs → k ≤ R.length → wp L xs (d + 2) 81 24 [some (.ref 87), some (.ref b), some (.int (nI bits)), some (.int 1), some (.int (nI k)), c5] [] s (fun v s' => v = some (.int (nI (bI (x_any adr m bits Rs)))) ∧ s = s') := by
  have hR16 := T.2.1
  intro Rs
  induction Rs with
  | nil =>
    intro k c5 hk hkl
    have hkl2 : R.length ≤ k := List.drop_eq_nil_iff.mp hk
    refine wg_iload (d81_24 L xs) rfl ?_
    refine wg_aload_n (d81_26 L xs) rfl ?_
    refine wg_get (d81_27 L xs) (kd := 1) (cj := 6) (k0 := 0) rfl (Or.inl rfl) (by decide) rfl rfl ?_
    refine wg_invv (d81_30 L xs) (kd := 7) (mj := 33) (n := 0) rfl (Or.inl rfl) (ys := []) (r := [.int (nI k)]) rfl rfl (by decide) rfl rfl (Nat.le_of_ble_eq_true rfl) tb_count ?_
    rintro _ _ ⟨rfl, rfl⟩
    refine wg_top (y := nI R.length) T.1 ?_
    refine wn_icmp_ge (d81_33 L xs) (x := k) (y := R.length) (by omega) (by omega) (t := 86) (by decide) (fun h1 => ?_) (fun h1 => by omega)
    refine wg_iconst (d81_86 L xs) (x := 0) (by decide) ?_
    exact wg_iret (d81_87 L xs) rfl rfl ⟨rfl, rfl⟩
  | cons q Rs ih =>
    intro k c5 hk hkl
    obtain ⟨hk1, hk2, hk3⟩ := drop_cons hk
    have hq := T.2.2.2.2 k q hk1
    have hb1 := bI_lt (decide (q.1 = 0) && decide (q.2.1 = m))
    have hb2 := bI_lt (c_sb q.2.2.2 adr bits)
    rw [x_any, List.any_cons]
    refine wg_iload (d81_24 L xs) rfl ?_
    refine wg_aload_n (d81_26 L xs) rfl ?_
    refine wg_get (d81_27 L xs) (kd := 1) (cj := 6) (k0 := 0) rfl (Or.inl rfl) (by decide) rfl rfl ?_
    refine wg_invv (d81_30 L xs) (kd := 7) (mj := 33) (n := 0) rfl (Or.inl rfl) (ys := []) (r := [.int (nI k)]) rfl rfl (by decide) rfl rfl (Nat.le_of_ble_eq_true rfl) tb_count ?_
    rintro _ _ ⟨rfl, rfl⟩
    refine wg_top (y := nI R.length) T.1 ?_
    refine wn_icmp_ge (d81_33 L xs) (x := k) (y := R.length) (by omega) (by omega) (t := 86) (by decide) (fun h1 => by omega) (fun h1 => ?_)
    refine wg_aload_n (d81_36 L xs) rfl ?_
    refine wg_get (d81_37 L xs) (kd := 1) (cj := 6) (k0 := 0) rfl (Or.inl rfl) (by decide) rfl rfl ?_
    refine wg_iload (d81_40 L xs) rfl ?_
    refine wg_invv (d81_42 L xs) (kd := 7) (mj := 34) (n := 1) rfl (Or.inl rfl) (ys := [.int (nI k)]) (r := []) rfl rfl (by decide) rfl rfl (Nat.le_of_ble_eq_true rfl) (tb_at T hk2) ?_
    rintro _ _ ⟨rfl, rfl⟩
    refine wg_astore (d81_45 L xs) (ls' := [some (.ref 87), some (.ref b), some (.int (nI bits)), some (.int 1), some (.int (nI k)), some (.ref (p k))]) (Nat.le_of_ble_eq_true rfl) rfl ?_
    refine wg_aload (d81_47 L xs) rfl ?_
    refine wg_ifnull (d81_49 L xs) ?_
    refine wg_aload (d81_52 L xs) rfl ?_
    refine wg_iconst (d81_54 L xs) (x := 0) (by decide) ?_
    refine wg_aload_n (d81_55 L xs) rfl ?_
    refine wg_invv (d81_56 L xs) (kd := 7) (mj := 55) (n := 2) rfl (Or.inl rfl) (ys := [.ref b, .int 0]) (r := []) rfl rfl (T.2.2.1 k (by omega)).2.1 (rw_c (T.2.2.1 k (by omega)).2) rfl (Nat.le_of_ble_eq_true rfl) (rw_is (kd := 0) (T.2.2.1 k (by omega)).2 hq Hb hm (by decide)) ?_
    rintro _ _ ⟨rfl, rfl⟩
    refine wn_if_eq (d81_59 L xs) (x := bI (decide (q.1 = 0) && decide (q.2.1 = m))) (by omega) (t := 80) (by decide) (fun h2 => ?_) (fun h2 => ?_)
    · refine wg_iinc (d81_80 L xs) (y := (nI (k + 1))) (ls' := [some (.ref 87), some (.ref b), some (.int (nI bits)), some (.int 1), some (.int (nI (k + 1))), some (.ref (p k))]) rfl (nI_add k 1) rfl ?_
      refine wg_goto (d81_83 L xs) (t := 24) (by decide) ?_
      rw [bI_f (b := decide (q.1 = 0) && decide (q.2.1 = m)) (by omega), Bool.false_and, Bool.false_or]; exact ih (k + 1) _ hk3 (by omega)
    · refine wg_aload (d81_62 L xs) rfl ?_
      refine wg_get (d81_64 L xs) (kd := 2) (cj := 2) (k0 := 3) rfl (Or.inr rfl) (T.2.2.1 k (by omega)).2.1 (rw_c (T.2.2.1 k (by omega)).2) rfl ?_
      refine wg_top (y := q.2.2.2) hq.2.2.2.2 ?_
      refine wg_aload_n (d81_67 L xs) rfl ?_
      refine wg_get (d81_68 L xs) (kd := 1) (cj := 6) (k0 := 4) rfl (Or.inl rfl) (by decide) rfl rfl ?_
      refine wg_top (y := adr) ha ?_
      refine wg_iload_n (d81_71 L xs) rfl ?_
      refine wg_invs (d81_72 L xs) (kd := 6) (mj := 73) (n := 3) rfl (Or.inl rfl) (ys := [.int (nI bits), .int adr, .int q.2.2.2]) (r := []) rfl rfl (Nat.le_of_ble_eq_true rfl) (ck_same hbits) ?_
      rintro _ _ ⟨rfl, rfl⟩
      refine wn_if_eq (d81_75 L xs) (x := bI (c_sb q.2.2.2 adr bits)) (by omega) (t := 80) (by decide) (fun h3 => ?_) (fun h3 => ?_)
      · refine wg_iinc (d81_80 L xs) (y := (nI (k + 1))) (ls' := [some (.ref 87), some (.ref b), some (.int (nI bits)), some (.int 1), some (.int (nI (k + 1))), some (.ref (p k))]) rfl (nI_add k 1) rfl ?_
        refine wg_goto (d81_83 L xs) (t := 24) (by decide) ?_
        rw [bI_f (b := c_sb q.2.2.2 adr bits) (by omega), Bool.and_false, Bool.false_or]; exact ih (k + 1) _ hk3 (by omega)
      · refine wg_iconst (d81_78 L xs) (x := 1) (by decide) ?_
        exact wg_iret (d81_79 L xs) rfl rfl ⟨by rw [bI_t (b := decide (q.1 = 0) && decide (q.2.1 = m)) (by omega), bI_t (b := c_sb q.2.2.2 adr bits) (by omega)]; rfl, rfl⟩
theorem ck_host {bits vd : Nat} {adr : Int32} (T : isTab s p R) (Hb : isT b) (hm : hold s b m) (hb5 : ¬ b = 5) (hb87 : ¬ b = 87) (hml : m.length ≤ 55) (ha : s.1 87 4 = adr) (hv : s.1 87 7 = nI vd) (hvd : vd < 1000) (hbits : bits ≤ 32) : ca L xs (d + 3) 81 [.ref 87, .ref b, .int (nI bits)] s (fun v s' => v = some (.int (nI (x_host R adr m bits vd).1)) ∧ ∃ s1, tset s 5 m s1 ∧ mg_I s1 87 7 (nI (x_host R adr m bits vd).2) = s') := by
  refine wg_call (Nat.le_of_ble_eq_true rfl) ?_
  have hle := v_cnt_le (f_ask m 0 R 0) vd
  show wp L xs (d + 2) 81 0 [some (.ref 87), some (.ref b), some (.int (nI bits)), none, none, none] [] s _
  refine wg_aload_n (d81_0 L xs) rfl ?_
  refine wg_aload_n (d81_1 L xs) rfl ?_
  refine wg_get (d81_2 L xs) (kd := 1) (cj := 6) (k0 := 0) rfl (Or.inl rfl) (by decide) rfl rfl ?_
  refine wg_aload_n (d81_5 L xs) rfl ?_
  refine wg_iconst (d81_6 L xs) (x := 0) (by decide) ?_
  refine wg_invv (d81_7 L xs) (kd := 7) (mj := 53) (n := 2) rfl (Or.inl rfl) (ys := [.int 0, .ref b]) (r := [.ref 87]) rfl rfl (by decide) rfl rfl (Nat.le_of_ble_eq_true rfl) (tb_ask (kd := 0) T Hb hm hb5 hml (by decide)) ?_
  rintro _ s1 ⟨rfl, e1⟩
  refine wg_invv (d81_10 L xs) (kd := 7) (mj := 82) (n := 1) rfl (Or.inl rfl) (ys := [.int (oI (f_ask m 0 R 0))]) (r := []) rfl rfl (by decide) rfl rfl (Nat.le_of_ble_eq_true rfl) (ck_cnt (o := f_ask m 0 R 0) ((congrFun (e1.i (b := 87) (by decide)) 7).trans hv) hvd (fun n hn => by have := f_ask_lt _ _ _ hn; have := T.2.1; omega)) ?_
  rintro _ _ ⟨rfl, rfl⟩
  refine wg_istore_n (d81_13 L xs) (ls' := [some (.ref 87), some (.ref b), some (.int (nI bits)), some (.int (nI ((v_cnt (f_ask m 0 R 0) vd).1))), none, none]) (Nat.le_of_ble_eq_true rfl) rfl ?_
  refine wg_iload_n (d81_14 L xs) rfl ?_
  refine wg_iconst (d81_15 L xs) (x := 1) (by decide) ?_
  refine wn_icmp_eq (d81_16 L xs) (x := (v_cnt (f_ask m 0 R 0) vd).1) (y := 1) (by omega) (by omega) (t := 21) (by decide) (fun h1 => ?_) (fun h1 => ?_)
  · refine wg_iconst (d81_21 L xs) (x := 0) (by decide) ?_
    refine wg_istore (d81_22 L xs) (ls' := [some (.ref 87), some (.ref b), some (.int (nI bits)), some (.int (nI ((v_cnt (f_ask m 0 R 0) vd).1))), some (.int 0), none]) (Nat.le_of_ble_eq_true rfl) rfl ?_
    rw [show nI (v_cnt (f_ask m 0 R 0) vd).1 = 1 from by rw [show (v_cnt (f_ask m 0 R 0) vd).1 = 1 by omega]; rfl]; exact wp_mono (ck_host_l (s := mg_I s1 87 7 (nI (v_cnt (f_ask m 0 R 0) vd).2)) (isTab_of (tset_tab e1 (Or.inl (by decide)) (by decide) T) (mg_I_oth (by decide)) (fun q h1 h2 => ⟨mg_I_oth (by omega), rfl⟩) rfl) Hb (hold_I (e1.other hb5 hm) hb87) ((congrFun (e1.i (b := 87) (by decide)) 4).trans ha) hbits R 0 none rfl (Nat.zero_le _)) (fun v s' h => ⟨by rw [x_host, if_pos (by omega)]; exact h.1, s1, e1, by rw [x_host, if_pos (by omega)]; exact h.2⟩)
  · refine wg_iload_n (d81_19 L xs) rfl ?_
    exact wg_iret (d81_20 L xs) rfl rfl ⟨by rw [x_host, if_neg (by omega)], s1, e1, by rw [x_host, if_neg (by omega)]⟩
end CK
