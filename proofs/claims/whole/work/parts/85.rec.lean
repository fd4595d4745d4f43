/-! the reference: a record's letters -/
theorem d124_0 (L : Nat) (xs : Nat → Int32) : decode (ax_code (mgT L xs) 124) 0 = .ok (.aload_n 0, 1) := by
  show decode prog_11_method_26_code 0 = _
  decide +kernel
theorem d124_1 (L : Nat) (xs : Nat → Int32) : decode (ax_code (mgT L xs) 124) 1 = .ok (.iload_n 1, 1) := by
  show decode prog_11_method_26_code 1 = _
  decide +kernel
theorem d124_2 (L : Nat) (xs : Nat → Int32) : decode (ax_code (mgT L xs) 124) 2 = .ok (.iload_n 2, 1) := by
  show decode prog_11_method_26_code 2 = _
  decide +kernel
theorem d124_3 (L : Nat) (xs : Nat → Int32) : decode (ax_code (mgT L xs) 124) 3 = .ok (.invokevirtual 166, 3) := by
  show decode prog_11_method_26_code 3 = _
  decide +kernel
theorem d124_6 (L : Nat) (xs : Nat → Int32) : decode (ax_code (mgT L xs) 124) 6 = .ok (.iload_n 3, 1) := by
  show decode prog_11_method_26_code 6 = _
  decide +kernel
theorem d124_7 (L : Nat) (xs : Nat → Int32) : decode (ax_code (mgT L xs) 124) 7 = .ok (.if_icmp .ne 33, 3) := by
  show decode prog_11_method_26_code 7 = _
  decide +kernel
theorem d124_10 (L : Nat) (xs : Nat → Int32) : decode (ax_code (mgT L xs) 124) 10 = .ok (.aload_n 0, 1) := by
  show decode prog_11_method_26_code 10 = _
  decide +kernel
theorem d124_11 (L : Nat) (xs : Nat → Int32) : decode (ax_code (mgT L xs) 124) 11 = .ok (.iload_n 1, 1) := by
  show decode prog_11_method_26_code 11 = _
  decide +kernel
theorem d124_12 (L : Nat) (xs : Nat → Int32) : decode (ax_code (mgT L xs) 124) 12 = .ok (.iload_n 2, 1) := by
  show decode prog_11_method_26_code 12 = _
  decide +kernel
theorem d124_13 (L : Nat) (xs : Nat → Int32) : decode (ax_code (mgT L xs) 124) 13 = .ok (.iconst 1, 1) := by
  show decode prog_11_method_26_code 13 = _
  decide +kernel
theorem d124_14 (L : Nat) (xs : Nat → Int32) : decode (ax_code (mgT L xs) 124) 14 = .ok (.iadd, 1) := by
  show decode prog_11_method_26_code 14 = _
  decide +kernel
theorem d124_15 (L : Nat) (xs : Nat → Int32) : decode (ax_code (mgT L xs) 124) 15 = .ok (.invokevirtual 166, 3) := by
  show decode prog_11_method_26_code 15 = _
  decide +kernel
theorem d124_18 (L : Nat) (xs : Nat → Int32) : decode (ax_code (mgT L xs) 124) 18 = .ok (.iload 4, 2) := by
  show decode prog_11_method_26_code 18 = _
  decide +kernel
theorem d124_20 (L : Nat) (xs : Nat → Int32) : decode (ax_code (mgT L xs) 124) 20 = .ok (.if_icmp .ne 20, 3) := by
  show decode prog_11_method_26_code 20 = _
  decide +kernel
theorem d124_23 (L : Nat) (xs : Nat → Int32) : decode (ax_code (mgT L xs) 124) 23 = .ok (.aload_n 0, 1) := by
  show decode prog_11_method_26_code 23 = _
  decide +kernel
theorem d124_24 (L : Nat) (xs : Nat → Int32) : decode (ax_code (mgT L xs) 124) 24 = .ok (.iload_n 1, 1) := by
  show decode prog_11_method_26_code 24 = _
  decide +kernel
theorem d124_25 (L : Nat) (xs : Nat → Int32) : decode (ax_code (mgT L xs) 124) 25 = .ok (.iload_n 2, 1) := by
  show decode prog_11_method_26_code 25 = _
  decide +kernel
theorem d124_26 (L : Nat) (xs : Nat → Int32) : decode (ax_code (mgT L xs) 124) 26 = .ok (.iconst 2, 1) := by
  show decode prog_11_method_26_code 26 = _
  decide +kernel
theorem d124_27 (L : Nat) (xs : Nat → Int32) : decode (ax_code (mgT L xs) 124) 27 = .ok (.iadd, 1) := by
  show decode prog_11_method_26_code 27 = _
  decide +kernel
theorem d124_28 (L : Nat) (xs : Nat → Int32) : decode (ax_code (mgT L xs) 124) 28 = .ok (.invokevirtual 166, 3) := by
  show decode prog_11_method_26_code 28 = _
  decide +kernel
theorem d124_31 (L : Nat) (xs : Nat → Int32) : decode (ax_code (mgT L xs) 124) 31 = .ok (.iload 5, 2) := by
  show decode prog_11_method_26_code 31 = _
  decide +kernel
theorem d124_33 (L : Nat) (xs : Nat → Int32) : decode (ax_code (mgT L xs) 124) 33 = .ok (.if_icmp .ne 7, 3) := by
  show decode prog_11_method_26_code 33 = _
  decide +kernel
theorem d124_36 (L : Nat) (xs : Nat → Int32) : decode (ax_code (mgT L xs) 124) 36 = .ok (.iconst 1, 1) := by
  show decode prog_11_method_26_code 36 = _
  decide +kernel
theorem d124_37 (L : Nat) (xs : Nat → Int32) : decode (ax_code (mgT L xs) 124) 37 = .ok (.goto 4, 3) := by
  show decode prog_11_method_26_code 37 = _
  decide +kernel
theorem d124_40 (L : Nat) (xs : Nat → Int32) : decode (ax_code (mgT L xs) 124) 40 = .ok (.iconst 0, 1) := by
  show decode prog_11_method_26_code 40 = _
  decide +kernel
theorem d124_41 (L : Nat) (xs : Nat → Int32) : decode (ax_code (mgT L xs) 124) 41 = .ok (.ireturn, 1) := by
  show decode prog_11_method_26_code 41 = _
  decide +kernel
theorem d125_0 (L : Nat) (xs : Nat → Int32) : decode (ax_code (mgT L xs) 125) 0 = .ok (.iload_n 2, 1) := by
  show decode prog_11_method_23_code 0 = _
  decide +kernel
theorem d125_1 (L : Nat) (xs : Nat → Int32) : decode (ax_code (mgT L xs) 125) 1 = .ok (.aload_n 0, 1) := by
  show decode prog_11_method_23_code 1 = _
  decide +kernel
theorem d125_2 (L : Nat) (xs : Nat → Int32) : decode (ax_code (mgT L xs) 125) 2 = .ok (.getfield 19, 3) := by
  show decode prog_11_method_23_code 2 = _
  decide +kernel
theorem d125_5 (L : Nat) (xs : Nat → Int32) : decode (ax_code (mgT L xs) 125) 5 = .ok (.iload_n 1, 1) := by
  show decode prog_11_method_23_code 5 = _
  decide +kernel
theorem d125_6 (L : Nat) (xs : Nat → Int32) : decode (ax_code (mgT L xs) 125) 6 = .ok (.iaload, 1) := by
  show decode prog_11_method_23_code 6 = _
  decide +kernel
theorem d125_7 (L : Nat) (xs : Nat → Int32) : decode (ax_code (mgT L xs) 125) 7 = .ok (.if_icmp .ge 17, 3) := by
  show decode prog_11_method_23_code 7 = _
  decide +kernel
theorem d125_10 (L : Nat) (xs : Nat → Int32) : decode (ax_code (mgT L xs) 125) 10 = .ok (.aload_n 0, 1) := by
  show decode prog_11_method_23_code 10 = _
  decide +kernel
theorem d125_11 (L : Nat) (xs : Nat → Int32) : decode (ax_code (mgT L xs) 125) 11 = .ok (.getfield 16, 3) := by
  show decode prog_11_method_23_code 11 = _
  decide +kernel
theorem d125_14 (L : Nat) (xs : Nat → Int32) : decode (ax_code (mgT L xs) 125) 14 = .ok (.bipush 100, 2) := by
  show decode prog_11_method_23_code 14 = _
  decide +kernel
theorem d125_16 (L : Nat) (xs : Nat → Int32) : decode (ax_code (mgT L xs) 125) 16 = .ok (.iload_n 1, 1) := by
  show decode prog_11_method_23_code 16 = _
  decide +kernel
theorem d125_17 (L : Nat) (xs : Nat → Int32) : decode (ax_code (mgT L xs) 125) 17 = .ok (.imul, 1) := by
  show decode prog_11_method_23_code 17 = _
  decide +kernel
theorem d125_18 (L : Nat) (xs : Nat → Int32) : decode (ax_code (mgT L xs) 125) 18 = .ok (.iload_n 2, 1) := by
  show decode prog_11_method_23_code 18 = _
  decide +kernel
theorem d125_19 (L : Nat) (xs : Nat → Int32) : decode (ax_code (mgT L xs) 125) 19 = .ok (.iadd, 1) := by
  show decode prog_11_method_23_code 19 = _
  decide +kernel
theorem d125_20 (L : Nat) (xs : Nat → Int32) : decode (ax_code (mgT L xs) 125) 20 = .ok (.iaload, 1) := by
  show decode prog_11_method_23_code 20 = _
  decide +kernel
theorem d125_21 (L : Nat) (xs : Nat → Int32) : decode (ax_code (mgT L xs) 125) 21 = .ok (.goto 5, 3) := by
  show decode prog_11_method_23_code 21 = _
  decide +kernel
theorem d125_24 (L : Nat) (xs : Nat → Int32) : decode (ax_code (mgT L xs) 125) 24 = .ok (.bipush 32, 2) := by
  show decode prog_11_method_23_code 24 = _
  decide +kernel
theorem d125_26 (L : Nat) (xs : Nat → Int32) : decode (ax_code (mgT L xs) 125) 26 = .ok (.ireturn, 1) := by
  show decode prog_11_method_23_code 26 = _
  decide +kernel
theorem d127_0 (L : Nat) (xs : Nat → Int32) : decode (ax_code (mgT L xs) 127) 0 = .ok (.iload_n 2, 1) := by
  show decode prog_11_method_24_code 0 = _
  decide +kernel
theorem d127_1 (L : Nat) (xs : Nat → Int32) : decode (ax_code (mgT L xs) 127) 1 = .ok (.istore_n 3, 1) := by
  show decode prog_11_method_24_code 1 = _
  decide +kernel
theorem d127_2 (L : Nat) (xs : Nat → Int32) : decode (ax_code (mgT L xs) 127) 2 = .ok (.iload_n 3, 1) := by
  show decode prog_11_method_24_code 2 = _
  decide +kernel
theorem d127_3 (L : Nat) (xs : Nat → Int32) : decode (ax_code (mgT L xs) 127) 3 = .ok (.aload_n 0, 1) := by
  show decode prog_11_method_24_code 3 = _
  decide +kernel
theorem d127_4 (L : Nat) (xs : Nat → Int32) : decode (ax_code (mgT L xs) 127) 4 = .ok (.getfield 19, 3) := by
  show decode prog_11_method_24_code 4 = _
  decide +kernel
theorem d127_7 (L : Nat) (xs : Nat → Int32) : decode (ax_code (mgT L xs) 127) 7 = .ok (.iload_n 1, 1) := by
  show decode prog_11_method_24_code 7 = _
  decide +kernel
theorem d127_8 (L : Nat) (xs : Nat → Int32) : decode (ax_code (mgT L xs) 127) 8 = .ok (.iaload, 1) := by
  show decode prog_11_method_24_code 8 = _
  decide +kernel
theorem d127_9 (L : Nat) (xs : Nat → Int32) : decode (ax_code (mgT L xs) 127) 9 = .ok (.if_icmp .ge 39, 3) := by
  show decode prog_11_method_24_code 9 = _
  decide +kernel
theorem d127_12 (L : Nat) (xs : Nat → Int32) : decode (ax_code (mgT L xs) 127) 12 = .ok (.aload_n 0, 1) := by
  show decode prog_11_method_24_code 12 = _
  decide +kernel
theorem d127_13 (L : Nat) (xs : Nat → Int32) : decode (ax_code (mgT L xs) 127) 13 = .ok (.getfield 16, 3) := by
  show decode prog_11_method_24_code 13 = _
  decide +kernel
theorem d127_16 (L : Nat) (xs : Nat → Int32) : decode (ax_code (mgT L xs) 127) 16 = .ok (.bipush 100, 2) := by
  show decode prog_11_method_24_code 16 = _
  decide +kernel
theorem d127_18 (L : Nat) (xs : Nat → Int32) : decode (ax_code (mgT L xs) 127) 18 = .ok (.iload_n 1, 1) := by
  show decode prog_11_method_24_code 18 = _
  decide +kernel
theorem d127_19 (L : Nat) (xs : Nat → Int32) : decode (ax_code (mgT L xs) 127) 19 = .ok (.imul, 1) := by
  show decode prog_11_method_24_code 19 = _
  decide +kernel
theorem d127_20 (L : Nat) (xs : Nat → Int32) : decode (ax_code (mgT L xs) 127) 20 = .ok (.iload_n 3, 1) := by
  show decode prog_11_method_24_code 20 = _
  decide +kernel
theorem d127_21 (L : Nat) (xs : Nat → Int32) : decode (ax_code (mgT L xs) 127) 21 = .ok (.aload_n 0, 1) := by
  show decode prog_11_method_24_code 21 = _
  decide +kernel
theorem d127_22 (L : Nat) (xs : Nat → Int32) : decode (ax_code (mgT L xs) 127) 22 = .ok (.getfield 19, 3) := by
  show decode prog_11_method_24_code 22 = _
  decide +kernel
theorem d127_25 (L : Nat) (xs : Nat → Int32) : decode (ax_code (mgT L xs) 127) 25 = .ok (.iload_n 1, 1) := by
  show decode prog_11_method_24_code 25 = _
  decide +kernel
theorem d127_26 (L : Nat) (xs : Nat → Int32) : decode (ax_code (mgT L xs) 127) 26 = .ok (.iaload, 1) := by
  show decode prog_11_method_24_code 26 = _
  decide +kernel
theorem d127_27 (L : Nat) (xs : Nat → Int32) : decode (ax_code (mgT L xs) 127) 27 = .ok (.if_icmp .ge 7, 3) := by
  show decode prog_11_method_24_code 27 = _
  decide +kernel
theorem d127_30 (L : Nat) (xs : Nat → Int32) : decode (ax_code (mgT L xs) 127) 30 = .ok (.iload_n 3, 1) := by
  show decode prog_11_method_24_code 30 = _
  decide +kernel
theorem d127_31 (L : Nat) (xs : Nat → Int32) : decode (ax_code (mgT L xs) 127) 31 = .ok (.goto 4, 3) := by
  show decode prog_11_method_24_code 31 = _
  decide +kernel
theorem d127_35 (L : Nat) (xs : Nat → Int32) : decode (ax_code (mgT L xs) 127) 35 = .ok (.iadd, 1) := by
  show decode prog_11_method_24_code 35 = _
  decide +kernel
theorem d127_36 (L : Nat) (xs : Nat → Int32) : decode (ax_code (mgT L xs) 127) 36 = .ok (.iaload, 1) := by
  show decode prog_11_method_24_code 36 = _
  decide +kernel
theorem d127_37 (L : Nat) (xs : Nat → Int32) : decode (ax_code (mgT L xs) 127) 37 = .ok (.bipush 32, 2) := by
  show decode prog_11_method_24_code 37 = _
  decide +kernel
theorem d127_39 (L : Nat) (xs : Nat → Int32) : decode (ax_code (mgT L xs) 127) 39 = .ok (.if_icmp .eq 9, 3) := by
  show decode prog_11_method_24_code 39 = _
  decide +kernel
theorem d127_42 (L : Nat) (xs : Nat → Int32) : decode (ax_code (mgT L xs) 127) 42 = .ok (.iinc 3 1, 3) := by
  show decode prog_11_method_24_code 42 = _
  decide +kernel
theorem d127_45 (L : Nat) (xs : Nat → Int32) : decode (ax_code (mgT L xs) 127) 45 = .ok (.goto (-43), 3) := by
  show decode prog_11_method_24_code 45 = _
  decide +kernel
theorem d127_48 (L : Nat) (xs : Nat → Int32) : decode (ax_code (mgT L xs) 127) 48 = .ok (.iload_n 3, 1) := by
  show decode prog_11_method_24_code 48 = _
  decide +kernel
theorem d127_49 (L : Nat) (xs : Nat → Int32) : decode (ax_code (mgT L xs) 127) 49 = .ok (.ireturn, 1) := by
  show decode prog_11_method_24_code 49 = _
  decide +kernel
theorem d128_0 (L : Nat) (xs : Nat → Int32) : decode (ax_code (mgT L xs) 128) 0 = .ok (.aload_n 0, 1) := by
  show decode prog_11_method_25_code 0 = _
  decide +kernel
theorem d128_1 (L : Nat) (xs : Nat → Int32) : decode (ax_code (mgT L xs) 128) 1 = .ok (.iload_n 1, 1) := by
  show decode prog_11_method_25_code 1 = _
  decide +kernel
theorem d128_2 (L : Nat) (xs : Nat → Int32) : decode (ax_code (mgT L xs) 128) 2 = .ok (.iload_n 2, 1) := by
  show decode prog_11_method_25_code 2 = _
  decide +kernel
theorem d128_3 (L : Nat) (xs : Nat → Int32) : decode (ax_code (mgT L xs) 128) 3 = .ok (.invokevirtual 166, 3) := by
  show decode prog_11_method_25_code 3 = _
  decide +kernel
theorem d128_6 (L : Nat) (xs : Nat → Int32) : decode (ax_code (mgT L xs) 128) 6 = .ok (.invokestatic 89, 3) := by
  show decode prog_11_method_25_code 6 = _
  decide +kernel
theorem d128_9 (L : Nat) (xs : Nat → Int32) : decode (ax_code (mgT L xs) 128) 9 = .ok (.ifCond .ne 5, 3) := by
  show decode prog_11_method_25_code 9 = _
  decide +kernel
theorem d128_12 (L : Nat) (xs : Nat → Int32) : decode (ax_code (mgT L xs) 128) 12 = .ok (.iconst (-1), 1) := by
  show decode prog_11_method_25_code 12 = _
  decide +kernel
theorem d128_13 (L : Nat) (xs : Nat → Int32) : decode (ax_code (mgT L xs) 128) 13 = .ok (.ireturn, 1) := by
  show decode prog_11_method_25_code 13 = _
  decide +kernel
theorem d128_14 (L : Nat) (xs : Nat → Int32) : decode (ax_code (mgT L xs) 128) 14 = .ok (.iload_n 2, 1) := by
  show decode prog_11_method_25_code 14 = _
  decide +kernel
theorem d128_15 (L : Nat) (xs : Nat → Int32) : decode (ax_code (mgT L xs) 128) 15 = .ok (.istore 4, 2) := by
  show decode prog_11_method_25_code 15 = _
  decide +kernel
theorem d128_17 (L : Nat) (xs : Nat → Int32) : decode (ax_code (mgT L xs) 128) 17 = .ok (.aload_n 0, 1) := by
  show decode prog_11_method_25_code 17 = _
  decide +kernel
theorem d128_18 (L : Nat) (xs : Nat → Int32) : decode (ax_code (mgT L xs) 128) 18 = .ok (.iload_n 1, 1) := by
  show decode prog_11_method_25_code 18 = _
  decide +kernel
theorem d128_19 (L : Nat) (xs : Nat → Int32) : decode (ax_code (mgT L xs) 128) 19 = .ok (.iload 4, 2) := by
  show decode prog_11_method_25_code 19 = _
  decide +kernel
theorem d128_21 (L : Nat) (xs : Nat → Int32) : decode (ax_code (mgT L xs) 128) 21 = .ok (.invokevirtual 166, 3) := by
  show decode prog_11_method_25_code 21 = _
  decide +kernel
theorem d128_24 (L : Nat) (xs : Nat → Int32) : decode (ax_code (mgT L xs) 128) 24 = .ok (.istore 5, 2) := by
  show decode prog_11_method_25_code 24 = _
  decide +kernel
theorem d128_26 (L : Nat) (xs : Nat → Int32) : decode (ax_code (mgT L xs) 128) 26 = .ok (.iload 4, 2) := by
  show decode prog_11_method_25_code 26 = _
  decide +kernel
theorem d128_28 (L : Nat) (xs : Nat → Int32) : decode (ax_code (mgT L xs) 128) 28 = .ok (.iload_n 3, 1) := by
  show decode prog_11_method_25_code 28 = _
  decide +kernel
theorem d128_29 (L : Nat) (xs : Nat → Int32) : decode (ax_code (mgT L xs) 128) 29 = .ok (.if_icmp .ge 55, 3) := by
  show decode prog_11_method_25_code 29 = _
  decide +kernel
theorem d128_32 (L : Nat) (xs : Nat → Int32) : decode (ax_code (mgT L xs) 128) 32 = .ok (.iload 5, 2) := by
  show decode prog_11_method_25_code 32 = _
  decide +kernel
theorem d128_34 (L : Nat) (xs : Nat → Int32) : decode (ax_code (mgT L xs) 128) 34 = .ok (.invokestatic 89, 3) := by
  show decode prog_11_method_25_code 34 = _
  decide +kernel
theorem d128_37 (L : Nat) (xs : Nat → Int32) : decode (ax_code (mgT L xs) 128) 37 = .ok (.ifCond .ne 32, 3) := by
  show decode prog_11_method_25_code 37 = _
  decide +kernel
theorem d128_40 (L : Nat) (xs : Nat → Int32) : decode (ax_code (mgT L xs) 128) 40 = .ok (.iload 5, 2) := by
  show decode prog_11_method_25_code 40 = _
  decide +kernel
theorem d128_42 (L : Nat) (xs : Nat → Int32) : decode (ax_code (mgT L xs) 128) 42 = .ok (.invokestatic 93, 3) := by
  show decode prog_11_method_25_code 42 = _
  decide +kernel
theorem d128_45 (L : Nat) (xs : Nat → Int32) : decode (ax_code (mgT L xs) 128) 45 = .ok (.ifCond .ne 24, 3) := by
  show decode prog_11_method_25_code 45 = _
  decide +kernel
theorem d128_48 (L : Nat) (xs : Nat → Int32) : decode (ax_code (mgT L xs) 128) 48 = .ok (.iload 5, 2) := by
  show decode prog_11_method_25_code 48 = _
  decide +kernel
theorem d128_50 (L : Nat) (xs : Nat → Int32) : decode (ax_code (mgT L xs) 128) 50 = .ok (.bipush 45, 2) := by
  show decode prog_11_method_25_code 50 = _
  decide +kernel
theorem d128_52 (L : Nat) (xs : Nat → Int32) : decode (ax_code (mgT L xs) 128) 52 = .ok (.if_icmp .eq 17, 3) := by
  show decode prog_11_method_25_code 52 = _
  decide +kernel
theorem d128_55 (L : Nat) (xs : Nat → Int32) : decode (ax_code (mgT L xs) 128) 55 = .ok (.iload 5, 2) := by
  show decode prog_11_method_25_code 55 = _
  decide +kernel
theorem d128_57 (L : Nat) (xs : Nat → Int32) : decode (ax_code (mgT L xs) 128) 57 = .ok (.bipush 95, 2) := by
  show decode prog_11_method_25_code 57 = _
  decide +kernel
theorem d128_59 (L : Nat) (xs : Nat → Int32) : decode (ax_code (mgT L xs) 128) 59 = .ok (.if_icmp .eq 10, 3) := by
  show decode prog_11_method_25_code 59 = _
  decide +kernel
theorem d128_62 (L : Nat) (xs : Nat → Int32) : decode (ax_code (mgT L xs) 128) 62 = .ok (.iload 5, 2) := by
  show decode prog_11_method_25_code 62 = _
  decide +kernel
theorem d128_64 (L : Nat) (xs : Nat → Int32) : decode (ax_code (mgT L xs) 128) 64 = .ok (.bipush 46, 2) := by
  show decode prog_11_method_25_code 64 = _
  decide +kernel
theorem d128_66 (L : Nat) (xs : Nat → Int32) : decode (ax_code (mgT L xs) 128) 66 = .ok (.if_icmp .ne 18, 3) := by
  show decode prog_11_method_25_code 66 = _
  decide +kernel
theorem d128_69 (L : Nat) (xs : Nat → Int32) : decode (ax_code (mgT L xs) 128) 69 = .ok (.iinc 4 1, 3) := by
  show decode prog_11_method_25_code 69 = _
  decide +kernel
theorem d128_72 (L : Nat) (xs : Nat → Int32) : decode (ax_code (mgT L xs) 128) 72 = .ok (.aload_n 0, 1) := by
  show decode prog_11_method_25_code 72 = _
  decide +kernel
theorem d128_73 (L : Nat) (xs : Nat → Int32) : decode (ax_code (mgT L xs) 128) 73 = .ok (.iload_n 1, 1) := by
  show decode prog_11_method_25_code 73 = _
  decide +kernel
theorem d128_74 (L : Nat) (xs : Nat → Int32) : decode (ax_code (mgT L xs) 128) 74 = .ok (.iload 4, 2) := by
  show decode prog_11_method_25_code 74 = _
  decide +kernel
theorem d128_76 (L : Nat) (xs : Nat → Int32) : decode (ax_code (mgT L xs) 128) 76 = .ok (.invokevirtual 166, 3) := by
  show decode prog_11_method_25_code 76 = _
  decide +kernel
theorem d128_79 (L : Nat) (xs : Nat → Int32) : decode (ax_code (mgT L xs) 128) 79 = .ok (.istore 5, 2) := by
  show decode prog_11_method_25_code 79 = _
  decide +kernel
theorem d128_81 (L : Nat) (xs : Nat → Int32) : decode (ax_code (mgT L xs) 128) 81 = .ok (.goto (-55), 3) := by
  show decode prog_11_method_25_code 81 = _
  decide +kernel
theorem d128_84 (L : Nat) (xs : Nat → Int32) : decode (ax_code (mgT L xs) 128) 84 = .ok (.iload 4, 2) := by
  show decode prog_11_method_25_code 84 = _
  decide +kernel
theorem d128_86 (L : Nat) (xs : Nat → Int32) : decode (ax_code (mgT L xs) 128) 86 = .ok (.iload_n 3, 1) := by
  show decode prog_11_method_25_code 86 = _
  decide +kernel
theorem d128_87 (L : Nat) (xs : Nat → Int32) : decode (ax_code (mgT L xs) 128) 87 = .ok (.if_icmp .ge 15, 3) := by
  show decode prog_11_method_25_code 87 = _
  decide +kernel
theorem d128_90 (L : Nat) (xs : Nat → Int32) : decode (ax_code (mgT L xs) 128) 90 = .ok (.iload 5, 2) := by
  show decode prog_11_method_25_code 90 = _
  decide +kernel
theorem d128_92 (L : Nat) (xs : Nat → Int32) : decode (ax_code (mgT L xs) 128) 92 = .ok (.bipush 61, 2) := by
  show decode prog_11_method_25_code 92 = _
  decide +kernel
theorem d128_94 (L : Nat) (xs : Nat → Int32) : decode (ax_code (mgT L xs) 128) 94 = .ok (.if_icmp .ne 8, 3) := by
  show decode prog_11_method_25_code 94 = _
  decide +kernel
theorem d128_97 (L : Nat) (xs : Nat → Int32) : decode (ax_code (mgT L xs) 128) 97 = .ok (.iload 4, 2) := by
  show decode prog_11_method_25_code 97 = _
  decide +kernel
theorem d128_99 (L : Nat) (xs : Nat → Int32) : decode (ax_code (mgT L xs) 128) 99 = .ok (.goto 4, 3) := by
  show decode prog_11_method_25_code 99 = _
  decide +kernel
theorem d128_102 (L : Nat) (xs : Nat → Int32) : decode (ax_code (mgT L xs) 128) 102 = .ok (.iconst (-1), 1) := by
  show decode prog_11_method_25_code 102 = _
  decide +kernel
theorem d128_103 (L : Nat) (xs : Nat → Int32) : decode (ax_code (mgT L xs) 128) 103 = .ok (.ireturn, 1) := by
  show decode prog_11_method_25_code 103 = _
  decide +kernel
theorem d131_0 (L : Nat) (xs : Nat → Int32) : decode (ax_code (mgT L xs) 131) 0 = .ok (.bipush 100, 2) := by
  show decode prog_11_method_15_code 0 = _
  decide +kernel
theorem d131_2 (L : Nat) (xs : Nat → Int32) : decode (ax_code (mgT L xs) 131) 2 = .ok (.iload_n 1, 1) := by
  show decode prog_11_method_15_code 2 = _
  decide +kernel
theorem d131_3 (L : Nat) (xs : Nat → Int32) : decode (ax_code (mgT L xs) 131) 3 = .ok (.imul, 1) := by
  show decode prog_11_method_15_code 3 = _
  decide +kernel
theorem d131_4 (L : Nat) (xs : Nat → Int32) : decode (ax_code (mgT L xs) 131) 4 = .ok (.istore 4, 2) := by
  show decode prog_11_method_15_code 4 = _
  decide +kernel
theorem d131_6 (L : Nat) (xs : Nat → Int32) : decode (ax_code (mgT L xs) 131) 6 = .ok (.iload_n 2, 1) := by
  show decode prog_11_method_15_code 6 = _
  decide +kernel
theorem d131_7 (L : Nat) (xs : Nat → Int32) : decode (ax_code (mgT L xs) 131) 7 = .ok (.iconst 1, 1) := by
  show decode prog_11_method_15_code 7 = _
  decide +kernel
theorem d131_8 (L : Nat) (xs : Nat → Int32) : decode (ax_code (mgT L xs) 131) 8 = .ok (.iadd, 1) := by
  show decode prog_11_method_15_code 8 = _
  decide +kernel
theorem d131_9 (L : Nat) (xs : Nat → Int32) : decode (ax_code (mgT L xs) 131) 9 = .ok (.iload_n 3, 1) := by
  show decode prog_11_method_15_code 9 = _
  decide +kernel
theorem d131_10 (L : Nat) (xs : Nat → Int32) : decode (ax_code (mgT L xs) 131) 10 = .ok (.if_icmp .ge 23, 3) := by
  show decode prog_11_method_15_code 10 = _
  decide +kernel
theorem d131_13 (L : Nat) (xs : Nat → Int32) : decode (ax_code (mgT L xs) 131) 13 = .ok (.aload_n 0, 1) := by
  show decode prog_11_method_15_code 13 = _
  decide +kernel
theorem d131_14 (L : Nat) (xs : Nat → Int32) : decode (ax_code (mgT L xs) 131) 14 = .ok (.getfield 16, 3) := by
  show decode prog_11_method_15_code 14 = _
  decide +kernel
theorem d131_17 (L : Nat) (xs : Nat → Int32) : decode (ax_code (mgT L xs) 131) 17 = .ok (.iload 4, 2) := by
  show decode prog_11_method_15_code 17 = _
  decide +kernel
theorem d131_19 (L : Nat) (xs : Nat → Int32) : decode (ax_code (mgT L xs) 131) 19 = .ok (.iload_n 2, 1) := by
  show decode prog_11_method_15_code 19 = _
  decide +kernel
theorem d131_20 (L : Nat) (xs : Nat → Int32) : decode (ax_code (mgT L xs) 131) 20 = .ok (.iadd, 1) := by
  show decode prog_11_method_15_code 20 = _
  decide +kernel
theorem d131_21 (L : Nat) (xs : Nat → Int32) : decode (ax_code (mgT L xs) 131) 21 = .ok (.iconst 1, 1) := by
  show decode prog_11_method_15_code 21 = _
  decide +kernel
theorem d131_22 (L : Nat) (xs : Nat → Int32) : decode (ax_code (mgT L xs) 131) 22 = .ok (.iadd, 1) := by
  show decode prog_11_method_15_code 22 = _
  decide +kernel
theorem d131_23 (L : Nat) (xs : Nat → Int32) : decode (ax_code (mgT L xs) 131) 23 = .ok (.iaload, 1) := by
  show decode prog_11_method_15_code 23 = _
  decide +kernel
theorem d131_24 (L : Nat) (xs : Nat → Int32) : decode (ax_code (mgT L xs) 131) 24 = .ok (.bipush 37, 2) := by
  show decode prog_11_method_15_code 24 = _
  decide +kernel
theorem d131_26 (L : Nat) (xs : Nat → Int32) : decode (ax_code (mgT L xs) 131) 26 = .ok (.if_icmp .ne 7, 3) := by
  show decode prog_11_method_15_code 26 = _
  decide +kernel
theorem d131_29 (L : Nat) (xs : Nat → Int32) : decode (ax_code (mgT L xs) 131) 29 = .ok (.iload_n 2, 1) := by
  show decode prog_11_method_15_code 29 = _
  decide +kernel
theorem d131_30 (L : Nat) (xs : Nat → Int32) : decode (ax_code (mgT L xs) 131) 30 = .ok (.iconst 2, 1) := by
  show decode prog_11_method_15_code 30 = _
  decide +kernel
theorem d131_31 (L : Nat) (xs : Nat → Int32) : decode (ax_code (mgT L xs) 131) 31 = .ok (.iadd, 1) := by
  show decode prog_11_method_15_code 31 = _
  decide +kernel
theorem d131_32 (L : Nat) (xs : Nat → Int32) : decode (ax_code (mgT L xs) 131) 32 = .ok (.ireturn, 1) := by
  show decode prog_11_method_15_code 32 = _
  decide +kernel
theorem d131_33 (L : Nat) (xs : Nat → Int32) : decode (ax_code (mgT L xs) 131) 33 = .ok (.iload_n 2, 1) := by
  show decode prog_11_method_15_code 33 = _
  decide +kernel
theorem d131_34 (L : Nat) (xs : Nat → Int32) : decode (ax_code (mgT L xs) 131) 34 = .ok (.iconst 3, 1) := by
  show decode prog_11_method_15_code 34 = _
  decide +kernel
theorem d131_35 (L : Nat) (xs : Nat → Int32) : decode (ax_code (mgT L xs) 131) 35 = .ok (.iadd, 1) := by
  show decode prog_11_method_15_code 35 = _
  decide +kernel
theorem d131_36 (L : Nat) (xs : Nat → Int32) : decode (ax_code (mgT L xs) 131) 36 = .ok (.iload_n 3, 1) := by
  show decode prog_11_method_15_code 36 = _
  decide +kernel
theorem d131_37 (L : Nat) (xs : Nat → Int32) : decode (ax_code (mgT L xs) 131) 37 = .ok (.if_icmp .ge 19, 3) := by
  show decode prog_11_method_15_code 37 = _
  decide +kernel
theorem d131_40 (L : Nat) (xs : Nat → Int32) : decode (ax_code (mgT L xs) 131) 40 = .ok (.aload_n 0, 1) := by
  show decode prog_11_method_15_code 40 = _
  decide +kernel
theorem d131_41 (L : Nat) (xs : Nat → Int32) : decode (ax_code (mgT L xs) 131) 41 = .ok (.getfield 16, 3) := by
  show decode prog_11_method_15_code 41 = _
  decide +kernel
theorem d131_44 (L : Nat) (xs : Nat → Int32) : decode (ax_code (mgT L xs) 131) 44 = .ok (.iload 4, 2) := by
  show decode prog_11_method_15_code 44 = _
  decide +kernel
theorem d131_46 (L : Nat) (xs : Nat → Int32) : decode (ax_code (mgT L xs) 131) 46 = .ok (.iload_n 2, 1) := by
  show decode prog_11_method_15_code 46 = _
  decide +kernel
theorem d131_47 (L : Nat) (xs : Nat → Int32) : decode (ax_code (mgT L xs) 131) 47 = .ok (.iadd, 1) := by
  show decode prog_11_method_15_code 47 = _
  decide +kernel
theorem d131_48 (L : Nat) (xs : Nat → Int32) : decode (ax_code (mgT L xs) 131) 48 = .ok (.iconst 1, 1) := by
  show decode prog_11_method_15_code 48 = _
  decide +kernel
theorem d131_49 (L : Nat) (xs : Nat → Int32) : decode (ax_code (mgT L xs) 131) 49 = .ok (.iadd, 1) := by
  show decode prog_11_method_15_code 49 = _
  decide +kernel
theorem d131_50 (L : Nat) (xs : Nat → Int32) : decode (ax_code (mgT L xs) 131) 50 = .ok (.iaload, 1) := by
  show decode prog_11_method_15_code 50 = _
  decide +kernel
theorem d131_51 (L : Nat) (xs : Nat → Int32) : decode (ax_code (mgT L xs) 131) 51 = .ok (.bipush 123, 2) := by
  show decode prog_11_method_15_code 51 = _
  decide +kernel
theorem d131_53 (L : Nat) (xs : Nat → Int32) : decode (ax_code (mgT L xs) 131) 53 = .ok (.if_icmp .eq 5, 3) := by
  show decode prog_11_method_15_code 53 = _
  decide +kernel
theorem d131_56 (L : Nat) (xs : Nat → Int32) : decode (ax_code (mgT L xs) 131) 56 = .ok (.iconst (-1), 1) := by
  show decode prog_11_method_15_code 56 = _
  decide +kernel
theorem d131_57 (L : Nat) (xs : Nat → Int32) : decode (ax_code (mgT L xs) 131) 57 = .ok (.ireturn, 1) := by
  show decode prog_11_method_15_code 57 = _
  decide +kernel
theorem d131_58 (L : Nat) (xs : Nat → Int32) : decode (ax_code (mgT L xs) 131) 58 = .ok (.aload_n 0, 1) := by
  show decode prog_11_method_15_code 58 = _
  decide +kernel
theorem d131_59 (L : Nat) (xs : Nat → Int32) : decode (ax_code (mgT L xs) 131) 59 = .ok (.getfield 16, 3) := by
  show decode prog_11_method_15_code 59 = _
  decide +kernel
theorem d131_62 (L : Nat) (xs : Nat → Int32) : decode (ax_code (mgT L xs) 131) 62 = .ok (.iload 4, 2) := by
  show decode prog_11_method_15_code 62 = _
  decide +kernel
theorem d131_64 (L : Nat) (xs : Nat → Int32) : decode (ax_code (mgT L xs) 131) 64 = .ok (.iload_n 2, 1) := by
  show decode prog_11_method_15_code 64 = _
  decide +kernel
theorem d131_65 (L : Nat) (xs : Nat → Int32) : decode (ax_code (mgT L xs) 131) 65 = .ok (.iadd, 1) := by
  show decode prog_11_method_15_code 65 = _
  decide +kernel
theorem d131_66 (L : Nat) (xs : Nat → Int32) : decode (ax_code (mgT L xs) 131) 66 = .ok (.iconst 2, 1) := by
  show decode prog_11_method_15_code 66 = _
  decide +kernel
theorem d131_67 (L : Nat) (xs : Nat → Int32) : decode (ax_code (mgT L xs) 131) 67 = .ok (.iadd, 1) := by
  show decode prog_11_method_15_code 67 = _
  decide +kernel
theorem d131_68 (L : Nat) (xs : Nat → Int32) : decode (ax_code (mgT L xs) 131) 68 = .ok (.iaload, 1) := by
  show decode prog_11_method_15_code 68 = _
  decide +kernel
theorem d131_69 (L : Nat) (xs : Nat → Int32) : decode (ax_code (mgT L xs) 131) 69 = .ok (.istore 5, 2) := by
  show decode prog_11_method_15_code 69 = _
  decide +kernel
theorem d131_71 (L : Nat) (xs : Nat → Int32) : decode (ax_code (mgT L xs) 131) 71 = .ok (.iload_n 2, 1) := by
  show decode prog_11_method_15_code 71 = _
  decide +kernel
theorem d131_72 (L : Nat) (xs : Nat → Int32) : decode (ax_code (mgT L xs) 131) 72 = .ok (.iconst 3, 1) := by
  show decode prog_11_method_15_code 72 = _
  decide +kernel
theorem d131_73 (L : Nat) (xs : Nat → Int32) : decode (ax_code (mgT L xs) 131) 73 = .ok (.iadd, 1) := by
  show decode prog_11_method_15_code 73 = _
  decide +kernel
theorem d131_74 (L : Nat) (xs : Nat → Int32) : decode (ax_code (mgT L xs) 131) 74 = .ok (.istore 6, 2) := by
  show decode prog_11_method_15_code 74 = _
  decide +kernel
theorem d131_76 (L : Nat) (xs : Nat → Int32) : decode (ax_code (mgT L xs) 131) 76 = .ok (.iload 5, 2) := by
  show decode prog_11_method_15_code 76 = _
  decide +kernel
theorem d131_78 (L : Nat) (xs : Nat → Int32) : decode (ax_code (mgT L xs) 131) 78 = .ok (.bipush 100, 2) := by
  show decode prog_11_method_15_code 78 = _
  decide +kernel
theorem d131_80 (L : Nat) (xs : Nat → Int32) : decode (ax_code (mgT L xs) 131) 80 = .ok (.if_icmp .eq 17, 3) := by
  show decode prog_11_method_15_code 80 = _
  decide +kernel
theorem d131_83 (L : Nat) (xs : Nat → Int32) : decode (ax_code (mgT L xs) 131) 83 = .ok (.iload 5, 2) := by
  show decode prog_11_method_15_code 83 = _
  decide +kernel
theorem d131_85 (L : Nat) (xs : Nat → Int32) : decode (ax_code (mgT L xs) 131) 85 = .ok (.bipush 105, 2) := by
  show decode prog_11_method_15_code 85 = _
  decide +kernel
theorem d131_87 (L : Nat) (xs : Nat → Int32) : decode (ax_code (mgT L xs) 131) 87 = .ok (.if_icmp .eq 10, 3) := by
  show decode prog_11_method_15_code 87 = _
  decide +kernel
theorem d131_90 (L : Nat) (xs : Nat → Int32) : decode (ax_code (mgT L xs) 131) 90 = .ok (.iload 5, 2) := by
  show decode prog_11_method_15_code 90 = _
  decide +kernel
theorem d131_92 (L : Nat) (xs : Nat → Int32) : decode (ax_code (mgT L xs) 131) 92 = .ok (.bipush 111, 2) := by
  show decode prog_11_method_15_code 92 = _
  decide +kernel
theorem d131_94 (L : Nat) (xs : Nat → Int32) : decode (ax_code (mgT L xs) 131) 94 = .ok (.if_icmp .ne 7, 3) := by
  show decode prog_11_method_15_code 94 = _
  decide +kernel
theorem d131_97 (L : Nat) (xs : Nat → Int32) : decode (ax_code (mgT L xs) 131) 97 = .ok (.iconst 1, 1) := by
  show decode prog_11_method_15_code 97 = _
  decide +kernel
theorem d131_98 (L : Nat) (xs : Nat → Int32) : decode (ax_code (mgT L xs) 131) 98 = .ok (.goto 4, 3) := by
  show decode prog_11_method_15_code 98 = _
  decide +kernel
theorem d131_101 (L : Nat) (xs : Nat → Int32) : decode (ax_code (mgT L xs) 131) 101 = .ok (.iconst 0, 1) := by
  show decode prog_11_method_15_code 101 = _
  decide +kernel
theorem d131_102 (L : Nat) (xs : Nat → Int32) : decode (ax_code (mgT L xs) 131) 102 = .ok (.istore 7, 2) := by
  show decode prog_11_method_15_code 102 = _
  decide +kernel
theorem d131_104 (L : Nat) (xs : Nat → Int32) : decode (ax_code (mgT L xs) 131) 104 = .ok (.iload 6, 2) := by
  show decode prog_11_method_15_code 104 = _
  decide +kernel
theorem d131_106 (L : Nat) (xs : Nat → Int32) : decode (ax_code (mgT L xs) 131) 106 = .ok (.iload_n 3, 1) := by
  show decode prog_11_method_15_code 106 = _
  decide +kernel
theorem d131_107 (L : Nat) (xs : Nat → Int32) : decode (ax_code (mgT L xs) 131) 107 = .ok (.if_icmp .ge 40, 3) := by
  show decode prog_11_method_15_code 107 = _
  decide +kernel
theorem d131_110 (L : Nat) (xs : Nat → Int32) : decode (ax_code (mgT L xs) 131) 110 = .ok (.aload_n 0, 1) := by
  show decode prog_11_method_15_code 110 = _
  decide +kernel
theorem d131_111 (L : Nat) (xs : Nat → Int32) : decode (ax_code (mgT L xs) 131) 111 = .ok (.getfield 16, 3) := by
  show decode prog_11_method_15_code 111 = _
  decide +kernel
theorem d131_114 (L : Nat) (xs : Nat → Int32) : decode (ax_code (mgT L xs) 131) 114 = .ok (.iload 4, 2) := by
  show decode prog_11_method_15_code 114 = _
  decide +kernel
theorem d131_116 (L : Nat) (xs : Nat → Int32) : decode (ax_code (mgT L xs) 131) 116 = .ok (.iload 6, 2) := by
  show decode prog_11_method_15_code 116 = _
  decide +kernel
theorem d131_118 (L : Nat) (xs : Nat → Int32) : decode (ax_code (mgT L xs) 131) 118 = .ok (.iadd, 1) := by
  show decode prog_11_method_15_code 118 = _
  decide +kernel
theorem d131_119 (L : Nat) (xs : Nat → Int32) : decode (ax_code (mgT L xs) 131) 119 = .ok (.iaload, 1) := by
  show decode prog_11_method_15_code 119 = _
  decide +kernel
theorem d131_120 (L : Nat) (xs : Nat → Int32) : decode (ax_code (mgT L xs) 131) 120 = .ok (.bipush 49, 2) := by
  show decode prog_11_method_15_code 120 = _
  decide +kernel
theorem d131_122 (L : Nat) (xs : Nat → Int32) : decode (ax_code (mgT L xs) 131) 122 = .ok (.if_icmp .lt 25, 3) := by
  show decode prog_11_method_15_code 122 = _
  decide +kernel
theorem d131_125 (L : Nat) (xs : Nat → Int32) : decode (ax_code (mgT L xs) 131) 125 = .ok (.aload_n 0, 1) := by
  show decode prog_11_method_15_code 125 = _
  decide +kernel
theorem d131_126 (L : Nat) (xs : Nat → Int32) : decode (ax_code (mgT L xs) 131) 126 = .ok (.getfield 16, 3) := by
  show decode prog_11_method_15_code 126 = _
  decide +kernel
theorem d131_129 (L : Nat) (xs : Nat → Int32) : decode (ax_code (mgT L xs) 131) 129 = .ok (.iload 4, 2) := by
  show decode prog_11_method_15_code 129 = _
  decide +kernel
theorem d131_131 (L : Nat) (xs : Nat → Int32) : decode (ax_code (mgT L xs) 131) 131 = .ok (.iload 6, 2) := by
  show decode prog_11_method_15_code 131 = _
  decide +kernel
theorem d131_133 (L : Nat) (xs : Nat → Int32) : decode (ax_code (mgT L xs) 131) 133 = .ok (.iadd, 1) := by
  show decode prog_11_method_15_code 133 = _
  decide +kernel
theorem d131_134 (L : Nat) (xs : Nat → Int32) : decode (ax_code (mgT L xs) 131) 134 = .ok (.iaload, 1) := by
  show decode prog_11_method_15_code 134 = _
  decide +kernel
theorem d131_135 (L : Nat) (xs : Nat → Int32) : decode (ax_code (mgT L xs) 131) 135 = .ok (.bipush 57, 2) := by
  show decode prog_11_method_15_code 135 = _
  decide +kernel
theorem d131_137 (L : Nat) (xs : Nat → Int32) : decode (ax_code (mgT L xs) 131) 137 = .ok (.if_icmp .gt 10, 3) := by
  show decode prog_11_method_15_code 137 = _
  decide +kernel
theorem d131_140 (L : Nat) (xs : Nat → Int32) : decode (ax_code (mgT L xs) 131) 140 = .ok (.iload 6, 2) := by
  show decode prog_11_method_15_code 140 = _
  decide +kernel
theorem d131_142 (L : Nat) (xs : Nat → Int32) : decode (ax_code (mgT L xs) 131) 142 = .ok (.iconst 1, 1) := by
  show decode prog_11_method_15_code 142 = _
  decide +kernel
theorem d131_143 (L : Nat) (xs : Nat → Int32) : decode (ax_code (mgT L xs) 131) 143 = .ok (.iadd, 1) := by
  show decode prog_11_method_15_code 143 = _
  decide +kernel
theorem d131_144 (L : Nat) (xs : Nat → Int32) : decode (ax_code (mgT L xs) 131) 144 = .ok (.goto 5, 3) := by
  show decode prog_11_method_15_code 144 = _
  decide +kernel
theorem d131_147 (L : Nat) (xs : Nat → Int32) : decode (ax_code (mgT L xs) 131) 147 = .ok (.iload 6, 2) := by
  show decode prog_11_method_15_code 147 = _
  decide +kernel
theorem d131_149 (L : Nat) (xs : Nat → Int32) : decode (ax_code (mgT L xs) 131) 149 = .ok (.istore 6, 2) := by
  show decode prog_11_method_15_code 149 = _
  decide +kernel
theorem d131_151 (L : Nat) (xs : Nat → Int32) : decode (ax_code (mgT L xs) 131) 151 = .ok (.iload 6, 2) := by
  show decode prog_11_method_15_code 151 = _
  decide +kernel
theorem d131_153 (L : Nat) (xs : Nat → Int32) : decode (ax_code (mgT L xs) 131) 153 = .ok (.iload_n 3, 1) := by
  show decode prog_11_method_15_code 153 = _
  decide +kernel
theorem d131_154 (L : Nat) (xs : Nat → Int32) : decode (ax_code (mgT L xs) 131) 154 = .ok (.if_icmp .ge 35, 3) := by
  show decode prog_11_method_15_code 154 = _
  decide +kernel
theorem d131_157 (L : Nat) (xs : Nat → Int32) : decode (ax_code (mgT L xs) 131) 157 = .ok (.aload_n 0, 1) := by
  show decode prog_11_method_15_code 157 = _
  decide +kernel
theorem d131_158 (L : Nat) (xs : Nat → Int32) : decode (ax_code (mgT L xs) 131) 158 = .ok (.getfield 16, 3) := by
  show decode prog_11_method_15_code 158 = _
  decide +kernel
theorem d131_161 (L : Nat) (xs : Nat → Int32) : decode (ax_code (mgT L xs) 131) 161 = .ok (.iload 4, 2) := by
  show decode prog_11_method_15_code 161 = _
  decide +kernel
theorem d131_163 (L : Nat) (xs : Nat → Int32) : decode (ax_code (mgT L xs) 131) 163 = .ok (.iload 6, 2) := by
  show decode prog_11_method_15_code 163 = _
  decide +kernel
theorem d131_165 (L : Nat) (xs : Nat → Int32) : decode (ax_code (mgT L xs) 131) 165 = .ok (.iload_n 3, 1) := by
  show decode prog_11_method_15_code 165 = _
  decide +kernel
theorem d131_166 (L : Nat) (xs : Nat → Int32) : decode (ax_code (mgT L xs) 131) 166 = .ok (.if_icmp .ge 8, 3) := by
  show decode prog_11_method_15_code 166 = _
  decide +kernel
theorem d131_169 (L : Nat) (xs : Nat → Int32) : decode (ax_code (mgT L xs) 131) 169 = .ok (.iload 6, 2) := by
  show decode prog_11_method_15_code 169 = _
  decide +kernel
theorem d131_171 (L : Nat) (xs : Nat → Int32) : decode (ax_code (mgT L xs) 131) 171 = .ok (.goto 4, 3) := by
  show decode prog_11_method_15_code 171 = _
  decide +kernel
theorem d131_175 (L : Nat) (xs : Nat → Int32) : decode (ax_code (mgT L xs) 131) 175 = .ok (.iadd, 1) := by
  show decode prog_11_method_15_code 175 = _
  decide +kernel
theorem d131_176 (L : Nat) (xs : Nat → Int32) : decode (ax_code (mgT L xs) 131) 176 = .ok (.iaload, 1) := by
  show decode prog_11_method_15_code 176 = _
  decide +kernel
theorem d131_177 (L : Nat) (xs : Nat → Int32) : decode (ax_code (mgT L xs) 131) 177 = .ok (.bipush 114, 2) := by
  show decode prog_11_method_15_code 177 = _
  decide +kernel
theorem d131_179 (L : Nat) (xs : Nat → Int32) : decode (ax_code (mgT L xs) 131) 179 = .ok (.if_icmp .ne 10, 3) := by
  show decode prog_11_method_15_code 179 = _
  decide +kernel
theorem d131_182 (L : Nat) (xs : Nat → Int32) : decode (ax_code (mgT L xs) 131) 182 = .ok (.iload 6, 2) := by
  show decode prog_11_method_15_code 182 = _
  decide +kernel
theorem d131_184 (L : Nat) (xs : Nat → Int32) : decode (ax_code (mgT L xs) 131) 184 = .ok (.iconst 1, 1) := by
  show decode prog_11_method_15_code 184 = _
  decide +kernel
theorem d131_185 (L : Nat) (xs : Nat → Int32) : decode (ax_code (mgT L xs) 131) 185 = .ok (.iadd, 1) := by
  show decode prog_11_method_15_code 185 = _
  decide +kernel
theorem d131_186 (L : Nat) (xs : Nat → Int32) : decode (ax_code (mgT L xs) 131) 186 = .ok (.goto 5, 3) := by
  show decode prog_11_method_15_code 186 = _
  decide +kernel
theorem d131_189 (L : Nat) (xs : Nat → Int32) : decode (ax_code (mgT L xs) 131) 189 = .ok (.iload 6, 2) := by
  show decode prog_11_method_15_code 189 = _
  decide +kernel
theorem d131_191 (L : Nat) (xs : Nat → Int32) : decode (ax_code (mgT L xs) 131) 191 = .ok (.istore 6, 2) := by
  show decode prog_11_method_15_code 191 = _
  decide +kernel
theorem d131_193 (L : Nat) (xs : Nat → Int32) : decode (ax_code (mgT L xs) 131) 193 = .ok (.iload 7, 2) := by
  show decode prog_11_method_15_code 193 = _
  decide +kernel
theorem d131_195 (L : Nat) (xs : Nat → Int32) : decode (ax_code (mgT L xs) 131) 195 = .ok (.ifCond .eq 41, 3) := by
  show decode prog_11_method_15_code 195 = _
  decide +kernel
theorem d131_198 (L : Nat) (xs : Nat → Int32) : decode (ax_code (mgT L xs) 131) 198 = .ok (.iload 6, 2) := by
  show decode prog_11_method_15_code 198 = _
  decide +kernel
theorem d131_200 (L : Nat) (xs : Nat → Int32) : decode (ax_code (mgT L xs) 131) 200 = .ok (.iload_n 3, 1) := by
  show decode prog_11_method_15_code 200 = _
  decide +kernel
theorem d131_201 (L : Nat) (xs : Nat → Int32) : decode (ax_code (mgT L xs) 131) 201 = .ok (.if_icmp .ge 35, 3) := by
  show decode prog_11_method_15_code 201 = _
  decide +kernel
theorem d131_204 (L : Nat) (xs : Nat → Int32) : decode (ax_code (mgT L xs) 131) 204 = .ok (.aload_n 0, 1) := by
  show decode prog_11_method_15_code 204 = _
  decide +kernel
theorem d131_205 (L : Nat) (xs : Nat → Int32) : decode (ax_code (mgT L xs) 131) 205 = .ok (.getfield 16, 3) := by
  show decode prog_11_method_15_code 205 = _
  decide +kernel
theorem d131_208 (L : Nat) (xs : Nat → Int32) : decode (ax_code (mgT L xs) 131) 208 = .ok (.iload 4, 2) := by
  show decode prog_11_method_15_code 208 = _
  decide +kernel
theorem d131_210 (L : Nat) (xs : Nat → Int32) : decode (ax_code (mgT L xs) 131) 210 = .ok (.iload 6, 2) := by
  show decode prog_11_method_15_code 210 = _
  decide +kernel
theorem d131_212 (L : Nat) (xs : Nat → Int32) : decode (ax_code (mgT L xs) 131) 212 = .ok (.iload_n 3, 1) := by
  show decode prog_11_method_15_code 212 = _
  decide +kernel
theorem d131_213 (L : Nat) (xs : Nat → Int32) : decode (ax_code (mgT L xs) 131) 213 = .ok (.if_icmp .ge 8, 3) := by
  show decode prog_11_method_15_code 213 = _
  decide +kernel
theorem d131_216 (L : Nat) (xs : Nat → Int32) : decode (ax_code (mgT L xs) 131) 216 = .ok (.iload 6, 2) := by
  show decode prog_11_method_15_code 216 = _
  decide +kernel
theorem d131_218 (L : Nat) (xs : Nat → Int32) : decode (ax_code (mgT L xs) 131) 218 = .ok (.goto 4, 3) := by
  show decode prog_11_method_15_code 218 = _
  decide +kernel
theorem d131_222 (L : Nat) (xs : Nat → Int32) : decode (ax_code (mgT L xs) 131) 222 = .ok (.iadd, 1) := by
  show decode prog_11_method_15_code 222 = _
  decide +kernel
theorem d131_223 (L : Nat) (xs : Nat → Int32) : decode (ax_code (mgT L xs) 131) 223 = .ok (.iaload, 1) := by
  show decode prog_11_method_15_code 223 = _
  decide +kernel
theorem d131_224 (L : Nat) (xs : Nat → Int32) : decode (ax_code (mgT L xs) 131) 224 = .ok (.bipush 125, 2) := by
  show decode prog_11_method_15_code 224 = _
  decide +kernel
theorem d131_226 (L : Nat) (xs : Nat → Int32) : decode (ax_code (mgT L xs) 131) 226 = .ok (.if_icmp .ne 10, 3) := by
  show decode prog_11_method_15_code 226 = _
  decide +kernel
theorem d131_229 (L : Nat) (xs : Nat → Int32) : decode (ax_code (mgT L xs) 131) 229 = .ok (.iload 6, 2) := by
  show decode prog_11_method_15_code 229 = _
  decide +kernel
theorem d131_231 (L : Nat) (xs : Nat → Int32) : decode (ax_code (mgT L xs) 131) 231 = .ok (.iconst 1, 1) := by
  show decode prog_11_method_15_code 231 = _
  decide +kernel
theorem d131_232 (L : Nat) (xs : Nat → Int32) : decode (ax_code (mgT L xs) 131) 232 = .ok (.iadd, 1) := by
  show decode prog_11_method_15_code 232 = _
  decide +kernel
theorem d131_233 (L : Nat) (xs : Nat → Int32) : decode (ax_code (mgT L xs) 131) 233 = .ok (.goto 4, 3) := by
  show decode prog_11_method_15_code 233 = _
  decide +kernel
theorem d131_236 (L : Nat) (xs : Nat → Int32) : decode (ax_code (mgT L xs) 131) 236 = .ok (.iconst (-1), 1) := by
  show decode prog_11_method_15_code 236 = _
  decide +kernel
theorem d131_237 (L : Nat) (xs : Nat → Int32) : decode (ax_code (mgT L xs) 131) 237 = .ok (.ireturn, 1) := by
  show decode prog_11_method_15_code 237 = _
  decide +kernel
/-- row r of the reference has the data D, from c on -/
def isRec (s : mg_s) (r c : Nat) (D : List Nat) : Prop := r < 16 ∧ 1 ≤ c ∧ c + D.length ≤ 100 ∧ (∀ x ∈ D, 32 ≤ x ∧ x < 127) ∧ s.2.1 146 r = nI (c - 1) ∧ s.2.1 145 r = nI (c + D.length) ∧ ∀ i, i < D.length → s.2.1 144 (100 * r + (c + i)) = nI (gl D i)
theorem isRec_of {s s' : mg_s} {r c : Nat} {D : List Nat} (h : isRec s r c D) (h1 : s'.2.1 144 = s.2.1 144) (h2 : s'.2.1 145 = s.2.1 145) (h3 : s'.2.1 146 = s.2.1 146) : isRec s' r c D :=
  ⟨h.1, h.2.1, h.2.2.1, h.2.2.2.1, by rw [h3]; exact h.2.2.2.2.1, by rw [h2]; exact h.2.2.2.2.2.1, by rw [h1]; exact h.2.2.2.2.2.2⟩
theorem isRec_tab {s : mg_s} {R : List rowT} {r : Nat} {q : rowT} (T : isTabM s R) (hr : R[r]? = some q) (h2 : q.1 ≤ 2) : isRec s r (q.2.1.length + 1) q.2.2.1 := by
  obtain ⟨q1, q2⟩ := T.2.2 r q hr
  have hr16 : r < 16 := Nat.lt_of_lt_of_le (List.getElem?_eq_some_iff.mp hr).1 T.2.1
  have hsz : rowsz q = q.2.1.length + 1 + q.2.2.1.length := if_pos h2
  have h100 := q2.2.2.2.2.2.1
  refine ⟨hr16, by omega, by omega, q2.2.2.2.2.2.2.2, by rw [Nat.add_sub_cancel]; exact q1.2.1, by rw [← hsz]; exact q1.2.2.1, fun i hi => ?_⟩
  have := q1.2.2.2.2.2.2 i hi
  rw [Nat.add_assoc] at this
  exact this
theorem rec_at {s : mg_s} {r c k i : Nat} {D : List Nat} (h : isRec s r c D) (hi : i < D.length) (hk : k = 100 * r + (c + i)) : s.2.1 144 k = nI (gl D i) := by rw [hk]; exact h.2.2.2.2.2.2 i hi
theorem rec_gl {s : mg_s} {r c : Nat} {D : List Nat} (h : isRec s r c D) (i : Nat) : gl D i < 127 := by
  unfold gl
  by_cases e : i < D.length
  · have : D.getD i 0 = D[i] := by simp [List.getD, e]
    rw [this]; exact (h.2.2.2.1 _ (List.getElem_mem e)).2
  · have : D.getD i 0 = 0 := by simp [List.getD, e]
    rw [this]; decide
theorem rec_ge {s : mg_s} {r c i : Nat} {D : List Nat} (h : isRec s r c D) (e : i < D.length) : 32 ≤ gl D i := by
  unfold gl
  have : D.getD i 0 = D[i] := by simp [List.getD, e]
  rw [this]; exact (h.2.2.2.1 _ (List.getElem_mem e)).1
/-- a letter of the data, a blank behind their end -/
def ga (D : List Nat) (i : Nat) : Nat := if i < D.length then gl D i else 32
theorem ga_in {D : List Nat} {i : Nat} (h : i < D.length) : ga D i = gl D i := if_pos h
theorem ga_out {D : List Nat} {i : Nat} (h : D.length ≤ i) : ga D i = 32 := if_neg (by omega)
theorem ga_lt {s : mg_s} {r c : Nat} {D : List Nat} (h : isRec s r c D) (i : Nat) : ga D i < 127 := by
  unfold ga
  have := rec_gl h i
  split <;> omega
def w3 (D : List Nat) (i x y z : Nat) : Bool := decide (ga D i = x) && (decide (ga D (i + 1) = y) && decide (ga D (i + 2) = z))
theorem w3_n (D : List Nat) (i x y z : Nat) : ((ga D i = x ∧ ga D (i + 1) = y ∧ ga D (i + 2) = z) ∧ bI (w3 D i x y z) = 1) ∨ (¬ (ga D i = x ∧ ga D (i + 1) = y ∧ ga D (i + 2) = z) ∧ bI (w3 D i x y z) = 0) := by
  unfold w3
  by_cases h1 : ga D i = x
  · by_cases h2 : ga D (i + 1) = y
    · by_cases h3 : ga D (i + 2) = z
      · left; exact ⟨⟨h1, h2, h3⟩, by rw [decide_eq_true h1, decide_eq_true h2, decide_eq_true h3]; rfl⟩
      · right; exact ⟨fun h => h3 h.2.2, by rw [decide_eq_false h3, Bool.and_false, Bool.and_false]; rfl⟩
    · right; exact ⟨fun h => h2 h.2.1, by rw [decide_eq_false h2, Bool.false_and, Bool.and_false]; rfl⟩
  · right; exact ⟨fun h => h1 h.1, by rw [decide_eq_false h1, Bool.false_and]; rfl⟩
section RC
variable {L : Nat} {xs : Nat → Int32} {d r c : Nat} {D : List Nat} {s : mg_s}
theorem md_at {k i : Nat} (hR : isRec s r c D) (hk : k = c + i) (hi : i < 2 ^ 20) : ca L xs (d + 1) 125 [.ref 141, .int (nI r), .int (nI k)] s (fun v s' => v = some (.int (nI (ga D i))) ∧ s = s') := by
  refine wg_call (Nat.le_of_ble_eq_true rfl) ?_
  have hr16 := hR.1
  have hc1 := hR.2.1
  have hcl := hR.2.2.1
  have hg := rec_gl hR i
  show wp L xs d 125 0 [some (.ref 141), some (.int (nI r)), some (.int (nI k))] [] s _
  refine wg_iload_n (d125_0 L xs) rfl ?_
  refine wg_aload_n (d125_1 L xs) rfl ?_
  refine wg_get (d125_2 L xs) (kd := 1) (cj := 9) (k0 := 6) rfl (Or.inl rfl) (by decide) rfl rfl ?_
  refine wg_iload_n (d125_5 L xs) rfl ?_
  refine wg_iald (d125_6 L xs) (n := 16) (by decide) rfl (vp_in_nI (n := r) (by omega) (by omega)) ?_
  refine wg_top (y := (nI (c + D.length))) (by rw [nI_nat (n := r) (by omega)]; exact hR.2.2.2.2.2.1) ?_
  refine wn_icmp_ge (d125_7 L xs) (x := k) (y := c + D.length) (by omega) (by omega) (t := 24) (by decide) (fun h1 => ?_) (fun h1 => ?_)
  · refine wg_bipush (d125_24 L xs) (x := 32) (by decide) ?_
    exact wg_iret (d125_26 L xs) rfl rfl ⟨by rw [ga, if_neg (by omega)]; rfl, rfl⟩
  · refine wg_aload_n (d125_10 L xs) rfl ?_
    refine wg_get (d125_11 L xs) (kd := 1) (cj := 9) (k0 := 5) rfl (Or.inl rfl) (by decide) rfl rfl ?_
    refine wg_bipush (d125_14 L xs) (x := 100) (by decide) ?_
    refine wg_iload_n (d125_16 L xs) rfl ?_
    refine wg_imul (d125_17 L xs) ?_
    refine wg_top (y := (nI (100 * r))) (pk_mul 100 r) ?_
    refine wg_iload_n (d125_18 L xs) rfl ?_
    refine wg_iadd (d125_19 L xs) ?_
    refine wg_top (y := (nI ((100 * r) + k))) (nI_add (100 * r) k) ?_
    refine wg_iald (d125_20 L xs) (n := 1600) (by decide) rfl (vp_in_nI (n := (100 * r) + k) (by omega) (by omega)) ?_
    refine wg_top (y := (nI (gl D i))) (by rw [nI_nat (n := (100 * r) + k) (by omega)]; exact (rec_at hR (i := i) (by omega) (by omega))) ?_
    refine wg_goto (d125_21 L xs) (t := 26) (by decide) ?_
    exact wg_iret (d125_26 L xs) rfl rfl ⟨by rw [ga, if_pos (by omega)], rfl⟩
theorem md_word {k i x y z : Nat} (hR : isRec s r c D) (hk : k = c + i) (hi : i < 2 ^ 19) (hx : x < 2 ^ 20) (hy : y < 2 ^ 20) (hz : z < 2 ^ 20) : ca L xs (d + 2) 124 [.ref 141, .int (nI r), .int (nI k), .int (nI x), .int (nI y), .int (nI z)] s (fun v s' => v = some (.int (nI (bI (w3 D i x y z)))) ∧ s = s') := by
  refine wg_call (Nat.le_of_ble_eq_true rfl) ?_
  have hr16 := hR.1
  have hc1 := hR.2.1
  have hcl := hR.2.2.1
  have hw := w3_n D i x y z
  have hg0 := ga_lt hR i
  have hg1 := ga_lt hR (i + 1)
  have hg2 := ga_lt hR (i + 2)
  show wp L xs (d + 1) 124 0 [some (.ref 141), some (.int (nI r)), some (.int (nI k)), some (.int (nI x)), some (.int (nI y)), some (.int (nI z))] [] s _
  refine wg_aload_n (d124_0 L xs) rfl ?_
  refine wg_iload_n (d124_1 L xs) rfl ?_
  refine wg_iload_n (d124_2 L xs) rfl ?_
  refine wg_invv (d124_3 L xs) (kd := 7) (mj := 125) (n := 2) rfl (Or.inl rfl) (ys := [.int (nI k), .int (nI r)]) (r := []) rfl rfl (by decide) rfl rfl (Nat.le_of_ble_eq_true rfl) (md_at (i := i) hR (by omega) (by omega)) ?_
  rintro _ _ ⟨rfl, rfl⟩
  refine wg_iload_n (d124_6 L xs) rfl ?_
  refine wn_icmp_ne (d124_7 L xs) (x := ga D i) (y := x) (by omega) (by omega) (t := 40) (by decide) (fun h1 => ?_) (fun h1 => ?_)
  · refine wg_iconst (d124_40 L xs) (x := 0) (by decide) ?_
    exact wg_iret (d124_41 L xs) rfl rfl ⟨by rw [show bI (w3 D i x y z) = 0 by omega]; rfl, rfl⟩
  · refine wg_aload_n (d124_10 L xs) rfl ?_
    refine wg_iload_n (d124_11 L xs) rfl ?_
    refine wg_iload_n (d124_12 L xs) rfl ?_
    refine wg_iconst (d124_13 L xs) (x := 1) (by decide) ?_
    refine wg_iadd (d124_14 L xs) ?_
    refine wg_top (y := (nI (k + 1))) (nI_add k 1) ?_
    refine wg_invv (d124_15 L xs) (kd := 7) (mj := 125) (n := 2) rfl (Or.inl rfl) (ys := [.int (nI (k + 1)), .int (nI r)]) (r := []) rfl rfl (by decide) rfl rfl (Nat.le_of_ble_eq_true rfl) (md_at (i := i + 1) hR (by omega) (by omega)) ?_
    rintro _ _ ⟨rfl, rfl⟩
    refine wg_iload (d124_18 L xs) rfl ?_
    refine wn_icmp_ne (d124_20 L xs) (x := ga D (i + 1)) (y := y) (by omega) (by omega) (t := 40) (by decide) (fun h2 => ?_) (fun h2 => ?_)
    · refine wg_iconst (d124_40 L xs) (x := 0) (by decide) ?_
      exact wg_iret (d124_41 L xs) rfl rfl ⟨by rw [show bI (w3 D i x y z) = 0 by omega]; rfl, rfl⟩
    · refine wg_aload_n (d124_23 L xs) rfl ?_
      refine wg_iload_n (d124_24 L xs) rfl ?_
      refine wg_iload_n (d124_25 L xs) rfl ?_
      refine wg_iconst (d124_26 L xs) (x := 2) (by decide) ?_
      refine wg_iadd (d124_27 L xs) ?_
      refine wg_top (y := (nI (k + 2))) (nI_add k 2) ?_
      refine wg_invv (d124_28 L xs) (kd := 7) (mj := 125) (n := 2) rfl (Or.inl rfl) (ys := [.int (nI (k + 2)), .int (nI r)]) (r := []) rfl rfl (by decide) rfl rfl (Nat.le_of_ble_eq_true rfl) (md_at (i := i + 2) hR (by omega) (by omega)) ?_
      rintro _ _ ⟨rfl, rfl⟩
      refine wg_iload (d124_31 L xs) rfl ?_
      refine wn_icmp_ne (d124_33 L xs) (x := ga D (i + 2)) (y := z) (by omega) (by omega) (t := 40) (by decide) (fun h3 => ?_) (fun h3 => ?_)
      · refine wg_iconst (d124_40 L xs) (x := 0) (by decide) ?_
        exact wg_iret (d124_41 L xs) rfl rfl ⟨by rw [show bI (w3 D i x y z) = 0 by omega]; rfl, rfl⟩
      · refine wg_iconst (d124_36 L xs) (x := 1) (by decide) ?_
        refine wg_goto (d124_37 L xs) (t := 41) (by decide) ?_
        exact wg_iret (d124_41 L xs) rfl rfl ⟨by rw [show bI (w3 D i x y z) = 1 by omega]; rfl, rfl⟩
theorem md_tend_l {k0 : Nat} (hR : isRec s r c D) : ∀ (m i : Nat), i + m = D.length → wp L xs d 127 2 [some (.ref 141), some (.int (nI r)), some (.int (nI k0)), some (.int (nI (c + i)))] [] s (fun v s' => v = some (.int (nI (c + f_find (gl D) 32 i m))) ∧ s = s') := by
  have hr16 := hR.1
  have hc1 := hR.2.1
  have hcl := hR.2.2.1
  intro m
  induction m with
  | zero =>
    intro i hi
    refine wg_iload_n (d127_2 L xs) rfl ?_
    refine wg_aload_n (d127_3 L xs) rfl ?_
    refine wg_get (d127_4 L xs) (kd := 1) (cj := 9) (k0 := 6) rfl (Or.inl rfl) (by decide) rfl rfl ?_
    refine wg_iload_n (d127_7 L xs) rfl ?_
    refine wg_iald (d127_8 L xs) (n := 16) (by decide) rfl (vp_in_nI (n := r) (by omega) (by omega)) ?_
    refine wg_top (y := (nI (c + D.length))) (by rw [nI_nat (n := r) (by omega)]; exact hR.2.2.2.2.2.1) ?_
    refine wn_icmp_ge (d127_9 L xs) (x := c + i) (y := c + D.length) (by omega) (by omega) (t := 48) (by decide) (fun h1 => ?_) (fun h1 => by omega)
    refine wg_iload_n (d127_48 L xs) rfl ?_
    exact wg_iret (d127_49 L xs) rfl rfl ⟨rfl, rfl⟩
  | succ m ih =>
    intro i hi
    have hg := rec_gl hR i
    rw [f_find]
    refine wg_iload_n (d127_2 L xs) rfl ?_
    refine wg_aload_n (d127_3 L xs) rfl ?_
    refine wg_get (d127_4 L xs) (kd := 1) (cj := 9) (k0 := 6) rfl (Or.inl rfl) (by decide) rfl rfl ?_
    refine wg_iload_n (d127_7 L xs) rfl ?_
    refine wg_iald (d127_8 L xs) (n := 16) (by decide) rfl (vp_in_nI (n := r) (by omega) (by omega)) ?_
    refine wg_top (y := (nI (c + D.length))) (by rw [nI_nat (n := r) (by omega)]; exact hR.2.2.2.2.2.1) ?_
    refine wn_icmp_ge (d127_9 L xs) (x := c + i) (y := c + D.length) (by omega) (by omega) (t := 48) (by decide) (fun h1 => by omega) (fun h1 => ?_)
    refine wg_aload_n (d127_12 L xs) rfl ?_
    refine wg_get (d127_13 L xs) (kd := 1) (cj := 9) (k0 := 5) rfl (Or.inl rfl) (by decide) rfl rfl ?_
    refine wg_bipush (d127_16 L xs) (x := 100) (by decide) ?_
    refine wg_iload_n (d127_18 L xs) rfl ?_
    refine wg_imul (d127_19 L xs) ?_
    refine wg_top (y := (nI (100 * r))) (pk_mul 100 r) ?_
    refine wg_iload_n (d127_20 L xs) rfl ?_
    refine wg_aload_n (d127_21 L xs) rfl ?_
    refine wg_get (d127_22 L xs) (kd := 1) (cj := 9) (k0 := 6) rfl (Or.inl rfl) (by decide) rfl rfl ?_
    refine wg_iload_n (d127_25 L xs) rfl ?_
    refine wg_iald (d127_26 L xs) (n := 16) (by decide) rfl (vp_in_nI (n := r) (by omega) (by omega)) ?_
    refine wg_top (y := (nI (c + D.length))) (by rw [nI_nat (n := r) (by omega)]; exact hR.2.2.2.2.2.1) ?_
    refine wn_icmp_ge (d127_27 L xs) (x := c + i) (y := c + D.length) (by omega) (by omega) (t := 34) (by decide) (fun h2 => by omega) (fun h2 => ?_)
    refine wg_iload_n (d127_30 L xs) rfl ?_
    refine wg_goto (d127_31 L xs) (t := 35) (by decide) ?_
    refine wg_iadd (d127_35 L xs) ?_
    refine wg_top (y := (nI ((100 * r) + (c + i)))) (nI_add (100 * r) (c + i)) ?_
    refine wg_iald (d127_36 L xs) (n := 1600) (by decide) rfl (vp_in_nI (n := (100 * r) + (c + i)) (by omega) (by omega)) ?_
    refine wg_top (y := (nI (gl D i))) (by rw [nI_nat (n := (100 * r) + (c + i)) (by omega)]; exact (rec_at hR (i := i) (by omega) (by omega))) ?_
    refine wg_bipush (d127_37 L xs) (x := 32) (by decide) ?_
    refine wn_icmp_eq (d127_39 L xs) (x := gl D i) (y := 32) (by omega) (by omega) (t := 48) (by decide) (fun h3 => ?_) (fun h3 => ?_)
    · refine wg_iload_n (d127_48 L xs) rfl ?_
      exact wg_iret (d127_49 L xs) rfl rfl ⟨by rw [if_pos (by omega)], rfl⟩
    · refine wg_iinc (d127_42 L xs) (y := (nI (c + i + 1))) (ls' := [some (.ref 141), some (.int (nI r)), some (.int (nI k0)), some (.int (nI (c + i + 1)))]) rfl (nI_add (c + i) 1) rfl ?_
      refine wg_goto (d127_45 L xs) (t := 2) (by decide) ?_
      rw [if_neg (by omega)]; exact ih (i + 1) (by omega)
theorem md_tend {i : Nat} (hR : isRec s r c D) (hi : i ≤ D.length) : ca L xs (d + 1) 127 [.ref 141, .int (nI r), .int (nI (c + i))] s (fun v s' => v = some (.int (nI (c + f_find (gl D) 32 i (D.length - i)))) ∧ s = s') := by
  refine wg_call (Nat.le_of_ble_eq_true rfl) ?_
  show wp L xs d 127 0 [some (.ref 141), some (.int (nI r)), some (.int (nI (c + i))), none] [] s _
  refine wg_iload_n (d127_0 L xs) rfl ?_
  refine wg_istore_n (d127_1 L xs) (ls' := [some (.ref 141), some (.int (nI r)), some (.int (nI (c + i))), some (.int (nI (c + i)))]) (Nat.le_of_ble_eq_true rfl) rfl ?_
  exact md_tend_l hR _ i (by omega)
theorem is_lab {x : Nat} (h : (¬ bI (c_let x) = 0 ∨ ¬ bI (c_dig x) = 0 ∨ x = 45 ∨ x = 95) ∨ x = 46) : ¬ x = 61 ∧ (x = 46 ∨ c_lab x = true) := by
  refine ⟨fun e => ?_, ?_⟩
  · subst e
    revert h
    decide
  · rcases h with h | h
    · exact Or.inr (lab_t h)
    · exact Or.inl h
theorem no_lab {x : Nat} (h1 : bI (c_let x) = 0) (h2 : bI (c_dig x) = 0) (h3 : ¬ x = 45) (h4 : ¬ x = 95) (h5 : ¬ x = 46) : ¬ (x = 46 ∨ c_lab x = true) := by
  rintro (h | h)
  · exact h5 h
  · unfold c_lab at h
    have e1 := bI_f h1
    have e2 := bI_f h2
    unfold c_let at e1
    unfold c_dig at e2
    rw [e1, e2, decide_eq_false h3, decide_eq_false h4] at h
    cases h
theorem md_mod_l {k0 j : Nat} (hR : isRec s r c D) (hj : j ≤ D.length) : ∀ (m i : Nat), i + m = j → wp L xs (d + 1) 128 26 [some (.ref 141), some (.int (nI r)), some (.int (nI k0)), some (.int (nI (c + j))), some (.int (nI (c + i))), some (.int (nI (ga D i)))] [] s (fun v s' => v = some (.int (oI ((f_mod (gl D) i m).map (fun e => c + e)))) ∧ s = s') := by
  have hr16 := hR.1
  have hc1 := hR.2.1
  have hcl := hR.2.2.1
  intro m
  induction m with
  | zero =>
    intro i hi
    have hg := ga_lt hR i
    refine wg_iload (d128_26 L xs) rfl ?_
    refine wg_iload_n (d128_28 L xs) rfl ?_
    refine wn_icmp_ge (d128_29 L xs) (x := c + i) (y := c + j) (by omega) (by omega) (t := 84) (by decide) (fun h1 => ?_) (fun h1 => by omega)
    refine wg_iload (d128_84 L xs) rfl ?_
    refine wg_iload_n (d128_86 L xs) rfl ?_
    refine wn_icmp_ge (d128_87 L xs) (x := c + i) (y := c + j) (by omega) (by omega) (t := 102) (by decide) (fun h2 => ?_) (fun h2 => by omega)
    refine wg_iconst (d128_102 L xs) (x := (-1)) (by decide) ?_
    exact wg_iret (d128_103 L xs) rfl rfl ⟨rfl, rfl⟩
  | succ m ih =>
    intro i hi
    have hg := ga_lt hR i
    have hgi := ga_in (D := D) (i := i) (by omega)
    have hb1 := bI_lt (c_let (ga D i))
    have hb2 := bI_lt (c_dig (ga D i))
    rw [f_mod]
    refine wg_iload (d128_26 L xs) rfl ?_
    refine wg_iload_n (d128_28 L xs) rfl ?_
    refine wn_icmp_ge (d128_29 L xs) (x := c + i) (y := c + j) (by omega) (by omega) (t := 84) (by decide) (fun h1 => by omega) (fun h1 => ?_)
    refine wg_iload (d128_32 L xs) rfl ?_
    refine wg_invs (d128_34 L xs) (kd := 6) (mj := 111) (n := 1) rfl (Or.inl rfl) (ys := [.int (nI (ga D i))]) (r := []) rfl rfl (Nat.le_of_ble_eq_true rfl) (md_let (by omega)) ?_
    rintro _ _ ⟨rfl, rfl⟩
    refine wn_if_ne (d128_37 L xs) (x := bI (c_let (ga D i))) (by omega) (t := 69) (by decide) (fun h2 => ?_) (fun h2 => ?_)
    · refine wg_iinc (d128_69 L xs) (y := (nI (c + i + 1))) (ls' := [some (.ref 141), some (.int (nI r)), some (.int (nI k0)), some (.int (nI (c + j))), some (.int (nI (c + i + 1))), some (.int (nI (ga D i)))]) rfl (nI_add (c + i) 1) rfl ?_
      refine wg_aload_n (d128_72 L xs) rfl ?_
      refine wg_iload_n (d128_73 L xs) rfl ?_
      refine wg_iload (d128_74 L xs) rfl ?_
      refine wg_invv (d128_76 L xs) (kd := 7) (mj := 125) (n := 2) rfl (Or.inl rfl) (ys := [.int (nI (c + i + 1)), .int (nI r)]) (r := []) rfl rfl (by decide) rfl rfl (Nat.le_of_ble_eq_true rfl) (md_at (i := i + 1) hR (by omega) (by omega)) ?_
      rintro _ _ ⟨rfl, rfl⟩
      refine wg_istore (d128_79 L xs) (ls' := [some (.ref 141), some (.int (nI r)), some (.int (nI k0)), some (.int (nI (c + j))), some (.int (nI (c + i + 1))), some (.int (nI (ga D (i + 1))))]) (Nat.le_of_ble_eq_true rfl) rfl ?_
      refine wg_goto (d128_81 L xs) (t := 26) (by decide) ?_
      have h9 := is_lab (x := ga D i) (by omega)
      rw [hgi] at h9
      rw [if_neg h9.1, if_pos h9.2]
      exact ih (i + 1) (by omega)
    · refine wg_iload (d128_40 L xs) rfl ?_
      refine wg_invs (d128_42 L xs) (kd := 6) (mj := 112) (n := 1) rfl (Or.inl rfl) (ys := [.int (nI (ga D i))]) (r := []) rfl rfl (Nat.le_of_ble_eq_true rfl) (md_dig (by omega)) ?_
      rintro _ _ ⟨rfl, rfl⟩
      refine wn_if_ne (d128_45 L xs) (x := bI (c_dig (ga D i))) (by omega) (t := 69) (by decide) (fun h3 => ?_) (fun h3 => ?_)
      · refine wg_iinc (d128_69 L xs) (y := (nI (c + i + 1))) (ls' := [some (.ref 141), some (.int (nI r)), some (.int (nI k0)), some (.int (nI (c + j))), some (.int (nI (c + i + 1))), some (.int (nI (ga D i)))]) rfl (nI_add (c + i) 1) rfl ?_
        refine wg_aload_n (d128_72 L xs) rfl ?_
        refine wg_iload_n (d128_73 L xs) rfl ?_
        refine wg_iload (d128_74 L xs) rfl ?_
        refine wg_invv (d128_76 L xs) (kd := 7) (mj := 125) (n := 2) rfl (Or.inl rfl) (ys := [.int (nI (c + i + 1)), .int (nI r)]) (r := []) rfl rfl (by decide) rfl rfl (Nat.le_of_ble_eq_true rfl) (md_at (i := i + 1) hR (by omega) (by omega)) ?_
        rintro _ _ ⟨rfl, rfl⟩
        refine wg_istore (d128_79 L xs) (ls' := [some (.ref 141), some (.int (nI r)), some (.int (nI k0)), some (.int (nI (c + j))), some (.int (nI (c + i + 1))), some (.int (nI (ga D (i + 1))))]) (Nat.le_of_ble_eq_true rfl) rfl ?_
        refine wg_goto (d128_81 L xs) (t := 26) (by decide) ?_
        have h9 := is_lab (x := ga D i) (by omega)
        rw [hgi] at h9
        rw [if_neg h9.1, if_pos h9.2]
        exact ih (i + 1) (by omega)
      · refine wg_iload (d128_48 L xs) rfl ?_
        refine wg_bipush (d128_50 L xs) (x := 45) (by decide) ?_
        refine wn_icmp_eq (d128_52 L xs) (x := ga D i) (y := 45) (by omega) (by omega) (t := 69) (by decide) (fun h4 => ?_) (fun h4 => ?_)
        · refine wg_iinc (d128_69 L xs) (y := (nI (c + i + 1))) (ls' := [some (.ref 141), some (.int (nI r)), some (.int (nI k0)), some (.int (nI (c + j))), some (.int (nI (c + i + 1))), some (.int (nI (ga D i)))]) rfl (nI_add (c + i) 1) rfl ?_
          refine wg_aload_n (d128_72 L xs) rfl ?_
          refine wg_iload_n (d128_73 L xs) rfl ?_
          refine wg_iload (d128_74 L xs) rfl ?_
          refine wg_invv (d128_76 L xs) (kd := 7) (mj := 125) (n := 2) rfl (Or.inl rfl) (ys := [.int (nI (c + i + 1)), .int (nI r)]) (r := []) rfl rfl (by decide) rfl rfl (Nat.le_of_ble_eq_true rfl) (md_at (i := i + 1) hR (by omega) (by omega)) ?_
          rintro _ _ ⟨rfl, rfl⟩
          refine wg_istore (d128_79 L xs) (ls' := [some (.ref 141), some (.int (nI r)), some (.int (nI k0)), some (.int (nI (c + j))), some (.int (nI (c + i + 1))), some (.int (nI (ga D (i + 1))))]) (Nat.le_of_ble_eq_true rfl) rfl ?_
          refine wg_goto (d128_81 L xs) (t := 26) (by decide) ?_
          have h9 := is_lab (x := ga D i) (by omega)
          rw [hgi] at h9
          rw [if_neg h9.1, if_pos h9.2]
          exact ih (i + 1) (by omega)
        · refine wg_iload (d128_55 L xs) rfl ?_
          refine wg_bipush (d128_57 L xs) (x := 95) (by decide) ?_
          refine wn_icmp_eq (d128_59 L xs) (x := ga D i) (y := 95) (by omega) (by omega) (t := 69) (by decide) (fun h5 => ?_) (fun h5 => ?_)
          · refine wg_iinc (d128_69 L xs) (y := (nI (c + i + 1))) (ls' := [some (.ref 141), some (.int (nI r)), some (.int (nI k0)), some (.int (nI (c + j))), some (.int (nI (c + i + 1))), some (.int (nI (ga D i)))]) rfl (nI_add (c + i) 1) rfl ?_
            refine wg_aload_n (d128_72 L xs) rfl ?_
            refine wg_iload_n (d128_73 L xs) rfl ?_
            refine wg_iload (d128_74 L xs) rfl ?_
            refine wg_invv (d128_76 L xs) (kd := 7) (mj := 125) (n := 2) rfl (Or.inl rfl) (ys := [.int (nI (c + i + 1)), .int (nI r)]) (r := []) rfl rfl (by decide) rfl rfl (Nat.le_of_ble_eq_true rfl) (md_at (i := i + 1) hR (by omega) (by omega)) ?_
            rintro _ _ ⟨rfl, rfl⟩
            refine wg_istore (d128_79 L xs) (ls' := [some (.ref 141), some (.int (nI r)), some (.int (nI k0)), some (.int (nI (c + j))), some (.int (nI (c + i + 1))), some (.int (nI (ga D (i + 1))))]) (Nat.le_of_ble_eq_true rfl) rfl ?_
            refine wg_goto (d128_81 L xs) (t := 26) (by decide) ?_
            have h9 := is_lab (x := ga D i) (by omega)
            rw [hgi] at h9
            rw [if_neg h9.1, if_pos h9.2]
            exact ih (i + 1) (by omega)
          · refine wg_iload (d128_62 L xs) rfl ?_
            refine wg_bipush (d128_64 L xs) (x := 46) (by decide) ?_
            refine wn_icmp_ne (d128_66 L xs) (x := ga D i) (y := 46) (by omega) (by omega) (t := 84) (by decide) (fun h6 => ?_) (fun h6 => ?_)
            · refine wg_iload (d128_84 L xs) rfl ?_
              refine wg_iload_n (d128_86 L xs) rfl ?_
              refine wn_icmp_ge (d128_87 L xs) (x := c + i) (y := c + j) (by omega) (by omega) (t := 102) (by decide) (fun h7 => by omega) (fun h7 => ?_)
              refine wg_iload (d128_90 L xs) rfl ?_
              refine wg_bipush (d128_92 L xs) (x := 61) (by decide) ?_
              refine wn_icmp_ne (d128_94 L xs) (x := ga D i) (y := 61) (by omega) (by omega) (t := 102) (by decide) (fun h8 => ?_) (fun h8 => ?_)
              · refine wg_iconst (d128_102 L xs) (x := (-1)) (by decide) ?_
                exact wg_iret (d128_103 L xs) rfl rfl ⟨by rw [if_neg (by omega), if_neg (by rw [← hgi]; exact no_lab (by omega) (by omega) (by omega) (by omega) (by omega))]; rfl, rfl⟩
              · refine wg_iload (d128_97 L xs) rfl ?_
                refine wg_goto (d128_99 L xs) (t := 103) (by decide) ?_
                exact wg_iret (d128_103 L xs) rfl rfl ⟨by rw [if_pos (by omega)]; rfl, rfl⟩
            · refine wg_iinc (d128_69 L xs) (y := (nI (c + i + 1))) (ls' := [some (.ref 141), some (.int (nI r)), some (.int (nI k0)), some (.int (nI (c + j))), some (.int (nI (c + i + 1))), some (.int (nI (ga D i)))]) rfl (nI_add (c + i) 1) rfl ?_
              refine wg_aload_n (d128_72 L xs) rfl ?_
              refine wg_iload_n (d128_73 L xs) rfl ?_
              refine wg_iload (d128_74 L xs) rfl ?_
              refine wg_invv (d128_76 L xs) (kd := 7) (mj := 125) (n := 2) rfl (Or.inl rfl) (ys := [.int (nI (c + i + 1)), .int (nI r)]) (r := []) rfl rfl (by decide) rfl rfl (Nat.le_of_ble_eq_true rfl) (md_at (i := i + 1) hR (by omega) (by omega)) ?_
              rintro _ _ ⟨rfl, rfl⟩
              refine wg_istore (d128_79 L xs) (ls' := [some (.ref 141), some (.int (nI r)), some (.int (nI k0)), some (.int (nI (c + j))), some (.int (nI (c + i + 1))), some (.int (nI (ga D (i + 1))))]) (Nat.le_of_ble_eq_true rfl) rfl ?_
              refine wg_goto (d128_81 L xs) (t := 26) (by decide) ?_
              have h9 := is_lab (x := ga D i) (by omega)
              rw [hgi] at h9
              rw [if_neg h9.1, if_pos h9.2]
              exact ih (i + 1) (by omega)
theorem md_mod {i j : Nat} (hR : isRec s r c D) (hj : j ≤ D.length) (hi : i < j) : ca L xs (d + 2) 128 [.ref 141, .int (nI r), .int (nI (c + i)), .int (nI (c + j))] s (fun v s' => v = some (.int (oI ((t_mod (gl D) i j).map (fun e => c + e)))) ∧ s = s') := by
  refine wg_call (Nat.le_of_ble_eq_true rfl) ?_
  have hr16 := hR.1
  have hc1 := hR.2.1
  have hcl := hR.2.2.1
  have hg := ga_lt hR i
  have hb1 := bI_lt (c_let (ga D i))
  show wp L xs (d + 1) 128 0 [some (.ref 141), some (.int (nI r)), some (.int (nI (c + i))), some (.int (nI (c + j))), none, none] [] s _
  refine wg_aload_n (d128_0 L xs) rfl ?_
  refine wg_iload_n (d128_1 L xs) rfl ?_
  refine wg_iload_n (d128_2 L xs) rfl ?_
  refine wg_invv (d128_3 L xs) (kd := 7) (mj := 125) (n := 2) rfl (Or.inl rfl) (ys := [.int (nI (c + i)), .int (nI r)]) (r := []) rfl rfl (by decide) rfl rfl (Nat.le_of_ble_eq_true rfl) (md_at (i := i) hR (by omega) (by omega)) ?_
  rintro _ _ ⟨rfl, rfl⟩
  refine wg_invs (d128_6 L xs) (kd := 6) (mj := 111) (n := 1) rfl (Or.inl rfl) (ys := [.int (nI (ga D i))]) (r := []) rfl rfl (Nat.le_of_ble_eq_true rfl) (md_let (by omega)) ?_
  rintro _ _ ⟨rfl, rfl⟩
  refine wn_if_ne (d128_9 L xs) (x := bI (c_let (ga D i))) (by omega) (t := 14) (by decide) (fun h1 => ?_) (fun h1 => ?_)
  · refine wg_iload_n (d128_14 L xs) rfl ?_
    refine wg_istore (d128_15 L xs) (ls' := [some (.ref 141), some (.int (nI r)), some (.int (nI (c + i))), some (.int (nI (c + j))), some (.int (nI (c + i))), none]) (Nat.le_of_ble_eq_true rfl) rfl ?_
    refine wg_aload_n (d128_17 L xs) rfl ?_
    refine wg_iload_n (d128_18 L xs) rfl ?_
    refine wg_iload (d128_19 L xs) rfl ?_
    refine wg_invv (d128_21 L xs) (kd := 7) (mj := 125) (n := 2) rfl (Or.inl rfl) (ys := [.int (nI (c + i)), .int (nI r)]) (r := []) rfl rfl (by decide) rfl rfl (Nat.le_of_ble_eq_true rfl) (md_at (i := i) hR (by omega) (by omega)) ?_
    rintro _ _ ⟨rfl, rfl⟩
    refine wg_istore (d128_24 L xs) (ls' := [some (.ref 141), some (.int (nI r)), some (.int (nI (c + i))), some (.int (nI (c + j))), some (.int (nI (c + i))), some (.int (nI (ga D i)))]) (Nat.le_of_ble_eq_true rfl) rfl ?_
    have hlet := bI_t (b := c_let (ga D i)) (by omega); rw [t_mod, ← ga_in (D := D) (i := i) (by omega), if_pos (bI_t (by omega))]; have h9 := md_mod_l (L := L) (xs := xs) (d := d) (k0 := c + i) (j := j) hR hj (j - i) i (by omega); rw [show j - i = (j - (i + 1)) + 1 by omega, f_mod, if_neg (by rw [← ga_in (D := D) (i := i) (by omega)]; intro e; rw [e] at hlet; cases hlet), if_pos (Or.inr (by rw [← ga_in (D := D) (i := i) (by omega)]; exact lab_t (Or.inl (by omega))))] at h9; exact h9
  · refine wg_iconst (d128_12 L xs) (x := (-1)) (by decide) ?_
    exact wg_iret (d128_13 L xs) rfl rfl ⟨by rw [t_mod, ← ga_in (D := D) (i := i) (by omega), if_neg (by rw [bI_f (b := c_let (ga D i)) (by omega)]; decide)]; rfl, rfl⟩
theorem oI_map_n {o : Option Nat} {f : Nat → Nat} (h : o = none) : oI (o.map f) = -1 := by rw [h]; rfl
theorem oI_map_s {o : Option Nat} {f : Nat → Nat} {e : Nat} (h : o = some e) : oI (o.map f) = nI (f e) := by rw [h]; rfl
def mc3 (D : List Nat) (j : Nat) (gd : Bool) (p : Nat) : Option Nat := if gd = true ∧ p < j ∧ gl D p = 125 then some p else none
def mc2 (D : List Nat) (j : Nat) (gd : Bool) (p : Nat) : Option Nat := mc3 D j gd (if p < j ∧ gl D p = 114 then p + 1 else p)
def mc1 (D : List Nat) (i j : Nat) (gd : Bool) : Option Nat := mc2 D j gd (if i + 3 < j ∧ 49 ≤ gl D (i + 3) ∧ gl D (i + 3) ≤ 57 then i + 4 else i + 3)
theorem md_mac3 {i j p : Nat} {gd : Bool} {x5 : Nat} (hR : isRec s r c D) (hj : j ≤ D.length) (hp : p ≤ j + 1) : wp L xs d 131 193 [some (.ref 141), some (.int (nI r)), some (.int (nI (c + i))), some (.int (nI (c + j))), some (.int (nI (100 * r))), some (.int (nI x5)), some (.int (nI (c + p))), some (.int (nI (bI gd)))] [] s (fun v s' => v = some (.int (oI ((mc3 D j gd p).map (fun e => c + e + 1)))) ∧ s = s') := by
  have hr16 := hR.1
  have hc1 := hR.2.1
  have hcl := hR.2.2.1
  have hb := bI_lt gd
  have hg := rec_gl hR p
  refine wg_iload (d131_193 L xs) rfl ?_
  refine wn_if_eq (d131_195 L xs) (x := bI gd) (by omega) (t := 236) (by decide) (fun h1 => ?_) (fun h1 => ?_)
  · refine wg_iconst (d131_236 L xs) (x := (-1)) (by decide) ?_
    exact wg_iret (d131_237 L xs) rfl rfl ⟨by rw [oI_map_n (by rw [mc3, if_neg (fun h => by have h7 := h.1; first | omega | (rw [bI_f (b := gd) (by omega)] at h7; cases h7))])], rfl⟩
  · refine wg_iload (d131_198 L xs) rfl ?_
    refine wg_iload_n (d131_200 L xs) rfl ?_
    refine wn_icmp_ge (d131_201 L xs) (x := c + p) (y := c + j) (by omega) (by omega) (t := 236) (by decide) (fun h2 => ?_) (fun h2 => ?_)
    · refine wg_iconst (d131_236 L xs) (x := (-1)) (by decide) ?_
      exact wg_iret (d131_237 L xs) rfl rfl ⟨by rw [oI_map_n (by rw [mc3, if_neg (fun h => by have h7 := h.1; first | omega | (rw [bI_f (b := gd) (by omega)] at h7; cases h7))])], rfl⟩
    · refine wg_aload_n (d131_204 L xs) rfl ?_
      refine wg_get (d131_205 L xs) (kd := 1) (cj := 9) (k0 := 5) rfl (Or.inl rfl) (by decide) rfl rfl ?_
      refine wg_iload (d131_208 L xs) rfl ?_
      refine wg_iload (d131_210 L xs) rfl ?_
      refine wg_iload_n (d131_212 L xs) rfl ?_
      refine wn_icmp_ge (d131_213 L xs) (x := c + p) (y := c + j) (by omega) (by omega) (t := 221) (by decide) (fun h3 => by omega) (fun h3 => ?_)
      refine wg_iload (d131_216 L xs) rfl ?_
      refine wg_goto (d131_218 L xs) (t := 222) (by decide) ?_
      refine wg_iadd (d131_222 L xs) ?_
      refine wg_top (y := (nI ((100 * r) + (c + p)))) (nI_add (100 * r) (c + p)) ?_
      refine wg_iald (d131_223 L xs) (n := 1600) (by decide) rfl (vp_in_nI (n := (100 * r) + (c + p)) (by omega) (by omega)) ?_
      refine wg_top (y := (nI (gl D p))) (by rw [nI_nat (n := (100 * r) + (c + p)) (by omega)]; exact (rec_at hR (i := p) (by omega) (by omega))) ?_
      refine wg_bipush (d131_224 L xs) (x := 125) (by decide) ?_
      refine wn_icmp_ne (d131_226 L xs) (x := gl D p) (y := 125) (by omega) (by omega) (t := 236) (by decide) (fun h4 => ?_) (fun h4 => ?_)
      · refine wg_iconst (d131_236 L xs) (x := (-1)) (by decide) ?_
        exact wg_iret (d131_237 L xs) rfl rfl ⟨by rw [oI_map_n (by rw [mc3, if_neg (fun h => by have h7 := h.1; first | omega | (rw [bI_f (b := gd) (by omega)] at h7; cases h7))])], rfl⟩
      · refine wg_iload (d131_229 L xs) rfl ?_
        refine wg_iconst (d131_231 L xs) (x := 1) (by decide) ?_
        refine wg_iadd (d131_232 L xs) ?_
        refine wg_top (y := (nI (c + p + 1))) (nI_add (c + p) 1) ?_
        refine wg_goto (d131_233 L xs) (t := 237) (by decide) ?_
        exact wg_iret (d131_237 L xs) rfl rfl ⟨by rw [oI_map_s (e := p) (by rw [mc3, if_pos ⟨bI_t (by omega), by omega, by omega⟩])], rfl⟩
theorem md_mac2 {i j p : Nat} {gd : Bool} {x5 : Nat} (hR : isRec s r c D) (hj : j ≤ D.length) (hp : p ≤ j) : wp L xs d 131 151 [some (.ref 141), some (.int (nI r)), some (.int (nI (c + i))), some (.int (nI (c + j))), some (.int (nI (100 * r))), some (.int (nI x5)), some (.int (nI (c + p))), some (.int (nI (bI gd)))] [] s (fun v s' => v = some (.int (oI ((mc2 D j gd p).map (fun e => c + e + 1)))) ∧ s = s') := by
  have hr16 := hR.1
  have hc1 := hR.2.1
  have hcl := hR.2.2.1
  have hg := rec_gl hR p
  refine wg_iload (d131_151 L xs) rfl ?_
  refine wg_iload_n (d131_153 L xs) rfl ?_
  refine wn_icmp_ge (d131_154 L xs) (x := c + p) (y := c + j) (by omega) (by omega) (t := 189) (by decide) (fun h1 => ?_) (fun h1 => ?_)
  · refine wg_iload (d131_189 L xs) rfl ?_
    refine wg_istore (d131_191 L xs) (ls' := [some (.ref 141), some (.int (nI r)), some (.int (nI (c + i))), some (.int (nI (c + j))), some (.int (nI (100 * r))), some (.int (nI x5)), some (.int (nI (c + p))), some (.int (nI (bI gd)))]) (Nat.le_of_ble_eq_true rfl) rfl ?_
    rw [mc2, if_neg (by omega)]; exact md_mac3 hR hj (by omega)
  · refine wg_aload_n (d131_157 L xs) rfl ?_
    refine wg_get (d131_158 L xs) (kd := 1) (cj := 9) (k0 := 5) rfl (Or.inl rfl) (by decide) rfl rfl ?_
    refine wg_iload (d131_161 L xs) rfl ?_
    refine wg_iload (d131_163 L xs) rfl ?_
    refine wg_iload_n (d131_165 L xs) rfl ?_
    refine wn_icmp_ge (d131_166 L xs) (x := c + p) (y := c + j) (by omega) (by omega) (t := 174) (by decide) (fun h2 => by omega) (fun h2 => ?_)
    refine wg_iload (d131_169 L xs) rfl ?_
    refine wg_goto (d131_171 L xs) (t := 175) (by decide) ?_
    refine wg_iadd (d131_175 L xs) ?_
    refine wg_top (y := (nI ((100 * r) + (c + p)))) (nI_add (100 * r) (c + p)) ?_
    refine wg_iald (d131_176 L xs) (n := 1600) (by decide) rfl (vp_in_nI (n := (100 * r) + (c + p)) (by omega) (by omega)) ?_
    refine wg_top (y := (nI (gl D p))) (by rw [nI_nat (n := (100 * r) + (c + p)) (by omega)]; exact (rec_at hR (i := p) (by omega) (by omega))) ?_
    refine wg_bipush (d131_177 L xs) (x := 114) (by decide) ?_
    refine wn_icmp_ne (d131_179 L xs) (x := gl D p) (y := 114) (by omega) (by omega) (t := 189) (by decide) (fun h3 => ?_) (fun h3 => ?_)
    · refine wg_iload (d131_189 L xs) rfl ?_
      refine wg_istore (d131_191 L xs) (ls' := [some (.ref 141), some (.int (nI r)), some (.int (nI (c + i))), some (.int (nI (c + j))), some (.int (nI (100 * r))), some (.int (nI x5)), some (.int (nI (c + p))), some (.int (nI (bI gd)))]) (Nat.le_of_ble_eq_true rfl) rfl ?_
      rw [mc2, if_neg (by omega)]; exact md_mac3 hR hj (by omega)
    · refine wg_iload (d131_182 L xs) rfl ?_
      refine wg_iconst (d131_184 L xs) (x := 1) (by decide) ?_
      refine wg_iadd (d131_185 L xs) ?_
      refine wg_top (y := (nI (c + p + 1))) (nI_add (c + p) 1) ?_
      refine wg_goto (d131_186 L xs) (t := 191) (by decide) ?_
      refine wg_istore (d131_191 L xs) (ls' := [some (.ref 141), some (.int (nI r)), some (.int (nI (c + i))), some (.int (nI (c + j))), some (.int (nI (100 * r))), some (.int (nI x5)), some (.int (nI (c + p + 1))), some (.int (nI (bI gd)))]) (Nat.le_of_ble_eq_true rfl) rfl ?_
      rw [mc2, if_pos (by omega)]; exact md_mac3 (p := p + 1) hR hj (by omega)
theorem md_mac1 {i j : Nat} {gd : Bool} {x5 : Nat} (hR : isRec s r c D) (hj : j ≤ D.length) (hi : i + 3 < j) : wp L xs d 131 104 [some (.ref 141), some (.int (nI r)), some (.int (nI (c + i))), some (.int (nI (c + j))), some (.int (nI (100 * r))), some (.int (nI x5)), some (.int (nI (c + i + 3))), some (.int (nI (bI gd)))] [] s (fun v s' => v = some (.int (oI ((mc1 D i j gd).map (fun e => c + e + 1)))) ∧ s = s') := by
  have hr16 := hR.1
  have hc1 := hR.2.1
  have hcl := hR.2.2.1
  have hg := rec_gl hR (i + 3)
  refine wg_iload (d131_104 L xs) rfl ?_
  refine wg_iload_n (d131_106 L xs) rfl ?_
  refine wn_icmp_ge (d131_107 L xs) (x := c + i + 3) (y := c + j) (by omega) (by omega) (t := 147) (by decide) (fun h1 => ?_) (fun h1 => ?_)
  · refine wg_iload (d131_147 L xs) rfl ?_
    refine wg_istore (d131_149 L xs) (ls' := [some (.ref 141), some (.int (nI r)), some (.int (nI (c + i))), some (.int (nI (c + j))), some (.int (nI (100 * r))), some (.int (nI x5)), some (.int (nI (c + i + 3))), some (.int (nI (bI gd)))]) (Nat.le_of_ble_eq_true rfl) rfl ?_
    rw [mc1, if_neg (by omega)]; exact md_mac2 (p := i + 3) hR hj (by omega)
  · refine wg_aload_n (d131_110 L xs) rfl ?_
    refine wg_get (d131_111 L xs) (kd := 1) (cj := 9) (k0 := 5) rfl (Or.inl rfl) (by decide) rfl rfl ?_
    refine wg_iload (d131_114 L xs) rfl ?_
    refine wg_iload (d131_116 L xs) rfl ?_
    refine wg_iadd (d131_118 L xs) ?_
    refine wg_top (y := (nI ((100 * r) + (c + i + 3)))) (nI_add (100 * r) (c + i + 3)) ?_
    refine wg_iald (d131_119 L xs) (n := 1600) (by decide) rfl (vp_in_nI (n := (100 * r) + (c + i + 3)) (by omega) (by omega)) ?_
    refine wg_top (y := (nI (gl D (i + 3)))) (by rw [nI_nat (n := (100 * r) + (c + i + 3)) (by omega)]; exact (rec_at hR (i := i + 3) (by omega) (by omega))) ?_
    refine wg_bipush (d131_120 L xs) (x := 49) (by decide) ?_
    refine wn_icmp_lt (d131_122 L xs) (x := gl D (i + 3)) (y := 49) (by omega) (by omega) (t := 147) (by decide) (fun h2 => ?_) (fun h2 => ?_)
    · refine wg_iload (d131_147 L xs) rfl ?_
      refine wg_istore (d131_149 L xs) (ls' := [some (.ref 141), some (.int (nI r)), some (.int (nI (c + i))), some (.int (nI (c + j))), some (.int (nI (100 * r))), some (.int (nI x5)), some (.int (nI (c + i + 3))), some (.int (nI (bI gd)))]) (Nat.le_of_ble_eq_true rfl) rfl ?_
      rw [mc1, if_neg (by omega)]; exact md_mac2 (p := i + 3) hR hj (by omega)
    · refine wg_aload_n (d131_125 L xs) rfl ?_
      refine wg_get (d131_126 L xs) (kd := 1) (cj := 9) (k0 := 5) rfl (Or.inl rfl) (by decide) rfl rfl ?_
      refine wg_iload (d131_129 L xs) rfl ?_
      refine wg_iload (d131_131 L xs) rfl ?_
      refine wg_iadd (d131_133 L xs) ?_
      refine wg_top (y := (nI ((100 * r) + (c + i + 3)))) (nI_add (100 * r) (c + i + 3)) ?_
      refine wg_iald (d131_134 L xs) (n := 1600) (by decide) rfl (vp_in_nI (n := (100 * r) + (c + i + 3)) (by omega) (by omega)) ?_
      refine wg_top (y := (nI (gl D (i + 3)))) (by rw [nI_nat (n := (100 * r) + (c + i + 3)) (by omega)]; exact (rec_at hR (i := i + 3) (by omega) (by omega))) ?_
      refine wg_bipush (d131_135 L xs) (x := 57) (by decide) ?_
      refine wn_icmp_gt (d131_137 L xs) (x := gl D (i + 3)) (y := 57) (by omega) (by omega) (t := 147) (by decide) (fun h3 => ?_) (fun h3 => ?_)
      · refine wg_iload (d131_147 L xs) rfl ?_
        refine wg_istore (d131_149 L xs) (ls' := [some (.ref 141), some (.int (nI r)), some (.int (nI (c + i))), some (.int (nI (c + j))), some (.int (nI (100 * r))), some (.int (nI x5)), some (.int (nI (c + i + 3))), some (.int (nI (bI gd)))]) (Nat.le_of_ble_eq_true rfl) rfl ?_
        rw [mc1, if_neg (by omega)]; exact md_mac2 (p := i + 3) hR hj (by omega)
      · refine wg_iload (d131_140 L xs) rfl ?_
        refine wg_iconst (d131_142 L xs) (x := 1) (by decide) ?_
        refine wg_iadd (d131_143 L xs) ?_
        refine wg_top (y := (nI (c + i + 4))) (nI_add (c + i + 3) 1) ?_
        refine wg_goto (d131_144 L xs) (t := 149) (by decide) ?_
        refine wg_istore (d131_149 L xs) (ls' := [some (.ref 141), some (.int (nI r)), some (.int (nI (c + i))), some (.int (nI (c + j))), some (.int (nI (100 * r))), some (.int (nI x5)), some (.int (nI (c + i + 4))), some (.int (nI (bI gd)))]) (Nat.le_of_ble_eq_true rfl) rfl ?_
        rw [mc1, if_pos (by omega)]; exact md_mac2 (p := i + 4) hR hj (by omega)
theorem mac_eq {i j : Nat} {gd : Bool} (h3 : i + 3 < j) (h1 : gl D (i + 1) = 123) (hg : gd = true ↔ (gl D (i + 2) = 100 ∨ gl D (i + 2) = 105 ∨ gl D (i + 2) = 111)) : t_mac (gl D) i j = mc1 D i j gd := by
  obtain ⟨p, hp⟩ : ∃ p, p = (if i + 3 < j ∧ 49 ≤ gl D (i + 3) ∧ gl D (i + 3) ≤ 57 then i + 4 else i + 3) := ⟨_, rfl⟩
  have e1 : m_e2 (gl D) i = if gl D p = 114 then p + 1 else p := by
    unfold m_e2
    by_cases c1 : 49 ≤ gl D (i + 3) ∧ gl D (i + 3) ≤ 57
    · rw [if_pos ⟨h3, c1⟩] at hp
      rw [if_pos c1, hp]
    · rw [if_neg (fun h => c1 h.2)] at hp
      rw [if_neg c1, hp]
  unfold t_mac mc1 mc2 mc3
  rw [if_pos h1, ← hp, e1]
  by_cases c3 : p < j
  · have e2 : (if p < j ∧ gl D p = 114 then p + 1 else p) = (if gl D p = 114 then p + 1 else p) := by
      by_cases c2 : gl D p = 114
      · rw [if_pos ⟨c3, c2⟩, if_pos c2]
      · rw [if_neg (fun h => c2 h.2), if_neg c2]
    rw [e2]
    generalize (if gl D p = 114 then p + 1 else p) = e
    by_cases c4 : (gl D (i + 2) = 100 ∨ gl D (i + 2) = 105 ∨ gl D (i + 2) = 111) ∧ e < j ∧ gl D e = 125
    · rw [if_pos c4, if_pos ⟨hg.mpr c4.1, c4.2⟩]
    · rw [if_neg c4, if_neg (fun h => c4 ⟨hg.mp h.1, h.2⟩)]
  · rw [if_neg (fun h => by have h7 := h.2.1; revert h7; split <;> omega), if_neg (fun h => by have h7 := h.2.1; revert h7; split <;> omega)]
theorem md_mac {i j : Nat} (hR : isRec s r c D) (hj : j ≤ D.length) (hi : i < j) : ca L xs (d + 1) 131 [.ref 141, .int (nI r), .int (nI (c + i)), .int (nI (c + j))] s (fun v s' => v = some (.int (oI ((t_mac (gl D) i j).map (fun e => c + e + 1)))) ∧ s = s') := by
  refine wg_call (Nat.le_of_ble_eq_true rfl) ?_
  have hr16 := hR.1
  have hc1 := hR.2.1
  have hcl := hR.2.2.1
  have hg1 := rec_gl hR (i + 1)
  have hg2 := rec_gl hR (i + 2)
  have hg3 := rec_gl hR (i + 3)
  show wp L xs d 131 0 [some (.ref 141), some (.int (nI r)), some (.int (nI (c + i))), some (.int (nI (c + j))), none, none, none, none] [] s _
  refine wg_bipush (d131_0 L xs) (x := 100) (by decide) ?_
  refine wg_iload_n (d131_2 L xs) rfl ?_
  refine wg_imul (d131_3 L xs) ?_
  refine wg_top (y := (nI (100 * r))) (pk_mul 100 r) ?_
  refine wg_istore (d131_4 L xs) (ls' := [some (.ref 141), some (.int (nI r)), some (.int (nI (c + i))), some (.int (nI (c + j))), some (.int (nI (100 * r))), none, none, none]) (Nat.le_of_ble_eq_true rfl) rfl ?_
  refine wg_iload_n (d131_6 L xs) rfl ?_
  refine wg_iconst (d131_7 L xs) (x := 1) (by decide) ?_
  refine wg_iadd (d131_8 L xs) ?_
  refine wg_top (y := (nI (c + i + 1))) (nI_add (c + i) 1) ?_
  refine wg_iload_n (d131_9 L xs) rfl ?_
  refine wn_icmp_ge (d131_10 L xs) (x := c + i + 1) (y := c + j) (by omega) (by omega) (t := 33) (by decide) (fun h1 => ?_) (fun h1 => ?_)
  · refine wg_iload_n (d131_33 L xs) rfl ?_
    refine wg_iconst (d131_34 L xs) (x := 3) (by decide) ?_
    refine wg_iadd (d131_35 L xs) ?_
    refine wg_top (y := (nI (c + i + 3))) (nI_add (c + i) 3) ?_
    refine wg_iload_n (d131_36 L xs) rfl ?_
    refine wn_icmp_ge (d131_37 L xs) (x := c + i + 3) (y := c + j) (by omega) (by omega) (t := 56) (by decide) (fun h2 => ?_) (fun h2 => ?_)
    · refine wg_iconst (d131_56 L xs) (x := (-1)) (by decide) ?_
      exact wg_iret (d131_57 L xs) rfl rfl ⟨by rw [oI_map_n (by unfold t_mac m_e2; (repeat' split) <;> first | rfl | (exfalso; omega))], rfl⟩
    · refine wg_aload_n (d131_40 L xs) rfl ?_
      refine wg_get (d131_41 L xs) (kd := 1) (cj := 9) (k0 := 5) rfl (Or.inl rfl) (by decide) rfl rfl ?_
      refine wg_iload (d131_44 L xs) rfl ?_
      refine wg_iload_n (d131_46 L xs) rfl ?_
      refine wg_iadd (d131_47 L xs) ?_
      refine wg_top (y := (nI ((100 * r) + (c + i)))) (nI_add (100 * r) (c + i)) ?_
      refine wg_iconst (d131_48 L xs) (x := 1) (by decide) ?_
      refine wg_iadd (d131_49 L xs) ?_
      refine wg_top (y := (nI (((100 * r) + (c + i)) + 1))) (nI_add ((100 * r) + (c + i)) 1) ?_
      refine wg_iald (d131_50 L xs) (n := 1600) (by decide) rfl (vp_in_nI (n := ((100 * r) + (c + i)) + 1) (by omega) (by omega)) ?_
      refine wg_top (y := (nI (gl D (i + 1)))) (by rw [nI_nat (n := ((100 * r) + (c + i)) + 1) (by omega)]; exact (rec_at hR (i := i + 1) (by omega) (by omega))) ?_
      refine wg_bipush (d131_51 L xs) (x := 123) (by decide) ?_
      refine wn_icmp_eq (d131_53 L xs) (x := gl D (i + 1)) (y := 123) (by omega) (by omega) (t := 58) (by decide) (fun h3 => ?_) (fun h3 => ?_)
      · refine wg_aload_n (d131_58 L xs) rfl ?_
        refine wg_get (d131_59 L xs) (kd := 1) (cj := 9) (k0 := 5) rfl (Or.inl rfl) (by decide) rfl rfl ?_
        refine wg_iload (d131_62 L xs) rfl ?_
        refine wg_iload_n (d131_64 L xs) rfl ?_
        refine wg_iadd (d131_65 L xs) ?_
        refine wg_top (y := (nI ((100 * r) + (c + i)))) (nI_add (100 * r) (c + i)) ?_
        refine wg_iconst (d131_66 L xs) (x := 2) (by decide) ?_
        refine wg_iadd (d131_67 L xs) ?_
        refine wg_top (y := (nI (((100 * r) + (c + i)) + 2))) (nI_add ((100 * r) + (c + i)) 2) ?_
        refine wg_iald (d131_68 L xs) (n := 1600) (by decide) rfl (vp_in_nI (n := ((100 * r) + (c + i)) + 2) (by omega) (by omega)) ?_
        refine wg_top (y := (nI (gl D (i + 2)))) (by rw [nI_nat (n := ((100 * r) + (c + i)) + 2) (by omega)]; exact (rec_at hR (i := i + 2) (by omega) (by omega))) ?_
        refine wg_istore (d131_69 L xs) (ls' := [some (.ref 141), some (.int (nI r)), some (.int (nI (c + i))), some (.int (nI (c + j))), some (.int (nI (100 * r))), some (.int (nI (gl D (i + 2)))), none, none]) (Nat.le_of_ble_eq_true rfl) rfl ?_
        refine wg_iload_n (d131_71 L xs) rfl ?_
        refine wg_iconst (d131_72 L xs) (x := 3) (by decide) ?_
        refine wg_iadd (d131_73 L xs) ?_
        refine wg_top (y := (nI (c + i + 3))) (nI_add (c + i) 3) ?_
        refine wg_istore (d131_74 L xs) (ls' := [some (.ref 141), some (.int (nI r)), some (.int (nI (c + i))), some (.int (nI (c + j))), some (.int (nI (100 * r))), some (.int (nI (gl D (i + 2)))), some (.int (nI (c + i + 3))), none]) (Nat.le_of_ble_eq_true rfl) rfl ?_
        refine wg_iload (d131_76 L xs) rfl ?_
        refine wg_bipush (d131_78 L xs) (x := 100) (by decide) ?_
        refine wn_icmp_eq (d131_80 L xs) (x := gl D (i + 2)) (y := 100) (by omega) (by omega) (t := 97) (by decide) (fun h4 => ?_) (fun h4 => ?_)
        · refine wg_iconst (d131_97 L xs) (x := 1) (by decide) ?_
          refine wg_goto (d131_98 L xs) (t := 102) (by decide) ?_
          refine wg_istore (d131_102 L xs) (ls' := [some (.ref 141), some (.int (nI r)), some (.int (nI (c + i))), some (.int (nI (c + j))), some (.int (nI (100 * r))), some (.int (nI (gl D (i + 2)))), some (.int (nI (c + i + 3))), some (.int 1)]) (Nat.le_of_ble_eq_true rfl) rfl ?_
          rw [mac_eq (gd := true) (by omega) (by omega) (by exact ⟨fun _ => by omega, fun _ => rfl⟩)]; exact md_mac1 (gd := true) hR hj (by omega)
        · refine wg_iload (d131_83 L xs) rfl ?_
          refine wg_bipush (d131_85 L xs) (x := 105) (by decide) ?_
          refine wn_icmp_eq (d131_87 L xs) (x := gl D (i + 2)) (y := 105) (by omega) (by omega) (t := 97) (by decide) (fun h5 => ?_) (fun h5 => ?_)
          · refine wg_iconst (d131_97 L xs) (x := 1) (by decide) ?_
            refine wg_goto (d131_98 L xs) (t := 102) (by decide) ?_
            refine wg_istore (d131_102 L xs) (ls' := [some (.ref 141), some (.int (nI r)), some (.int (nI (c + i))), some (.int (nI (c + j))), some (.int (nI (100 * r))), some (.int (nI (gl D (i + 2)))), some (.int (nI (c + i + 3))), some (.int 1)]) (Nat.le_of_ble_eq_true rfl) rfl ?_
            rw [mac_eq (gd := true) (by omega) (by omega) (by exact ⟨fun _ => by omega, fun _ => rfl⟩)]; exact md_mac1 (gd := true) hR hj (by omega)
          · refine wg_iload (d131_90 L xs) rfl ?_
            refine wg_bipush (d131_92 L xs) (x := 111) (by decide) ?_
            refine wn_icmp_ne (d131_94 L xs) (x := gl D (i + 2)) (y := 111) (by omega) (by omega) (t := 101) (by decide) (fun h6 => ?_) (fun h6 => ?_)
            · refine wg_iconst (d131_101 L xs) (x := 0) (by decide) ?_
              refine wg_istore (d131_102 L xs) (ls' := [some (.ref 141), some (.int (nI r)), some (.int (nI (c + i))), some (.int (nI (c + j))), some (.int (nI (100 * r))), some (.int (nI (gl D (i + 2)))), some (.int (nI (c + i + 3))), some (.int 0)]) (Nat.le_of_ble_eq_true rfl) rfl ?_
              rw [mac_eq (gd := false) (by omega) (by omega) (by exact ⟨fun h => absurd h (by decide), fun h => by omega⟩)]; exact md_mac1 (gd := false) hR hj (by omega)
            · refine wg_iconst (d131_97 L xs) (x := 1) (by decide) ?_
              refine wg_goto (d131_98 L xs) (t := 102) (by decide) ?_
              refine wg_istore (d131_102 L xs) (ls' := [some (.ref 141), some (.int (nI r)), some (.int (nI (c + i))), some (.int (nI (c + j))), some (.int (nI (100 * r))), some (.int (nI (gl D (i + 2)))), some (.int (nI (c + i + 3))), some (.int 1)]) (Nat.le_of_ble_eq_true rfl) rfl ?_
              rw [mac_eq (gd := true) (by omega) (by omega) (by exact ⟨fun _ => by omega, fun _ => rfl⟩)]; exact md_mac1 (gd := true) hR hj (by omega)
      · refine wg_iconst (d131_56 L xs) (x := (-1)) (by decide) ?_
        exact wg_iret (d131_57 L xs) rfl rfl ⟨by rw [oI_map_n (by unfold t_mac m_e2; (repeat' split) <;> first | rfl | (exfalso; omega))], rfl⟩
  · refine wg_aload_n (d131_13 L xs) rfl ?_
    refine wg_get (d131_14 L xs) (kd := 1) (cj := 9) (k0 := 5) rfl (Or.inl rfl) (by decide) rfl rfl ?_
    refine wg_iload (d131_17 L xs) rfl ?_
    refine wg_iload_n (d131_19 L xs) rfl ?_
    refine wg_iadd (d131_20 L xs) ?_
    refine wg_top (y := (nI ((100 * r) + (c + i)))) (nI_add (100 * r) (c + i)) ?_
    refine wg_iconst (d131_21 L xs) (x := 1) (by decide) ?_
    refine wg_iadd (d131_22 L xs) ?_
    refine wg_top (y := (nI (((100 * r) + (c + i)) + 1))) (nI_add ((100 * r) + (c + i)) 1) ?_
    refine wg_iald (d131_23 L xs) (n := 1600) (by decide) rfl (vp_in_nI (n := ((100 * r) + (c + i)) + 1) (by omega) (by omega)) ?_
    refine wg_top (y := (nI (gl D (i + 1)))) (by rw [nI_nat (n := ((100 * r) + (c + i)) + 1) (by omega)]; exact (rec_at hR (i := i + 1) (by omega) (by omega))) ?_
    refine wg_bipush (d131_24 L xs) (x := 37) (by decide) ?_
    refine wn_icmp_ne (d131_26 L xs) (x := gl D (i + 1)) (y := 37) (by omega) (by omega) (t := 33) (by decide) (fun h7 => ?_) (fun h7 => ?_)
    · refine wg_iload_n (d131_33 L xs) rfl ?_
      refine wg_iconst (d131_34 L xs) (x := 3) (by decide) ?_
      refine wg_iadd (d131_35 L xs) ?_
      refine wg_top (y := (nI (c + i + 3))) (nI_add (c + i) 3) ?_
      refine wg_iload_n (d131_36 L xs) rfl ?_
      refine wn_icmp_ge (d131_37 L xs) (x := c + i + 3) (y := c + j) (by omega) (by omega) (t := 56) (by decide) (fun h8 => ?_) (fun h8 => ?_)
      · refine wg_iconst (d131_56 L xs) (x := (-1)) (by decide) ?_
        exact wg_iret (d131_57 L xs) rfl rfl ⟨by rw [oI_map_n (by unfold t_mac m_e2; (repeat' split) <;> first | rfl | (exfalso; omega))], rfl⟩
      · refine wg_aload_n (d131_40 L xs) rfl ?_
        refine wg_get (d131_41 L xs) (kd := 1) (cj := 9) (k0 := 5) rfl (Or.inl rfl) (by decide) rfl rfl ?_
        refine wg_iload (d131_44 L xs) rfl ?_
        refine wg_iload_n (d131_46 L xs) rfl ?_
        refine wg_iadd (d131_47 L xs) ?_
        refine wg_top (y := (nI ((100 * r) + (c + i)))) (nI_add (100 * r) (c + i)) ?_
        refine wg_iconst (d131_48 L xs) (x := 1) (by decide) ?_
        refine wg_iadd (d131_49 L xs) ?_
        refine wg_top (y := (nI (((100 * r) + (c + i)) + 1))) (nI_add ((100 * r) + (c + i)) 1) ?_
        refine wg_iald (d131_50 L xs) (n := 1600) (by decide) rfl (vp_in_nI (n := ((100 * r) + (c + i)) + 1) (by omega) (by omega)) ?_
        refine wg_top (y := (nI (gl D (i + 1)))) (by rw [nI_nat (n := ((100 * r) + (c + i)) + 1) (by omega)]; exact (rec_at hR (i := i + 1) (by omega) (by omega))) ?_
        refine wg_bipush (d131_51 L xs) (x := 123) (by decide) ?_
        refine wn_icmp_eq (d131_53 L xs) (x := gl D (i + 1)) (y := 123) (by omega) (by omega) (t := 58) (by decide) (fun h9 => ?_) (fun h9 => ?_)
        · refine wg_aload_n (d131_58 L xs) rfl ?_
          refine wg_get (d131_59 L xs) (kd := 1) (cj := 9) (k0 := 5) rfl (Or.inl rfl) (by decide) rfl rfl ?_
          refine wg_iload (d131_62 L xs) rfl ?_
          refine wg_iload_n (d131_64 L xs) rfl ?_
          refine wg_iadd (d131_65 L xs) ?_
          refine wg_top (y := (nI ((100 * r) + (c + i)))) (nI_add (100 * r) (c + i)) ?_
          refine wg_iconst (d131_66 L xs) (x := 2) (by decide) ?_
          refine wg_iadd (d131_67 L xs) ?_
          refine wg_top (y := (nI (((100 * r) + (c + i)) + 2))) (nI_add ((100 * r) + (c + i)) 2) ?_
          refine wg_iald (d131_68 L xs) (n := 1600) (by decide) rfl (vp_in_nI (n := ((100 * r) + (c + i)) + 2) (by omega) (by omega)) ?_
          refine wg_top (y := (nI (gl D (i + 2)))) (by rw [nI_nat (n := ((100 * r) + (c + i)) + 2) (by omega)]; exact (rec_at hR (i := i + 2) (by omega) (by omega))) ?_
          refine wg_istore (d131_69 L xs) (ls' := [some (.ref 141), some (.int (nI r)), some (.int (nI (c + i))), some (.int (nI (c + j))), some (.int (nI (100 * r))), some (.int (nI (gl D (i + 2)))), none, none]) (Nat.le_of_ble_eq_true rfl) rfl ?_
          refine wg_iload_n (d131_71 L xs) rfl ?_
          refine wg_iconst (d131_72 L xs) (x := 3) (by decide) ?_
          refine wg_iadd (d131_73 L xs) ?_
          refine wg_top (y := (nI (c + i + 3))) (nI_add (c + i) 3) ?_
          refine wg_istore (d131_74 L xs) (ls' := [some (.ref 141), some (.int (nI r)), some (.int (nI (c + i))), some (.int (nI (c + j))), some (.int (nI (100 * r))), some (.int (nI (gl D (i + 2)))), some (.int (nI (c + i + 3))), none]) (Nat.le_of_ble_eq_true rfl) rfl ?_
          refine wg_iload (d131_76 L xs) rfl ?_
          refine wg_bipush (d131_78 L xs) (x := 100) (by decide) ?_
          refine wn_icmp_eq (d131_80 L xs) (x := gl D (i + 2)) (y := 100) (by omega) (by omega) (t := 97) (by decide) (fun h10 => ?_) (fun h10 => ?_)
          · refine wg_iconst (d131_97 L xs) (x := 1) (by decide) ?_
            refine wg_goto (d131_98 L xs) (t := 102) (by decide) ?_
            refine wg_istore (d131_102 L xs) (ls' := [some (.ref 141), some (.int (nI r)), some (.int (nI (c + i))), some (.int (nI (c + j))), some (.int (nI (100 * r))), some (.int (nI (gl D (i + 2)))), some (.int (nI (c + i + 3))), some (.int 1)]) (Nat.le_of_ble_eq_true rfl) rfl ?_
            rw [mac_eq (gd := true) (by omega) (by omega) (by exact ⟨fun _ => by omega, fun _ => rfl⟩)]; exact md_mac1 (gd := true) hR hj (by omega)
          · refine wg_iload (d131_83 L xs) rfl ?_
            refine wg_bipush (d131_85 L xs) (x := 105) (by decide) ?_
            refine wn_icmp_eq (d131_87 L xs) (x := gl D (i + 2)) (y := 105) (by omega) (by omega) (t := 97) (by decide) (fun h11 => ?_) (fun h11 => ?_)
            · refine wg_iconst (d131_97 L xs) (x := 1) (by decide) ?_
              refine wg_goto (d131_98 L xs) (t := 102) (by decide) ?_
              refine wg_istore (d131_102 L xs) (ls' := [some (.ref 141), some (.int (nI r)), some (.int (nI (c + i))), some (.int (nI (c + j))), some (.int (nI (100 * r))), some (.int (nI (gl D (i + 2)))), some (.int (nI (c + i + 3))), some (.int 1)]) (Nat.le_of_ble_eq_true rfl) rfl ?_
              rw [mac_eq (gd := true) (by omega) (by omega) (by exact ⟨fun _ => by omega, fun _ => rfl⟩)]; exact md_mac1 (gd := true) hR hj (by omega)
            · refine wg_iload (d131_90 L xs) rfl ?_
              refine wg_bipush (d131_92 L xs) (x := 111) (by decide) ?_
              refine wn_icmp_ne (d131_94 L xs) (x := gl D (i + 2)) (y := 111) (by omega) (by omega) (t := 101) (by decide) (fun h12 => ?_) (fun h12 => ?_)
              · refine wg_iconst (d131_101 L xs) (x := 0) (by decide) ?_
                refine wg_istore (d131_102 L xs) (ls' := [some (.ref 141), some (.int (nI r)), some (.int (nI (c + i))), some (.int (nI (c + j))), some (.int (nI (100 * r))), some (.int (nI (gl D (i + 2)))), some (.int (nI (c + i + 3))), some (.int 0)]) (Nat.le_of_ble_eq_true rfl) rfl ?_
                rw [mac_eq (gd := false) (by omega) (by omega) (by exact ⟨fun h => absurd h (by decide), fun h => by omega⟩)]; exact md_mac1 (gd := false) hR hj (by omega)
              · refine wg_iconst (d131_97 L xs) (x := 1) (by decide) ?_
                refine wg_goto (d131_98 L xs) (t := 102) (by decide) ?_
                refine wg_istore (d131_102 L xs) (ls' := [some (.ref 141), some (.int (nI r)), some (.int (nI (c + i))), some (.int (nI (c + j))), some (.int (nI (100 * r))), some (.int (nI (gl D (i + 2)))), some (.int (nI (c + i + 3))), some (.int 1)]) (Nat.le_of_ble_eq_true rfl) rfl ?_
                rw [mac_eq (gd := true) (by omega) (by omega) (by exact ⟨fun _ => by omega, fun _ => rfl⟩)]; exact md_mac1 (gd := true) hR hj (by omega)
        · refine wg_iconst (d131_56 L xs) (x := (-1)) (by decide) ?_
          exact wg_iret (d131_57 L xs) rfl rfl ⟨by rw [oI_map_n (by unfold t_mac m_e2; (repeat' split) <;> first | rfl | (exfalso; omega))], rfl⟩
    · refine wg_iload_n (d131_29 L xs) rfl ?_
      refine wg_iconst (d131_30 L xs) (x := 2) (by decide) ?_
      refine wg_iadd (d131_31 L xs) ?_
      refine wg_top (y := (nI (c + i + 2))) (nI_add (c + i) 2) ?_
      exact wg_iret (d131_32 L xs) rfl rfl ⟨by rw [oI_map_s (e := i + 1) (by unfold t_mac; rw [if_neg (by omega), if_pos (by omega)])]; rfl, rfl⟩
end RC
